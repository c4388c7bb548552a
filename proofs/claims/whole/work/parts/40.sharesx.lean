set_option maxRecDepth 20000 in
theorem c_X9_isNearer (g : vv_G) (S : vs_S) (k : Nat) (hk4 : k ≤ 4) (i : Nat) (hik : i < k) (h1 : 1 ≤ i) (a left first b : Nat) (hfa : first ≤ a) (ha : a ≤ 601) (hf1 : 1 ≤ first) (hb : b ≤ 1000) (hleft : left ≤ 600) (h16 : S.2.1 16 0 = nI first) (h4 : S.1 4 = nI k) (h5 : S.1 5 = nI b) : vs_FI g yX9_isNearer cX9_isNearer 4 (some .boolean) 1 [vv_r g 15, .int (nI i), .int (nI a), .int (nI left)] S (vs_b (decide (a < first + b) && decide (left ≤ (k - i) * (first + b - 1)))) S := by
  have hmu : (k - i) * (first + b - 1) ≤ 4 * 1600 := Nat.mul_le_mul (by omega) (by omega)
  refine vs_ofI (lv := [_, _, _, _]) mb_X9_isNearer (Nat.le_of_ble_eq_true rfl) rfl (fun x C F => ?_)
  refine vv_iload_n C dX9_isNearer_0 rfl ?_
  refine vv_if_eq (tgt := 43) C dX9_isNearer_1 (by decide) (fun q1 => ?_) (fun q1 => ?_)
  · exact absurd ((xn_eq (b := 0) (by omega) (by omega)).mp q1) (by omega)
  · refine vv_iload_n C dX9_isNearer_4 rfl ?_
    refine vv_aload_n C dX9_isNearer_5 rfl ?_
    refine gf_X9_tried C dX9_isNearer_6 fg_X9_11 ?_
    refine vv_iconst C dX9_isNearer_9 ic_0 ?_
    refine ld_16 C dX9_isNearer_10 (xn_in (n := 0) (by omega) (by omega)) ?_
    refine vs_eqi (v9 := nI first) (h16) ?_
    refine vv_isub C dX9_isNearer_11 ?_
    refine vs_eqi (v9 := nI (a - first)) (xn_sub hfa) ?_
    refine vv_aload_n C dX9_isNearer_12 rfl ?_
    refine gf_X9_apart C dX9_isNearer_13 fg_X9_26 ?_
    refine vs_eqi (v9 := nI b) (h5) ?_
    refine vv_icmp_ge (tgt := 47) C dX9_isNearer_16 (by decide) (fun q16 => ?_) (fun q16 => ?_)
    · rw [xn_le (by omega) (by omega)] at q16
      have hv : (decide (a < first + b) && decide (left ≤ (k - i) * (first + b - 1))) = false := by rw [decide_eq_false (show ¬ a < first + b by omega), Bool.false_and]
      refine vv_iconst C dX9_isNearer_47 ic_0 ?_
      exact vs_zret C F dX9_isNearer_48 rfl rfl ⟨by rw [hv]; rfl, rfl⟩
    · rw [xn_le (by omega) (by omega)] at q16
      refine vv_iload_n C dX9_isNearer_19 rfl ?_
      refine vv_aload_n C dX9_isNearer_20 rfl ?_
      refine gf_X9_among C dX9_isNearer_21 fg_X9_22 ?_
      refine vs_eqi (v9 := nI k) (h4) ?_
      refine vv_iload_n C dX9_isNearer_24 rfl ?_
      refine vv_isub C dX9_isNearer_25 ?_
      refine vs_eqi (v9 := nI (k - i)) (xn_sub (by omega)) ?_
      refine vv_aload_n C dX9_isNearer_26 rfl ?_
      refine gf_X9_tried C dX9_isNearer_27 fg_X9_11 ?_
      refine vv_iconst C dX9_isNearer_30 ic_0 ?_
      refine ld_16 C dX9_isNearer_31 (xn_in (n := 0) (by omega) (by omega)) ?_
      refine vs_eqi (v9 := nI first) (h16) ?_
      refine vv_aload_n C dX9_isNearer_32 rfl ?_
      refine gf_X9_apart C dX9_isNearer_33 fg_X9_26 ?_
      refine vs_eqi (v9 := nI b) (h5) ?_
      refine vv_iadd C dX9_isNearer_36 ?_
      refine vs_eqi (v9 := nI (first + b)) (nI_add _ _) ?_
      refine vv_iconst C dX9_isNearer_37 ic_1 ?_
      refine vv_isub C dX9_isNearer_38 ?_
      refine vs_eqi (v9 := nI (first + b - 1)) (xn_sub (a := first + b) (b := 1) (by omega)) ?_
      refine vv_imul C dX9_isNearer_39 ?_
      refine vs_eqi (v9 := nI ((k - i) * (first + b - 1))) (xn_mul _ _) ?_
      refine vv_icmp_gt (tgt := 47) C dX9_isNearer_40 (by decide) (fun q40 => ?_) (fun q40 => ?_)
      · rw [xn_lt (by omega) (by omega)] at q40
        have hv : (decide (a < first + b) && decide (left ≤ (k - i) * (first + b - 1))) = false := by rw [decide_eq_false (show ¬ left ≤ (k - i) * (first + b - 1) by omega), Bool.and_false]
        refine vv_iconst C dX9_isNearer_47 ic_0 ?_
        exact vs_zret C F dX9_isNearer_48 rfl rfl ⟨by rw [hv]; rfl, rfl⟩
      · rw [xn_lt (by omega) (by omega)] at q40
        have hv : (decide (a < first + b) && decide (left ≤ (k - i) * (first + b - 1))) = true := by rw [decide_eq_true (show left ≤ (k - i) * (first + b - 1) by omega), decide_eq_true (show a < first + b by omega)]; rfl
        refine vv_iconst C dX9_isNearer_43 ic_1 ?_
        refine vv_goto (tgt := 48) C dX9_isNearer_44 (by decide) ?_
        exact vs_zret C F dX9_isNearer_48 rfl rfl ⟨by rw [hv]; rfl, rfl⟩
set_option maxRecDepth 20000 in
theorem c_X9_isNearer0 (g : vv_G) (S : vs_S) (a left : Int32) : vs_FI g yX9_isNearer cX9_isNearer 4 (some .boolean) 1 [vv_r g 15, .int (nI 0), .int a, .int left] S (1 : Int32) S := by
  refine vs_ofI (lv := [_, _, _, _]) mb_X9_isNearer (Nat.le_of_ble_eq_true rfl) rfl (fun x C F => ?_)
  refine vv_iload_n C dX9_isNearer_0 rfl ?_
  refine vv_if_eq (tgt := 43) C dX9_isNearer_1 (by decide) (fun q1 => ?_) (fun q1 => ?_)
  · refine vv_iconst C dX9_isNearer_43 ic_1 ?_
    refine vv_goto (tgt := 48) C dX9_isNearer_44 (by decide) ?_
    first
    | exact vs_zret C F dX9_isNearer_48 rfl rfl ⟨rfl, rfl⟩
    | exact absurd rfl q1
  · exact absurd rfl q1
set_option maxRecDepth 20000 in
theorem c_X9_tryLast (g : vv_G) (S : vs_S) (hfl : vv_fl g = false) (hS : nx_ok S) (law : Nat) (hl : law ≤ 3) (hs : S.1 0 = nI law) (k : Nat) (hk2 : 2 ≤ k) (hk4 : k ≤ 4) (row : Nat → Nat) (left : Nat) (B : sh_B) (h4 : S.1 4 = nI k) (h16 : ∀ q, q < k - 1 → S.2.1 16 q = nI (row q)) (hB : sh_I k S B) (hfl1 : 2 ≤ row 0) (hfl2 : row 0 ≤ left) (hleft : left ≤ 600) : vs_KV g yX9_tryLast cX9_tryLast 2 none 5 [vv_r g 15, .int (nI left)] S (fun S1 => sh_I k S1 (if np_lx law left = true ∧ left - row 0 < B.1 then (left - row 0, va_up row (k - 1) left) else B) ∧ (∀ q, q < k - 1 → S1.2.1 16 q = S.2.1 16 q) ∧ vs_fr [5] [16, 17] [] S S1) := by
  have hb := hB.2.1
  have hr0 := h16 0 (by omega)
  refine vs_ofV (lv := [_, _]) mb_X9_tryLast (Nat.le_of_ble_eq_true rfl) rfl (fun x C F => ?_)
  refine vv_iload_n C dX9_tryLast_0 rfl ?_
  refine vv_aload_n C dX9_tryLast_1 rfl ?_
  refine gf_X9_tried C dX9_tryLast_2 fg_X9_11 ?_
  refine vv_iconst C dX9_tryLast_5 ic_0 ?_
  refine ld_16 C dX9_tryLast_6 (xn_in (n := 0) (by omega) (by omega)) ?_
  refine vs_eqi (v9 := nI (row 0)) (hr0) ?_
  refine vv_isub C dX9_tryLast_7 ?_
  refine vs_eqi (v9 := nI (left - row 0)) (xn_sub hfl2) ?_
  refine vv_aload_n C dX9_tryLast_8 rfl ?_
  refine gf_X9_apart C dX9_tryLast_9 fg_X9_26 ?_
  refine vs_eqi (v9 := nI B.1) (hB.1) ?_
  refine vv_icmp_ge (tgt := 68) C dX9_tryLast_12 (by decide) (fun q12 => ?_) (fun q12 => ?_)
  · rw [xn_le (by omega) (by omega)] at q12
    have hv : ¬ (np_lx law left = true ∧ left - row 0 < B.1) := fun z => by omega
    exact vs_vret C F dX9_tryLast_68 rfl ⟨by rw [if_neg hv]; exact hB, fun q hq => rfl, vs_fr.rf⟩
  · rw [xn_le (by omega) (by omega)] at q12
    refine vv_aload_n C dX9_tryLast_15 rfl ?_
    refine gf_X9_laws C dX9_tryLast_16 fg_X9_18 ?_
    refine vv_iload_n C dX9_tryLast_19 rfl ?_
    refine vv_i2l C dX9_tryLast_20 ?_
    refine vs_eql (v9 := lN left) (xn_i2l (by omega)) ?_
    refine vs_caliF C dX9_tryLast_21 (c_X1_isLawful g S hS law hl hs left (by omega)) mb_X1_isLawful mv_X1_isLawful lk_X9_41 ce_4 rfl rfl rfl rfl ⟨Nat.le_of_ble_eq_true rfl, Nat.le_of_ble_eq_true rfl, Nat.le_of_ble_eq_true rfl⟩ ?_
    refine vv_if_eq (tgt := 68) C dX9_tryLast_24 (by decide) (fun q24 => ?_) (fun q24 => ?_)
    · have hv : ¬ (np_lx law left = true ∧ left - row 0 < B.1) := fun z => by rw [vs_b0.mp q24] at z; cases z.1
      exact vs_vret C F dX9_tryLast_68 rfl ⟨by rw [if_neg hv]; exact hB, fun q hq => rfl, vs_fr.rf⟩
    · have hv : np_lx law left = true ∧ left - row 0 < B.1 := ⟨vs_b1.mp q24, by omega⟩
      refine vv_aload_n C dX9_tryLast_27 rfl ?_
      refine gf_X9_tried C dX9_tryLast_28 fg_X9_11 ?_
      refine vv_aload_n C dX9_tryLast_31 rfl ?_
      refine gf_X9_among C dX9_tryLast_32 fg_X9_22 ?_
      refine vs_eqi (v9 := nI k) (h4) ?_
      refine vv_iconst C dX9_tryLast_35 ic_1 ?_
      refine vv_isub C dX9_tryLast_36 ?_
      refine vs_eqi (v9 := nI (k - 1)) (xn_sub (a := k) (b := 1) (by omega)) ?_
      refine vv_iload_n C dX9_tryLast_37 rfl ?_
      refine st_16 C dX9_tryLast_38 (xn_in (by omega) (by omega)) ?_
      refine vs_eqS (S9 := vs_ua S 16 (upd (S.2.1 16) (k - 1) (nI left))) (by rw [xn_cl (by omega)]) ?_
      refine vv_aload_n C dX9_tryLast_39 rfl ?_
      refine vv_iload_n C dX9_tryLast_40 rfl ?_
      refine vv_aload_n C dX9_tryLast_41 rfl ?_
      refine gf_X9_tried C dX9_tryLast_42 fg_X9_11 ?_
      refine vv_iconst C dX9_tryLast_45 ic_0 ?_
      refine ld_16 C dX9_tryLast_46 (xn_in (n := 0) (by omega) (by omega)) ?_
      refine vs_eqi (v9 := nI (row 0)) (by show upd (S.2.1 16) (k - 1) (nI left) 0 = nI (row 0); rw [upd_ne (by omega)]; exact hr0) ?_
      refine vv_isub C dX9_tryLast_47 ?_
      refine vs_eqi (v9 := nI (left - row 0)) (xn_sub hfl2) ?_
      refine pf_X9_apart C dX9_tryLast_48 fp_X9_26 ?_
      refine vv_aload_n C dX9_tryLast_51 rfl ?_
      refine gf_X9_tried C dX9_tryLast_52 fg_X9_11 ?_
      refine vv_iconst C dX9_tryLast_55 ic_0 ?_
      refine vv_aload_n C dX9_tryLast_56 rfl ?_
      refine gf_X9_best C dX9_tryLast_57 fg_X9_15 ?_
      refine vv_iconst C dX9_tryLast_60 ic_0 ?_
      refine vv_aload_n C dX9_tryLast_61 rfl ?_
      refine gf_X9_among C dX9_tryLast_62 fg_X9_22 ?_
      refine vs_eqi (v9 := nI k) h4 ?_
      refine vv_copyI C hfl dX9_tryLast_65 lk_X9_47 ce_16 ce_17 (by decide) (by decide) (xn_neg (by omega)) (by rw [xn_cl (by omega)]; show 0 + k ≤ 4; omega) (by rw [xn_cl (by omega)]; show 0 + k ≤ 4; omega) ⟨Nat.le_of_ble_eq_true rfl, Nat.le_of_ble_eq_true rfl⟩ ?_
      rw [sa_17]
      refine vs_vret C F dX9_tryLast_68 rfl ⟨?_, ?_, ?_⟩
      · rw [if_pos hv]
        refine ⟨rfl, by dsimp only; omega, fun _ q hq => ?_⟩
        show va_cpy (upd (S.2.1 16) (k - 1) (nI left)) _ _ _ _ q = nI (va_up row (k - 1) left q)
        rw [xn_cl (by omega)]
        show (if 0 ≤ q ∧ q < 0 + k then upd (S.2.1 16) (k - 1) (nI left) (0 + (q - 0)) else _) = _
        rw [if_pos (by omega), Nat.zero_add, Nat.sub_zero, xn_upd (α := Nat), va_up1]
        split
        · rfl
        · exact h16 q (by omega)
      · intro q hq
        show upd (S.2.1 16) (k - 1) (nI left) q = _
        rw [upd_ne (by omega)]
      · exact ((vs_fr.rf.ua (by decide)).us (by decide)).ua (by decide)
set_option maxRecDepth 20000 in
theorem c_X9_tryShare (g : vv_G) (hfl : vv_fl g = false) (law : Nat) (hl : law ≤ 3) (k : Nat) (hk2 : 2 ≤ k) (hk4 : k ≤ 4) : ∀ (r : Nat) (S : vs_S) (row : Nat → Nat) (i fro left : Nat) (B : sh_B), i + r + 1 = k → 1 ≤ i → nx_ok S → S.1 0 = nI law → S.1 4 = nI k → (∀ q, q < i → S.2.1 16 q = nI (row q)) → sh_I k S B → 2 ≤ row 0 → row 0 ≤ fro → fro ≤ left → left ≤ 600 → vs_KV g yX9_tryShare cX9_tryShare 5 none (6 + r) [vv_r g 15, .int (nI i), .int (nI fro), .int (nI left)] S (fun S1 => sh_I k S1 (sy (np_lx law) k (row 0) r row fro left B) ∧ (∀ q, q < i → S1.2.1 16 q = S.2.1 16 q) ∧ vs_fr [5] [16, 17] [] S S1) := by
  intro r
  induction r with
  | zero =>
    intro S row i fro left B h0 h1 hS hs h4 h16 hB hr2 hrf hfl2 hleft
    have hik : i = k - 1 := by omega
    subst hik
    refine vs_ofV (lv := [_, _, _, _, _]) mb_X9_tryShare (Nat.le_of_ble_eq_true rfl) rfl (fun x C F => ?_)
    refine vv_iload_n C dX9_tryShare_0 rfl ?_
    refine vv_aload_n C dX9_tryShare_1 rfl ?_
    refine gf_X9_among C dX9_tryShare_2 fg_X9_22 ?_
    refine vs_eqi (v9 := nI k) (h4) ?_
    refine vv_iconst C dX9_tryShare_5 ic_1 ?_
    refine vv_isub C dX9_tryShare_6 ?_
    refine vs_eqi (v9 := nI (k - 1)) (xn_sub (a := k) (b := 1) (by omega)) ?_
    refine vv_icmp_ne (tgt := 16) C dX9_tryShare_7 (by decide) (fun q7 => ?_) (fun q7 => ?_)
    · exact absurd rfl q7
    · refine vv_aload_n C dX9_tryShare_10 rfl ?_
      refine vv_iload_n C dX9_tryShare_11 rfl ?_
      refine vs_callv C dX9_tryShare_12 (c_X9_tryLast g S hfl hS law hl hs k hk2 hk4 row left B h4 h16 hB hr2 (by omega) hleft) mb_X9_tryLast mv_X9_tryLast lk_X9_33 ce_15 rfl rfl rfl rfl ⟨Nat.le_of_ble_eq_true rfl, Nat.le_of_ble_eq_true rfl, Nat.le_of_ble_eq_true rfl⟩ (fun S12 p12 => ?_)
      exact vs_vret C F dX9_tryShare_15 rfl p12
  | succ r ih =>
    intro S row i fro left B h0 h1 hS hs h4 h16 hB hr2 hrf hfl2 hleft
    refine vs_ofV (lv := [_, _, _, _, _]) mb_X9_tryShare (Nat.le_of_ble_eq_true rfl) rfl (fun x C F => ?_)
    have loop : ∀ (f a : Nat) (S2 : vs_S) (B2 : sh_B), left + 1 ≤ a + f → a ≤ left + 1 → fro ≤ a → sh_I k S2 B2 → (∀ q, q < i → S2.2.1 16 q = nI (row q)) → S2.1 4 = nI k → vs_fr [5] [16, 17] [] S S2 → sf (sy_g (np_lx law) k (row 0) r row left) (r + 2) left f a B2 = sy (np_lx law) k (row 0) (r + 1) row fro left B → vv_V g x 5 0 0 19 [some (vv_r g 15), some (.int (nI i)), some (.int (nI fro)), some (.int (nI left)), some (.int (nI a))] [] (vs_cells g S2) := by
      intro f
      induction f with
      | zero =>
        intro a S2 B2 h2 h3 h5 hI2 h162 h42 fr2 he
        have ha : a = left + 1 := by omega
        subst ha
        have hlt : left < (left + 1) * (r + 2) := by
          have := Nat.le_mul_of_pos_right (left + 1) (show 0 < r + 2 by omega)
          omega
        have hmu : (left + 1) * (r + 2) ≤ 601 * 4 := Nat.mul_le_mul (by omega) (by omega)
        have hfin : B2 = sy (np_lx law) k (row 0) (r + 1) row fro left B := he
        refine vv_iload C dX9_tryShare_19 rfl ?_
        refine vv_aload_n C dX9_tryShare_21 rfl ?_
        refine gf_X9_among C dX9_tryShare_22 fg_X9_22 ?_
        refine vs_eqi (v9 := nI k) (h42) ?_
        refine vv_iload_n C dX9_tryShare_25 rfl ?_
        refine vv_isub C dX9_tryShare_26 ?_
        refine vs_eqi (v9 := nI (r + 2)) ((xn_sub (by omega)).trans (congrArg nI (by omega))) ?_
        refine vv_imul C dX9_tryShare_27 ?_
        refine vs_eqi (v9 := nI ((left + 1) * (r + 2))) (xn_mul _ _) ?_
        refine vv_iload_n C dX9_tryShare_28 rfl ?_
        refine vv_icmp_gt (tgt := 83) C dX9_tryShare_29 (by decide) (fun q29 => ?_) (fun q29 => ?_)
        · exact vs_vret C F dX9_tryShare_83 rfl ⟨by rw [← hfin]; exact hI2, fun q hq => (h162 q hq).trans (h16 q hq).symm, fr2⟩
        · exact absurd ((xn_lt (by omega) (by omega)).mpr hlt) q29
      | succ f ihf =>
        intro a S2 B2 h2 h3 h5 hI2 h162 h42 fr2 he
        have hmu : a * (r + 2) ≤ 601 * 4 := Nat.mul_le_mul (by omega) (by omega)
        refine vv_iload C dX9_tryShare_19 rfl ?_
        refine vv_aload_n C dX9_tryShare_21 rfl ?_
        refine gf_X9_among C dX9_tryShare_22 fg_X9_22 ?_
        refine vs_eqi (v9 := nI k) (h42) ?_
        refine vv_iload_n C dX9_tryShare_25 rfl ?_
        refine vv_isub C dX9_tryShare_26 ?_
        refine vs_eqi (v9 := nI (r + 2)) ((xn_sub (by omega)).trans (congrArg nI (by omega))) ?_
        refine vv_imul C dX9_tryShare_27 ?_
        refine vs_eqi (v9 := nI (a * (r + 2))) (xn_mul _ _) ?_
        refine vv_iload_n C dX9_tryShare_28 rfl ?_
        refine vv_icmp_gt (tgt := 83) C dX9_tryShare_29 (by decide) (fun q29 => ?_) (fun q29 => ?_)
        · have hz : ¬ a * (r + 2) ≤ left := by rw [xn_lt (by omega) (by omega)] at q29; omega
          have hfin : B2 = sy (np_lx law) k (row 0) (r + 1) row fro left B := by rw [← he, sf1, if_neg hz]
          exact vs_vret C F dX9_tryShare_83 rfl ⟨by rw [← hfin]; exact hI2, fun q hq => (h162 q hq).trans (h16 q hq).symm, fr2⟩
        · have hz : a * (r + 2) ≤ left := by rw [xn_lt (by omega) (by omega)] at q29; omega
          have hm := sh_mul hz
          refine vv_aload_n C dX9_tryShare_32 rfl ?_
          refine vv_iload_n C dX9_tryShare_33 rfl ?_
          refine vv_iload C dX9_tryShare_34 rfl ?_
          refine vv_iload_n C dX9_tryShare_36 rfl ?_
          refine vs_caliF C dX9_tryShare_37 (c_X9_isNearer g S2 k hk4 i (by omega) h1 a left (row 0) B2.1 (by omega) (by omega) (by omega) hI2.2.1 hleft (h162 0 (by omega)) h42 hI2.1) mb_X9_isNearer mv_X9_isNearer lk_X9_37 ce_15 rfl rfl rfl rfl ⟨by omega, by omega, Nat.le_of_ble_eq_true rfl⟩ ?_
          refine vv_if_eq (tgt := 83) C dX9_tryShare_40 (by decide) (fun q40 => ?_) (fun q40 => ?_)
          · have hv := vs_b0.mp q40
            have hfin : B2 = sy (np_lx law) k (row 0) (r + 1) row fro left B := by
              rw [← he]
              refine (sf_id _ _ (fun b hb hl => ?_)).symm
              unfold sy_g
              have hmb := sh_mul hl
              split
              · refine sy_no r _ b (left - b) B2 (by omega) (by omega) hmb.1 ?_
                by_cases y : row 0 + B2.1 ≤ b
                · exact Or.inl y
                · refine Or.inr ?_
                  by_cases y2 : a < row 0 + B2.1
                  · rw [decide_eq_true y2, Bool.true_and] at hv
                    have hv2 := of_decide_eq_false hv
                    rw [show k - i = r + 2 by omega] at hv2
                    have e : (r + 2) * (row 0 + B2.1 - 1) = (r + 1) * (row 0 + B2.1 - 1) + (row 0 + B2.1 - 1) := by rw [Nat.add_mul (r + 1) 1, Nat.one_mul]
                    omega
                  · omega
              · rfl
            exact vs_vret C F dX9_tryShare_83 rfl ⟨by rw [← hfin]; exact hI2, fun q hq => (h162 q hq).trans (h16 q hq).symm, fr2⟩
          · refine vv_aload_n C dX9_tryShare_43 rfl ?_
            refine gf_X9_laws C dX9_tryShare_44 fg_X9_18 ?_
            refine vv_iload C dX9_tryShare_47 rfl ?_
            refine vv_i2l C dX9_tryShare_49 ?_
            refine vs_eql (v9 := lN a) (xn_i2l (by omega)) ?_
            refine vs_caliF C dX9_tryShare_50 (c_X1_isLawful g S2 (nx_fr hS fr2 (by decide)) law hl ((fr2.1 0 (by decide)).trans hs) a (by omega)) mb_X1_isLawful mv_X1_isLawful lk_X9_41 ce_4 rfl rfl rfl rfl ⟨by omega, by omega, Nat.le_of_ble_eq_true rfl⟩ ?_
            refine vv_if_eq (tgt := 77) C dX9_tryShare_53 (by decide) (fun q53 => ?_) (fun q53 => ?_)
            · have hp : np_lx law a = false := vs_b0.mp q53
              refine vw_iinc (lv9 := [_, _, _, _, _]) C dX9_tryShare_77 rfl ic_1 (by decide) rfl rfl ?_
              refine vv_goto (tgt := 19) C dX9_tryShare_80 (by decide) ?_
              first
              | (rw [nI_1]
                 exact ihf (a + 1) S2 B2 (by omega) (by omega) (by omega) hI2 h162 h42 fr2 (by rw [← he, sf1, if_pos hz]; unfold sy_g; rw [if_neg (by rw [hp]; decide)]))
              | (rw [nI_1]
                 obtain ⟨p1, p2, p3⟩ := p74
                 have fr3 : vs_fr [5] [16, 17] [] S S74 := (fr2.ua (by decide)).tr p3
                 refine ihf (a + 1) S74 _ (by omega) (by omega) (by omega) p1 (fun q hq => ?_) (fr3.1 4 (by decide) |>.trans h4) fr3 ?_
                 · rw [p2 q (by omega)]
                   show upd (S2.2.1 16) (nI i).toNatClampNeg (nI a) q = _
                   rw [xn_cl (by omega), upd_ne (by omega)]
                   exact h162 q hq
                 · rw [← he, sf1, if_pos hz]
                   unfold sy_g
                   rw [if_pos hp, show k - 2 - r = i by omega, show va_up row i a 0 = row 0 from by rw [va_up1, if_neg (by omega)]])
            · have hp : np_lx law a = true := vs_b1.mp q53
              refine vv_aload_n C dX9_tryShare_56 rfl ?_
              refine gf_X9_tried C dX9_tryShare_57 fg_X9_11 ?_
              refine vv_iload_n C dX9_tryShare_60 rfl ?_
              refine vv_iload C dX9_tryShare_61 rfl ?_
              refine st_16 C dX9_tryShare_63 (xn_in (by omega) (by omega)) ?_
              refine vv_aload_n C dX9_tryShare_64 rfl ?_
              refine vv_iload_n C dX9_tryShare_65 rfl ?_
              refine vv_iconst C dX9_tryShare_66 ic_1 ?_
              refine vv_iadd C dX9_tryShare_67 ?_
              refine vs_eqi (v9 := nI (i + 1)) (nI_1 _) ?_
              refine vv_iload C dX9_tryShare_68 rfl ?_
              refine vv_iload_n C dX9_tryShare_70 rfl ?_
              refine vv_iload C dX9_tryShare_71 rfl ?_
              refine vv_isub C dX9_tryShare_73 ?_
              refine vs_eqi (v9 := nI (left - a)) (xn_sub (by omega)) ?_
              refine vs_callv C dX9_tryShare_74 (ih (vs_ua S2 16 (upd (S2.2.1 16) (nI i).toNatClampNeg (nI a))) (va_up row i a) (i + 1) a (left - a) B2 (by omega) (by omega) (nx_fr hS (fr2.ua (by decide)) (by decide)) ((fr2.1 0 (by decide)).trans hs) h42 (fun q hq => by
            show upd (S2.2.1 16) (nI i).toNatClampNeg (nI a) q = nI (va_up row i a q)
            rw [xn_cl (by omega), xn_upd (α := Nat), va_up1]
            split
            · rfl
            · exact h162 q (by omega)) hI2 (by rw [va_up1, if_neg (by omega)]; exact hr2) (by rw [va_up1, if_neg (by omega)]; omega) hm.1 (by omega)) mb_X9_tryShare mv_X9_tryShare lk_X9_29 ce_15 rfl rfl rfl rfl ⟨by omega, by omega, Nat.le_of_ble_eq_true rfl⟩ (fun S74 p74 => ?_)
              refine vw_iinc (lv9 := [_, _, _, _, _]) C dX9_tryShare_77 rfl ic_1 (by decide) rfl rfl ?_
              refine vv_goto (tgt := 19) C dX9_tryShare_80 (by decide) ?_
              first
              | (rw [nI_1]
                 exact ihf (a + 1) S2 B2 (by omega) (by omega) (by omega) hI2 h162 h42 fr2 (by rw [← he, sf1, if_pos hz]; unfold sy_g; rw [if_neg (by rw [hp]; decide)]))
              | (rw [nI_1]
                 obtain ⟨p1, p2, p3⟩ := p74
                 have fr3 : vs_fr [5] [16, 17] [] S S74 := (fr2.ua (by decide)).tr p3
                 refine ihf (a + 1) S74 _ (by omega) (by omega) (by omega) p1 (fun q hq => ?_) (fr3.1 4 (by decide) |>.trans h4) fr3 ?_
                 · rw [p2 q (by omega)]
                   show upd (S2.2.1 16) (nI i).toNatClampNeg (nI a) q = _
                   rw [xn_cl (by omega), upd_ne (by omega)]
                   exact h162 q hq
                 · rw [← he, sf1, if_pos hz]
                   unfold sy_g
                   rw [if_pos hp, show k - 2 - r = i by omega, show va_up row i a 0 = row 0 from by rw [va_up1, if_neg (by omega)]])
    refine vv_iload_n C dX9_tryShare_0 rfl ?_
    refine vv_aload_n C dX9_tryShare_1 rfl ?_
    refine gf_X9_among C dX9_tryShare_2 fg_X9_22 ?_
    refine vs_eqi (v9 := nI k) (h4) ?_
    refine vv_iconst C dX9_tryShare_5 ic_1 ?_
    refine vv_isub C dX9_tryShare_6 ?_
    refine vs_eqi (v9 := nI (k - 1)) (xn_sub (a := k) (b := 1) (by omega)) ?_
    refine vv_icmp_ne (tgt := 16) C dX9_tryShare_7 (by decide) (fun q7 => ?_) (fun q7 => ?_)
    · refine vv_iload_n C dX9_tryShare_16 rfl ?_
      refine vw_istore (lv9 := [_, _, _, _, _]) C dX9_tryShare_17 (by decide) rfl rfl ?_
      exact loop (left + 1) fro S B (by omega) (by omega) (Nat.le_refl _) hB h16 h4 vs_fr.rf rfl
    · exact absurd ((xn_eq (by omega) (by omega)).mp q7) (by omega)
