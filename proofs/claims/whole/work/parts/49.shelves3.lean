set_option maxRecDepth 20000 in
theorem c_X11_keep (g : vv_G) (S : vs_S) (m : Nat) (h : hT) (hX : sX S m h) (hz : S.1 18 = nI m) (hm5 : m ≤ 50) (d b : Int32) : vs_KI g yX11_keep cX11_keep 3 (some .int) 3 [vv_r g 0, .int d, .int b] S (fun r S1 => r = (k_keep m h d b).1 ∧ sX S1 m (k_keep m h d b).2 ∧ vs_fr [] [55, 56] [] S S1) := by
  refine vs_ofI (lv := [_, _, _]) mb_X11_keep (Nat.le_of_ble_eq_true rfl) rfl (fun x C F => ?_)
  refine vv_iload_n C dX11_keep_0 rfl ?_
  refine vs_calsiF C dX11_keep_1 (c_X8_isShelf g S _) mb_X8_isShelf ms_X8_isShelf lk_X11_246 rfl rfl ⟨Nat.le_of_ble_eq_true rfl, Nat.le_of_ble_eq_true rfl, Nat.le_of_ble_eq_true rfl⟩ ?_
  refine vv_if_eq (tgt := 24) C dX11_keep_4 (by decide) (fun q4 => ?_) (fun q4 => ?_)
  · have w0 : shw d = false := vs_b0.mp q4
    have hv : k_keep m h d b = (-1, h) := by unfold k_keep; rw [w0]; rfl
    refine vv_iconst C dX11_keep_24 ic_m1 ?_
    exact vs_iret C F dX11_keep_25 rfl ⟨by rw [hv], by rw [hv]; exact hX, vs_fr.rf⟩
  · have w1 : shw d = true := vs_b1.mp q4
    obtain ⟨k, hk, ek⟩ := shw_d w1
    subst ek
    refine vv_iload_n C dX11_keep_7 rfl ?_
    refine vv_iconst C dX11_keep_8 ic_m1 ?_
    refine vv_aload_n C dX11_keep_9 rfl ?_
    refine gf_X11_payments C dX11_keep_10 fg_X11_81 ?_
    refine vs_caliF C dX11_keep_13 (c_X4_size g S) mb_X4_size mv_X4_size lk_X11_267 ce_51 rfl rfl rfl rfl ⟨Nat.le_of_ble_eq_true rfl, Nat.le_of_ble_eq_true rfl, Nat.le_of_ble_eq_true rfl⟩ ?_
    refine vs_eqi (v9 := nI m) (hz) ?_
    refine vv_iconst C dX11_keep_16 ic_1 ?_
    refine vv_isub C dX11_keep_17 ?_
    refine vs_calsiF C dX11_keep_18 (c_X11_within g S _ _ _) mb_X11_within ms_X11_within lk_X11_94 rfl rfl ⟨Nat.le_of_ble_eq_true rfl, Nat.le_of_ble_eq_true rfl, Nat.le_of_ble_eq_true rfl⟩ ?_
    refine vv_if_ne (tgt := 26) C dX11_keep_21 (by decide) (fun q21 => ?_) (fun q21 => ?_)
    · have w2 : vs_w b (-1) (nI m - 1) = true := vs_b1.mp q21
      have hv : k_keep m h (nI k) b = (1, h_keep h k (if b < 0 then 0 else 1) b.toNatClampNeg) := by unfold k_keep; rw [w1, w2, if_pos vs_tt, xn_cl (n := k) (by omega)]
      have hbb : b = -1 ∨ ∃ k, k < m ∧ m ≤ 50 ∧ b = nI k := by
        by_cases z : b = -1
        · exact Or.inl z
        · obtain ⟨j, hj, ej⟩ := hm_wk z hm5 w2
          exact Or.inr ⟨j, hj, hm5, ej⟩
      refine vv_aload_n C dX11_keep_26 rfl ?_
      refine gf_X11_shelves C dX11_keep_27 fg_X11_90 ?_
      refine vv_iload_n C dX11_keep_30 rfl ?_
      refine vv_iload_n C dX11_keep_31 rfl ?_
      refine vs_calli C dX11_keep_32 (c_X8_holdPayment g S m h hX k hk b hbb) mb_X8_holdPayment mv_X8_holdPayment lk_X11_268 ce_54 rfl rfl rfl rfl ⟨Nat.le_of_ble_eq_true rfl, Nat.le_of_ble_eq_true rfl, Nat.le_of_ble_eq_true rfl⟩ (fun r32 S32 p32 => ?_)
      exact vs_iret C F dX11_keep_35 rfl ⟨by rw [hv]; exact p32.1, by rw [hv]; exact p32.2.1, p32.2.2⟩
    · have hv : k_keep m h (nI k) b = (-1, h) := by unfold k_keep; rw [w1, show vs_w b (-1) (nI m - 1) = false from vs_b0.mp q21]; rfl
      refine vv_iconst C dX11_keep_24 ic_m1 ?_
      exact vs_iret C F dX11_keep_25 rfl ⟨by rw [hv], by rw [hv]; exact hX, vs_fr.rf⟩
set_option maxRecDepth 20000 in
theorem c_X11_row (g : vv_G) (S : vs_S) (m : Nat) (h : hT) (hX : sX S m h) (hfl : vv_fl g = false) (d s n : Int32) : vs_KI g yX11_row cX11_row 4 (some .int) 3 [vv_r g 0, .int d, .int s, .int n] S (fun r S1 => r = (k_row h d s n).1 ∧ sX S1 m (k_row h d s n).2 ∧ vs_fr [] [55, 57] [59, 60, 61, 62, 63, 64] S S1) := by
  refine vs_ofI (lv := [_, _, _, _]) mb_X11_row (Nat.le_of_ble_eq_true rfl) rfl (fun x C F => ?_)
  refine vv_iload_n C dX11_row_0 rfl ?_
  refine vs_calsiF C dX11_row_1 (c_X8_isShelf g S _) mb_X8_isShelf ms_X8_isShelf lk_X11_246 rfl rfl ⟨Nat.le_of_ble_eq_true rfl, Nat.le_of_ble_eq_true rfl, Nat.le_of_ble_eq_true rfl⟩ ?_
  refine vv_if_eq (tgt := 22) C dX11_row_4 (by decide) (fun q4 => ?_) (fun q4 => ?_)
  · have w0 : shw d = false := vs_b0.mp q4
    have hv : k_row h d s n = (-1, h) := by unfold k_row; rw [w0]; rfl
    refine vv_iconst C dX11_row_22 ic_m1 ?_
    exact vs_iret C F dX11_row_23 rfl ⟨by rw [hv], by rw [hv]; exact hX, vs_fr.rf⟩
  · have w1 : shw d = true := vs_b1.mp q4
    obtain ⟨k, hk, ek⟩ := shw_d w1
    subst ek
    refine vv_iload_n C dX11_row_7 rfl ?_
    refine vv_iconst C dX11_row_8 ic_0 ?_
    refine vv_iconst C dX11_row_9 ic_4 ?_
    refine vs_calsiF C dX11_row_10 (c_X11_within g S _ _ _) mb_X11_within ms_X11_within lk_X11_94 rfl rfl ⟨Nat.le_of_ble_eq_true rfl, Nat.le_of_ble_eq_true rfl, Nat.le_of_ble_eq_true rfl⟩ ?_
    refine vv_if_eq (tgt := 22) C dX11_row_13 (by decide) (fun q13 => ?_) (fun q13 => ?_)
    · have hv : k_row h (nI k) s n = (-1, h) := by unfold k_row; rw [w1, show vs_w s 0 4 = false from vs_b0.mp q13]; rfl
      refine vv_iconst C dX11_row_22 ic_m1 ?_
      exact vs_iret C F dX11_row_23 rfl ⟨by rw [hv], by rw [hv]; exact hX, vs_fr.rf⟩
    · have w2 : vs_w s 0 4 = true := vs_b1.mp q13
      obtain ⟨s1, _, hs1, es⟩ := vs_wN (a := 0) (b := 4) (by omega) (by omega) w2
      subst es
      refine vv_iload_n C dX11_row_16 rfl ?_
      refine vv_bipush C dX11_row_17 bp_60 ?_
      refine vv_icmp_le (tgt := 24) C dX11_row_19 (by decide) (fun q19 => ?_) (fun q19 => ?_)
      · have w3 : ((shw (nI k) && vs_w (nI s1) 0 4) && decide (n ≤ 60)) = true := by rw [w1, w2, decide_eq_true q19]; rfl
        refine vv_iload_n C dX11_row_24 rfl ?_
        refine vv_if_ge (tgt := 33) C dX11_row_25 (by decide) (fun q25 => ?_) (fun q25 => ?_)
        · obtain ⟨n1, hn1, en⟩ := xn_of (n := 60) (by omega) q25 q19
          subst en
          have hv : k_row h (nI k) (nI s1) (nI n1) = (1, h_row h k s1 n1) := by unfold k_row; rw [if_pos w3, if_neg (Int32.not_lt.mpr q25), xn_cl (n := k) (by omega), xn_cl (n := s1) (by omega), xn_cl (n := n1) (by omega)]
          refine vv_aload_n C dX11_row_33 rfl ?_
          refine gf_X11_shelves C dX11_row_34 fg_X11_90 ?_
          refine vv_iload_n C dX11_row_37 rfl ?_
          refine vv_iload_n C dX11_row_38 rfl ?_
          refine vv_iload_n C dX11_row_39 rfl ?_
          refine vs_calli C dX11_row_40 (c_X8_holdRow g S m h hX k hk hfl s1 n1 (by omega) (by omega)) mb_X8_holdRow mv_X8_holdRow lk_X11_271 ce_54 rfl rfl rfl rfl ⟨Nat.le_of_ble_eq_true rfl, Nat.le_of_ble_eq_true rfl, Nat.le_of_ble_eq_true rfl⟩ (fun r40 S40 p40 => ?_)
          first
          | exact vs_iret C F dX11_row_43 rfl ⟨by rw [hv], by rw [hv]; exact hX, vs_fr.rf⟩
          | exact vs_iret C F dX11_row_43 rfl ⟨by rw [hv]; exact p40.1, by rw [hv]; exact p40.2.1, p40.2.2⟩
        · have hv : k_row h (nI k) (nI s1) n = (-14, h) := by unfold k_row; rw [if_pos w3, if_pos (Int32.not_le.mp q25)]
          refine vv_bipush C dX11_row_28 bp_m14 ?_
          refine vv_goto (tgt := 43) C dX11_row_30 (by decide) ?_
          first
          | exact vs_iret C F dX11_row_43 rfl ⟨by rw [hv], by rw [hv]; exact hX, vs_fr.rf⟩
          | exact vs_iret C F dX11_row_43 rfl ⟨by rw [hv]; exact p40.1, by rw [hv]; exact p40.2.1, p40.2.2⟩
      · have hv : k_row h (nI k) (nI s1) n = (-1, h) := by unfold k_row; rw [w1, w2, decide_eq_false q19]; rfl
        refine vv_iconst C dX11_row_22 ic_m1 ?_
        exact vs_iret C F dX11_row_23 rfl ⟨by rw [hv], by rw [hv]; exact hX, vs_fr.rf⟩
set_option maxRecDepth 20000 in
theorem c_X11_put (g : vv_G) (S : vs_S) (m : Nat) (h : hT) (hX : sX S m h) (hfl : vv_fl g = false) (d i : Int32) (v : Int64) : vs_KI g yX11_put cX11_put 5 (some .int) 4 [vv_r g 0, .int d, .int i, .long v] S (fun r S1 => r = (k_put h d i v).1 ∧ sX S1 m (k_put h d i v).2 ∧ vs_fr [] [] [59, 60, 61, 62, 63, 64] S S1) := by
  refine vs_ofI (lv := [_, _, _, _, _]) mb_X11_put (Nat.le_of_ble_eq_true rfl) rfl (fun x C F => ?_)
  refine vv_iload_n C dX11_put_0 rfl ?_
  refine vs_calsiF C dX11_put_1 (c_X8_isShelf g S _) mb_X8_isShelf ms_X8_isShelf lk_X11_246 rfl rfl ⟨Nat.le_of_ble_eq_true rfl, Nat.le_of_ble_eq_true rfl, Nat.le_of_ble_eq_true rfl⟩ ?_
  refine vv_if_ne (tgt := 9) C dX11_put_4 (by decide) (fun q4 => ?_) (fun q4 => ?_)
  · have w1 : shw d = true := vs_b1.mp q4
    obtain ⟨k, hk, ek⟩ := shw_d w1
    subst ek
    refine vv_aload_n C dX11_put_9 rfl ?_
    refine gf_X11_shelves C dX11_put_10 fg_X11_90 ?_
    refine vv_iload_n C dX11_put_13 rfl ?_
    refine vv_iload_n C dX11_put_14 rfl ?_
    refine vv_lload_n C dX11_put_15 rfl ?_
    refine vs_calli C dX11_put_16 (c_X8_write g S m h hX k hk hfl i v) mb_X8_write mv_X8_write lk_X11_274 ce_54 rfl rfl rfl rfl ⟨Nat.le_of_ble_eq_true rfl, Nat.le_of_ble_eq_true rfl, Nat.le_of_ble_eq_true rfl⟩ (fun r16 S16 p16 => ?_)
    refine vs_iret C F dX11_put_19 rfl ⟨?_, ?_, p16.2.2⟩
    · unfold k_put
      rw [if_pos w1, xn_cl (n := k) (by omega), p16.1]
      split <;> rfl
    · have z := p16.2.1
      unfold k_put
      rw [if_pos w1, xn_cl (n := k) (by omega)]
      by_cases y : rf h k i = 0
      · rw [if_pos y] at z ⊢
        exact z
      · rw [if_neg y] at z ⊢
        exact z
  · have w0 : shw d = false := vs_b0.mp q4
    have hv : k_put h d i v = (-1, h) := by unfold k_put; rw [w0]; rfl
    refine vv_iconst C dX11_put_7 ic_m1 ?_
    exact vs_iret C F dX11_put_8 rfl ⟨by rw [hv], by rw [hv]; exact hX, vs_fr.rf⟩
set_option maxRecDepth 20000 in
theorem c_X11_element (g : vv_G) (S : vs_S) (m : Nat) (h : hT) (hX : sX S m h) (d i : Int32) : vs_FL g yX11_element cX11_element 3 (some .long) 4 [vv_r g 0, .int d, .int i] S (k_el h d i) S := by
  refine vs_ofL (lv := [_, _, _]) mb_X11_element (Nat.le_of_ble_eq_true rfl) rfl (fun x C F => ?_)
  refine vv_iload_n C dX11_element_0 rfl ?_
  refine vs_calsiF C dX11_element_1 (c_X8_isShelf g S _) mb_X8_isShelf ms_X8_isShelf lk_X11_246 rfl rfl ⟨Nat.le_of_ble_eq_true rfl, Nat.le_of_ble_eq_true rfl, Nat.le_of_ble_eq_true rfl⟩ ?_
  refine vv_if_ne (tgt := 11) C dX11_element_4 (by decide) (fun q4 => ?_) (fun q4 => ?_)
  · have w1 : shw d = true := vs_b1.mp q4
    obtain ⟨k, hk, ek⟩ := shw_d w1
    subst ek
    refine vv_aload_n C dX11_element_11 rfl ?_
    refine gf_X11_shelves C dX11_element_12 fg_X11_90 ?_
    refine vv_iload_n C dX11_element_15 rfl ?_
    refine vv_iload_n C dX11_element_16 rfl ?_
    refine vs_callF C dX11_element_17 (c_X8_read g S m h hX k hk i) mb_X8_read mv_X8_read lk_X11_278 ce_54 rfl rfl rfl rfl ⟨Nat.le_of_ble_eq_true rfl, Nat.le_of_ble_eq_true rfl, Nat.le_of_ble_eq_true rfl⟩ ?_
    exact vs_lret C F dX11_element_20 rfl ⟨by unfold k_el; rw [if_pos w1, xn_cl (n := k) (by omega)], rfl⟩
  · have w0 : shw d = false := vs_b0.mp q4
    refine vv_ldc2 C dX11_element_7 kc_X11_122 ?_
    exact vs_lret C F dX11_element_10 rfl ⟨by unfold k_el; rw [w0]; rfl, rfl⟩
set_option maxRecDepth 20000 in
theorem c_X11_shift (g : vv_G) (S : vs_S) (m : Nat) (h : hT) (hX : sX S m h) (hfl : vv_fl g = false) (d i e j n : Int32) : vs_KI g yX11_shift cX11_shift 6 (some .int) 3 [vv_r g 0, .int d, .int i, .int e, .int j, .int n] S (fun r S1 => r = (k_sh h d i e j n).1 ∧ sX S1 m (k_sh h d i e j n).2 ∧ vs_fr [] [] [59, 60, 61, 62, 63, 64] S S1) := by
  refine vs_ofI (lv := [_, _, _, _, _, _]) mb_X11_shift (Nat.le_of_ble_eq_true rfl) rfl (fun x C F => ?_)
  refine vv_iload_n C dX11_shift_0 rfl ?_
  refine vs_calsiF C dX11_shift_1 (c_X8_isShelf g S _) mb_X8_isShelf ms_X8_isShelf lk_X11_246 rfl rfl ⟨Nat.le_of_ble_eq_true rfl, Nat.le_of_ble_eq_true rfl, Nat.le_of_ble_eq_true rfl⟩ ?_
  refine vv_if_eq (tgt := 14) C dX11_shift_4 (by decide) (fun q4 => ?_) (fun q4 => ?_)
  · have w0 : shw d = false := vs_b0.mp q4
    have hv : k_sh h d i e j n = (-1, h) := by unfold k_sh; rw [w0]; rfl
    refine vv_iconst C dX11_shift_14 ic_m1 ?_
    exact vs_iret C F dX11_shift_15 rfl ⟨by rw [hv], by rw [hv]; exact hX, vs_fr.rf⟩
  · have w1 : shw d = true := vs_b1.mp q4
    obtain ⟨k, hk, ek⟩ := shw_d w1
    subst ek
    refine vv_iload_n C dX11_shift_7 rfl ?_
    refine vs_calsiF C dX11_shift_8 (c_X8_isShelf g S _) mb_X8_isShelf ms_X8_isShelf lk_X11_246 rfl rfl ⟨Nat.le_of_ble_eq_true rfl, Nat.le_of_ble_eq_true rfl, Nat.le_of_ble_eq_true rfl⟩ ?_
    refine vv_if_ne (tgt := 16) C dX11_shift_11 (by decide) (fun q11 => ?_) (fun q11 => ?_)
    · have w2 : shw e = true := vs_b1.mp q11
      obtain ⟨k2, hk2, ek2⟩ := shw_d w2
      subst ek2
      have hv : k_sh h (nI k) i (nI k2) j n = cpv h k i k2 j n := by unfold k_sh; rw [w1, w2, if_pos vs_tt, xn_cl (n := k) (by omega), xn_cl (n := k2) (by omega)]
      refine vv_aload_n C dX11_shift_16 rfl ?_
      refine gf_X11_shelves C dX11_shift_17 fg_X11_90 ?_
      refine vv_iload_n C dX11_shift_20 rfl ?_
      refine vv_iload_n C dX11_shift_21 rfl ?_
      refine vv_iload_n C dX11_shift_22 rfl ?_
      refine vv_iload C dX11_shift_23 rfl ?_
      refine vv_iload C dX11_shift_25 rfl ?_
      refine vs_calli C dX11_shift_27 (c_X8_copy g S m h hX k hk k2 hk2 hfl i j n) mb_X8_copy mv_X8_copy lk_X11_281 ce_54 rfl rfl rfl rfl ⟨Nat.le_of_ble_eq_true rfl, Nat.le_of_ble_eq_true rfl, Nat.le_of_ble_eq_true rfl⟩ (fun r27 S27 p27 => ?_)
      exact vs_iret C F dX11_shift_30 rfl ⟨by rw [hv]; exact p27.1, by rw [hv]; exact p27.2.1, p27.2.2⟩
    · have w0 : shw e = false := vs_b0.mp q11
      have hv : k_sh h (nI k) i e j n = (-1, h) := by unfold k_sh; rw [w1, w0]; rfl
      refine vv_iconst C dX11_shift_14 ic_m1 ?_
      exact vs_iret C F dX11_shift_15 rfl ⟨by rw [hv], by rw [hv]; exact hX, vs_fr.rf⟩
set_option maxRecDepth 20000 in
theorem c_X11_taken (g : vv_G) (S : vs_S) (m : Nat) (h : hT) (hX : sX S m h) (K : Nat → Nat) (hp : plX S m K) (d k : Int32) : vs_FI g yX11_taken cX11_taken 3 (some .int) 3 [vv_r g 0, .int d, .int k] S (k_tk K h d k) S := by
  refine vs_ofI (lv := [_, _, _]) mb_X11_taken (Nat.le_of_ble_eq_true rfl) rfl (fun x C F => ?_)
  refine vv_iload_n C dX11_taken_0 rfl ?_
  refine vs_calsiF C dX11_taken_1 (c_X8_isShelf g S _) mb_X8_isShelf ms_X8_isShelf lk_X11_246 rfl rfl ⟨Nat.le_of_ble_eq_true rfl, Nat.le_of_ble_eq_true rfl, Nat.le_of_ble_eq_true rfl⟩ ?_
  refine vv_if_eq (tgt := 17) C dX11_taken_4 (by decide) (fun q4 => ?_) (fun q4 => ?_)
  · have w0 : shw d = false := vs_b0.mp q4
    have hv : k_tk K h d k = -1 := by unfold k_tk; rw [w0]; rfl
    refine vv_iconst C dX11_taken_17 ic_m1 ?_
    exact vs_iret C F dX11_taken_18 rfl ⟨hv.symm, rfl⟩
  · have w1 : shw d = true := vs_b1.mp q4
    obtain ⟨k9, hk, ek⟩ := shw_d w1
    subst ek
    refine vv_iload_n C dX11_taken_7 rfl ?_
    refine vv_iconst C dX11_taken_8 ic_0 ?_
    refine vv_bipush C dX11_taken_9 bp_7 ?_
    refine vs_calsiF C dX11_taken_11 (c_X11_within g S _ _ _) mb_X11_within ms_X11_within lk_X11_94 rfl rfl ⟨Nat.le_of_ble_eq_true rfl, Nat.le_of_ble_eq_true rfl, Nat.le_of_ble_eq_true rfl⟩ ?_
    refine vv_if_ne (tgt := 19) C dX11_taken_14 (by decide) (fun q14 => ?_) (fun q14 => ?_)
    · have w2 : vs_w k 0 7 = true := vs_b1.mp q14
      obtain ⟨k1, _, hk1, ek1⟩ := vs_wN (a := 0) (b := 7) (by omega) (by omega) w2
      subst ek1
      refine vv_aload_n C dX11_taken_19 rfl ?_
      refine gf_X11_shelves C dX11_taken_20 fg_X11_90 ?_
      refine vv_iload_n C dX11_taken_23 rfl ?_
      refine vv_iload_n C dX11_taken_24 rfl ?_
      refine vs_caliF C dX11_taken_25 (c_X8_kindUnder g S m h hX k9 hk K hp k1 (by omega)) mb_X8_kindUnder mv_X8_kindUnder lk_X11_285 ce_54 rfl rfl rfl rfl ⟨Nat.le_of_ble_eq_true rfl, Nat.le_of_ble_eq_true rfl, Nat.le_of_ble_eq_true rfl⟩ ?_
      exact vs_iret C F dX11_taken_28 rfl ⟨by unfold k_tk; rw [w1, w2, if_pos vs_tt, xn_cl (n := k9) (by omega), xn_cl (n := k1) (by omega)], rfl⟩
    · have hv : k_tk K h (nI k9) k = -1 := by unfold k_tk; rw [w1, show vs_w k 0 7 = false from vs_b0.mp q14]; rfl
      refine vv_iconst C dX11_taken_17 ic_m1 ?_
      exact vs_iret C F dX11_taken_18 rfl ⟨hv.symm, rfl⟩
set_option maxRecDepth 20000 in
theorem c_X11_looked (g : vv_G) (S : vs_S) (m : Nat) (h : hT) (hX : sX S m h) (hS : nx_ok S) (law : Nat) (hl : law ≤ 3) (hs : S.1 0 = nI law) (d i n : Int32) : vs_FI g yX11_looked cX11_looked 4 (some .int) 6 [vv_r g 0, .int d, .int i, .int n] S (k_lk (np_lx law) h d i n) S := by
  refine vs_ofI (lv := [_, _, _, _]) mb_X11_looked (Nat.le_of_ble_eq_true rfl) rfl (fun x C F => ?_)
  refine vv_iload_n C dX11_looked_0 rfl ?_
  refine vs_calsiF C dX11_looked_1 (c_X8_isShelf g S _) mb_X8_isShelf ms_X8_isShelf lk_X11_246 rfl rfl ⟨Nat.le_of_ble_eq_true rfl, Nat.le_of_ble_eq_true rfl, Nat.le_of_ble_eq_true rfl⟩ ?_
  refine vv_if_eq (tgt := 17) C dX11_looked_4 (by decide) (fun q4 => ?_) (fun q4 => ?_)
  · have w0 : shw d = false := vs_b0.mp q4
    have hv : k_lk (np_lx law) h d i n = -1 := by unfold k_lk; rw [w0]; rfl
    refine vv_iconst C dX11_looked_17 ic_m1 ?_
    exact vs_iret C F dX11_looked_18 rfl ⟨hv.symm, rfl⟩
  · have w1 : shw d = true := vs_b1.mp q4
    obtain ⟨k, hk, ek⟩ := shw_d w1
    subst ek
    refine vv_iload_n C dX11_looked_7 rfl ?_
    refine vv_iconst C dX11_looked_8 ic_1 ?_
    refine vv_bipush C dX11_looked_9 bp_60 ?_
    refine vs_calsiF C dX11_looked_11 (c_X11_within g S _ _ _) mb_X11_within ms_X11_within lk_X11_94 rfl rfl ⟨Nat.le_of_ble_eq_true rfl, Nat.le_of_ble_eq_true rfl, Nat.le_of_ble_eq_true rfl⟩ ?_
    refine vv_if_ne (tgt := 19) C dX11_looked_14 (by decide) (fun q14 => ?_) (fun q14 => ?_)
    · have w2 : vs_w n 1 60 = true := vs_b1.mp q14
      obtain ⟨n1, hn1, hn2, en⟩ := vs_wN (a := 1) (b := 60) (by omega) (by omega) w2
      subst en
      refine vv_aload_n C dX11_looked_19 rfl ?_
      refine gf_X11_shelves C dX11_looked_20 fg_X11_90 ?_
      refine vv_iload_n C dX11_looked_23 rfl ?_
      refine vv_iload_n C dX11_looked_24 rfl ?_
      refine vv_iload_n C dX11_looked_25 rfl ?_
      refine vs_caliF C dX11_looked_26 (c_X8_firstUnlawful g S m h hX k hk hS law hl hs i n1 hn1 hn2) mb_X8_firstUnlawful mv_X8_firstUnlawful lk_X11_249 ce_54 rfl rfl rfl rfl ⟨Nat.le_of_ble_eq_true rfl, Nat.le_of_ble_eq_true rfl, Nat.le_of_ble_eq_true rfl⟩ ?_
      exact vs_iret C F dX11_looked_29 rfl ⟨by unfold k_lk; rw [w1, w2, if_pos vs_tt, xn_cl (n := k) (by omega), xn_cl (n := n1) (by omega)], rfl⟩
    · have hv : k_lk (np_lx law) h (nI k) i n = -1 := by unfold k_lk; rw [w1, show vs_w n 1 60 = false from vs_b0.mp q14]; rfl
      refine vv_iconst C dX11_looked_17 ic_m1 ?_
      exact vs_iret C F dX11_looked_18 rfl ⟨hv.symm, rfl⟩
