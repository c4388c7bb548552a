/-! COINS, DEBTS, CHANGES: the calls -/
def db_c (n : Int32) : Bool := ((!(decide (n < 0)) && !(decide (8 ≤ n / 10))) && !(decide (8 ≤ n % 10))) && !(decide (n / 10 = n % 10))
theorem db_e (n : Int32) : (((decide (0 ≤ n) && vs_w (n / 10) 0 7) && vs_w (n % 10) 0 7) && !(decide (n / 10 = n % 10))) = db_c n := by
  unfold db_c vs_w
  by_cases h : n < 0
  · rw [decide_eq_true h, decide_eq_false (Int32.not_le.mpr h)]
    rfl
  · obtain ⟨k, hk, e⟩ := nI_of h
    subst e
    have e1 : nI k / 10 = nI (k / 10) := by rw [xn_lit, xn_div hk (by omega)]
    have e2 : nI k % 10 = nI (k % 10) := by rw [xn_lit, xn_mod hk (by omega)]
    have p1 : (0 : Int32) ≤ nI (k / 10) := nI_pos' (by omega)
    have p2 : (0 : Int32) ≤ nI (k % 10) := nI_pos' (by omega)
    have q1 : decide (nI (k / 10) ≤ 7) = !(decide (8 ≤ nI (k / 10))) := by
      rw [xn_lit, xn_lit]
      by_cases z : k / 10 ≤ 7
      · rw [decide_eq_true ((xn_le (by omega) (by omega)).mpr z), decide_eq_false (fun y => by have := (xn_le (by omega) (by omega)).mp y; omega)]; rfl
      · rw [decide_eq_false (fun y => z ((xn_le (by omega) (by omega)).mp y)), decide_eq_true ((xn_le (by omega) (by omega)).mpr (by omega))]; rfl
    have q2 : decide (nI (k % 10) ≤ 7) = !(decide (8 ≤ nI (k % 10))) := by
      rw [xn_lit, xn_lit]
      by_cases z : k % 10 ≤ 7
      · rw [decide_eq_true ((xn_le (by omega) (by omega)).mpr z), decide_eq_false (fun y => by have := (xn_le (by omega) (by omega)).mp y; omega)]; rfl
      · rw [decide_eq_false (fun y => z ((xn_le (by omega) (by omega)).mp y)), decide_eq_true ((xn_le (by omega) (by omega)).mpr (by omega))]; rfl
    rw [e1, e2, decide_eq_false h, decide_eq_true (Int32.not_lt.mp h), decide_eq_true p1, decide_eq_true p2, q1, q2]
    rfl
theorem db_p {n : Int32} (h : db_c n = true) : ∃ k, k < 80 ∧ n = nI k ∧ k / 10 < 8 ∧ k % 10 < 8 ∧ ¬ k / 10 = k % 10 := by
  unfold db_c at h
  simp only [Bool.and_eq_true, Bool.not_eq_true', decide_eq_false_iff_not] at h
  obtain ⟨⟨⟨h1, h2⟩, h3⟩, h4⟩ := h
  obtain ⟨k, hk, e⟩ := nI_of h1
  subst e
  have e1 : nI k / 10 = nI (k / 10) := by rw [xn_lit, xn_div hk (by omega)]
  have e2 : nI k % 10 = nI (k % 10) := by rw [xn_lit, xn_mod hk (by omega)]
  rw [e1, xn_lit, xn_le (by omega) (by omega)] at h2
  rw [e2, xn_lit, xn_le (by omega) (by omega)] at h3
  rw [e1, e2, xn_eq (by omega) (by omega)] at h4
  exact ⟨k, by omega, rfl, by omega, by omega, h4⟩
def db_pp (n : Int32) : Nat := n.toNatClampNeg / 10 * 8 + n.toNatClampNeg % 10
theorem db_pk {k : Nat} (h : k < 2 ^ 31) : db_pp (nI k) = k / 10 * 8 + k % 10 := by
  unfold db_pp
  rw [xn_cl h]
/-- the ledger's first component changed: a coin comes -/
def lg_coin (L : lg_L) (c : Nat) (w m : Int32) : lg_L := match L with
  | (H, A, B, C, d, n) => (upd (upd H (64 + c) w) (80 + c) m, A, B, C, d, n)
def lg_mc (cn : Nat) (c what v : Int32) : Bool := (vs_w c 0 (nI cn - 1) && vs_w what 0 1) && (if what = 0 then vs_w v 1 999 else vs_w v 0 9)
def lg_mp (c what : Int32) : Nat := (if what = 0 then 64 else 80) + c.toNatClampNeg
theorem lg_mcp {cn : Nat} {c what : Int32} (hcn : cn ≤ 16) (h : vs_w c 0 (nI cn - 1) = true) : ∃ k, k < cn ∧ c = nI k := by
  cases cn with
  | zero =>
    have h1 := vs_wT h
    exact absurd (Int32.le_trans h1.1 h1.2) (by decide)
  | succ m =>
    rw [nI_pred] at h
    obtain ⟨k, h1, h2, h3⟩ := vs_wN (a := 0) (by omega) (by omega) h
    exact ⟨k, by omega, h3⟩
theorem lg_H {S : vs_S} {L : lg_L} (h : lg_X S L) : L.1 = S.2.1 19 := by
  obtain ⟨H, A, B, C, d, n⟩ := L
  exact h.1
theorem lg_HM {S : vs_S} {L : lg_L} (h : lg_M S L) : L.1 = S.2.1 66 := by
  obtain ⟨H, A, B, C, d, n⟩ := L
  exact h.1

set_option maxRecDepth 20000 in
theorem c_X11_debt (g : vv_G) (S : vs_S) (L : lg_L) (hL : lg_X S L) (hk : lg_ok L) (ab v : Int32) : vs_KI g yX11_debt cX11_debt 3 (some .int) 3 [vv_r g 0, .int ab, .int v] S (fun r S1 => r = (if (db_c ab && vs_w v 0 9999) = true then L.1 (db_pp ab) else -1) ∧ lg_X S1 (if (db_c ab && vs_w v 0 9999) = true then lg_bec L (db_pp ab) v else L) ∧ vs_fr [6, 7, 8] [19, 20, 21, 22] [] S S1) := by
  obtain ⟨H, A, B, C0, d, n9⟩ := L
  refine vs_ofI (lv := [_, _, _]) mb_X11_debt (Nat.le_of_ble_eq_true rfl) rfl (fun x C F => ?_)
  refine vv_iload_n C dX11_debt_0 rfl ?_
  refine vs_calsiF C dX11_debt_1 (c_X0_isPair g S _) mb_X0_isPair ms_X0_isPair lk_X11_222 rfl rfl ⟨Nat.le_of_ble_eq_true rfl, Nat.le_of_ble_eq_true rfl, Nat.le_of_ble_eq_true rfl⟩ ?_
  refine vv_if_eq (tgt := 18) C dX11_debt_4 (by decide) (fun q4 => ?_) (fun q4 => ?_)
  · have w1 : db_c ab = false := vs_b0.mp q4
    refine vv_iconst C dX11_debt_18 ic_m1 ?_
    exact vs_iret C F dX11_debt_19 rfl ⟨by first | (rw [w1]; rfl) | (rw [w2, Bool.and_false]; rfl), by first | (rw [w1]; exact hL) | (rw [w2, Bool.and_false]; exact hL), vs_fr.rf⟩
  · have w1 : db_c ab = true := vs_b1.mp q4
    refine vv_iload_n C dX11_debt_7 rfl ?_
    refine vv_iconst C dX11_debt_8 ic_0 ?_
    refine vv_sipush C dX11_debt_9 sp_9999 ?_
    refine vs_calsiF C dX11_debt_12 (c_X11_within g S _ _ _) mb_X11_within ms_X11_within lk_X11_94 rfl rfl ⟨Nat.le_of_ble_eq_true rfl, Nat.le_of_ble_eq_true rfl, Nat.le_of_ble_eq_true rfl⟩ ?_
    refine vv_if_ne (tgt := 20) C dX11_debt_15 (by decide) (fun q15 => ?_) (fun q15 => ?_)
    · have w2 : vs_w v 0 9999 = true := vs_b1.mp q15
      obtain ⟨k, k0, k1, k2, k3, k4⟩ := db_p w1
      subst k1
      have hwt : (db_c (nI k) && vs_w v 0 9999) = true := by rw [w1, w2]; rfl
      refine vv_aload_n C dX11_debt_20 rfl ?_
      refine gf_X11_ledger C dX11_debt_21 fg_X11_44 ?_
      refine vv_iload_n C dX11_debt_24 rfl ?_
      refine vv_bipush C dX11_debt_25 bp_10 ?_
      refine vv_idiv C dX11_debt_27 (by decide) ?_
      refine vs_eqi (v9 := nI (k / 10)) (by rw [xn_lit, xn_div (by omega) (by omega)]) ?_
      refine vv_iload_n C dX11_debt_28 rfl ?_
      refine vv_bipush C dX11_debt_29 bp_10 ?_
      refine vv_irem C dX11_debt_31 (by decide) ?_
      refine vs_eqi (v9 := nI (k % 10)) (by rw [xn_lit, xn_mod (by omega) (by omega)]) ?_
      refine vs_calsiF C dX11_debt_32 (c_X0_place g S _ _) mb_X0_place ms_X0_place lk_X11_225 rfl rfl ⟨Nat.le_of_ble_eq_true rfl, Nat.le_of_ble_eq_true rfl, Nat.le_of_ble_eq_true rfl⟩ ?_
      refine vs_eqi (v9 := nI (k / 10 * 8 + k % 10)) (by rw [xn_lit, xn_mul, nI_add]) ?_
      refine vv_iload_n C dX11_debt_35 rfl ?_
      refine vs_calli C dX11_debt_36 (c_X2_become g S H A B C0 d n9 hL hk (k / 10 * 8 + k % 10) (by omega) v) mb_X2_become mv_X2_become lk_X11_168 ce_18 rfl rfl rfl rfl ⟨Nat.le_of_ble_eq_true rfl, Nat.le_of_ble_eq_true rfl, Nat.le_of_ble_eq_true rfl⟩ (fun r36 S36 p36 => ?_)
      exact vs_iret C F dX11_debt_39 rfl ⟨by rw [if_pos hwt, db_pk (by omega)]; exact p36.1.trans (congrFun hL.1.symm _), by rw [if_pos hwt, db_pk (by omega)]; exact p36.2.1, p36.2.2⟩
    · have w2 : vs_w v 0 9999 = false := vs_b0.mp q15
      refine vv_iconst C dX11_debt_18 ic_m1 ?_
      exact vs_iret C F dX11_debt_19 rfl ⟨by first | (rw [w1]; rfl) | (rw [w2, Bool.and_false]; rfl), by first | (rw [w1]; exact hL) | (rw [w2, Bool.and_false]; exact hL), vs_fr.rf⟩
set_option maxRecDepth 20000 in
theorem c_X12_debt (g : vv_G) (S : vs_S) (L : lg_L) (hL : lg_M S L) (hk : lg_ok L) (ab v : Int32) : vs_KI g yX12_debt cX12_debt 3 (some .int) 4 [vv_r g 65, .int ab, .int v] S (fun r S1 => r = (if (db_c ab && vs_w v 0 9999) = true then L.1 (db_pp ab) else -1) ∧ lg_M S1 (if (db_c ab && vs_w v 0 9999) = true then lg_bec L (db_pp ab) v else L) ∧ vs_fr [21, 22] [66, 67, 68, 69] [] S S1) := by
  obtain ⟨H, A, B, C0, d, n9⟩ := L
  refine vs_ofI (lv := [_, _, _]) mb_X12_debt (Nat.le_of_ble_eq_true rfl) rfl (fun x C F => ?_)
  refine vv_iload_n C dX12_debt_0 rfl ?_
  refine vs_calsiF C dX12_debt_1 (c_X12_isAb g S _) mb_X12_isAb ms_X12_isAb lk_X12_283 rfl rfl ⟨Nat.le_of_ble_eq_true rfl, Nat.le_of_ble_eq_true rfl, Nat.le_of_ble_eq_true rfl⟩ ?_
  refine vv_if_eq (tgt := 39) C dX12_debt_4 (by decide) (fun q4 => ?_) (fun q4 => ?_)
  · have w1 : db_c ab = false := by rw [← db_e]; exact vs_b0.mp q4
    refine vv_iconst C dX12_debt_39 ic_m1 ?_
    first
    | exact vs_iret C F dX12_debt_40 rfl ⟨by rw [if_pos hwt, db_pk (by omega)]; exact p33.1.trans (congrFun hL.1.symm _), by rw [if_pos hwt, db_pk (by omega)]; exact p33.2.1, p33.2.2⟩
    | exact vs_iret C F dX12_debt_40 rfl ⟨by first | (rw [w1]; rfl) | (rw [w2, Bool.and_false]; rfl), by first | (rw [w1]; exact hL) | (rw [w2, Bool.and_false]; exact hL), vs_fr.rf⟩
  · have w1 : db_c ab = true := by rw [← db_e]; exact vs_b1.mp q4
    refine vv_iload_n C dX12_debt_7 rfl ?_
    refine vv_i2l C dX12_debt_8 ?_
    refine vv_lconst C dX12_debt_9 lc_0 ?_
    refine vs_eql (v9 := (0 : Int32).toInt64) (by decide +kernel) ?_
    refine vv_ldc2 C dX12_debt_10 kc_X12_286 ?_
    refine vs_eql (v9 := (9999 : Int32).toInt64) (by decide +kernel) ?_
    refine vs_calsiF C dX12_debt_13 (c_X12_within g S _ _ _) mb_X12_within ms_X12_within lk_X12_123 rfl rfl ⟨Nat.le_of_ble_eq_true rfl, Nat.le_of_ble_eq_true rfl, Nat.le_of_ble_eq_true rfl⟩ ?_
    refine vv_if_eq (tgt := 39) C dX12_debt_16 (by decide) (fun q16 => ?_) (fun q16 => ?_)
    · have w2 : vs_w v 0 9999 = false := vs_b0.mp q16
      refine vv_iconst C dX12_debt_39 ic_m1 ?_
      first
      | exact vs_iret C F dX12_debt_40 rfl ⟨by rw [if_pos hwt, db_pk (by omega)]; exact p33.1.trans (congrFun hL.1.symm _), by rw [if_pos hwt, db_pk (by omega)]; exact p33.2.1, p33.2.2⟩
      | exact vs_iret C F dX12_debt_40 rfl ⟨by first | (rw [w1]; rfl) | (rw [w2, Bool.and_false]; rfl), by first | (rw [w1]; exact hL) | (rw [w2, Bool.and_false]; exact hL), vs_fr.rf⟩
    · have w2 : vs_w v 0 9999 = true := vs_b1.mp q16
      obtain ⟨k, k0, k1, k2, k3, k4⟩ := db_p w1
      subst k1
      have hwt : (db_c (nI k) && vs_w v 0 9999) = true := by rw [w1, w2]; rfl
      refine vv_aload_n C dX12_debt_19 rfl ?_
      refine vv_bipush C dX12_debt_20 bp_8 ?_
      refine vv_iload_n C dX12_debt_22 rfl ?_
      refine vv_bipush C dX12_debt_23 bp_10 ?_
      refine vv_idiv C dX12_debt_25 (by decide) ?_
      refine vs_eqi (v9 := nI (k / 10)) (by rw [xn_lit, xn_div (by omega) (by omega)]) ?_
      refine vv_imul C dX12_debt_26 ?_
      refine vs_eqi (v9 := nI (k / 10 * 8)) (by rw [xn_lit, xn_mul, Nat.mul_comm]) ?_
      refine vv_iload_n C dX12_debt_27 rfl ?_
      refine vv_bipush C dX12_debt_28 bp_10 ?_
      refine vv_irem C dX12_debt_30 (by decide) ?_
      refine vs_eqi (v9 := nI (k % 10)) (by rw [xn_lit, xn_mod (by omega) (by omega)]) ?_
      refine vv_iadd C dX12_debt_31 ?_
      refine vs_eqi (v9 := nI (k / 10 * 8 + k % 10)) (nI_add _ _) ?_
      refine vv_iload_n C dX12_debt_32 rfl ?_
      refine vs_calli C dX12_debt_33 (c_X12_becomes g S H A B C0 d n9 hL hk (k / 10 * 8 + k % 10) (by omega) v) mb_X12_becomes mv_X12_becomes lk_X12_180 ce_65 rfl rfl rfl rfl ⟨Nat.le_of_ble_eq_true rfl, Nat.le_of_ble_eq_true rfl, Nat.le_of_ble_eq_true rfl⟩ (fun r33 S33 p33 => ?_)
      refine vv_goto (tgt := 40) C dX12_debt_36 (by decide) ?_
      first
      | exact vs_iret C F dX12_debt_40 rfl ⟨by rw [if_pos hwt, db_pk (by omega)]; exact p33.1.trans (congrFun hL.1.symm _), by rw [if_pos hwt, db_pk (by omega)]; exact p33.2.1, p33.2.2⟩
      | exact vs_iret C F dX12_debt_40 rfl ⟨by first | (rw [w1]; rfl) | (rw [w2, Bool.and_false]; rfl), by first | (rw [w1]; exact hL) | (rw [w2, Bool.and_false]; exact hL), vs_fr.rf⟩
set_option maxRecDepth 20000 in
theorem c_X11_undo (g : vv_G) (S : vs_S) (L : lg_L) (hL : lg_X S L) (hk : lg_ok L) : vs_KI g yX11_undo cX11_undo 1 (some .int) 3 [vv_r g 0] S (fun r S1 => r = (if L.2.2.2.2.1 = 0 then -5 else nI (L.2.2.2.2.1 - 1)) ∧ lg_X S1 (if L.2.2.2.2.1 = 0 then L else lg_und L) ∧ vs_fr [6, 7, 8] [19, 20, 21, 22] [] S S1) := by
  obtain ⟨H, A, B, C0, d, n9⟩ := L
  refine vs_ofI (lv := [_]) mb_X11_undo (Nat.le_of_ble_eq_true rfl) rfl (fun x C F => ?_)
  refine vv_aload_n C dX11_undo_0 rfl ?_
  refine gf_X11_ledger C dX11_undo_1 fg_X11_44 ?_
  refine vs_calli C dX11_undo_4 (c_X2_takeBack g S H A B C0 d n9 hL hk) mb_X2_takeBack mv_X2_takeBack lk_X11_252 ce_18 rfl rfl rfl rfl ⟨Nat.le_of_ble_eq_true rfl, Nat.le_of_ble_eq_true rfl, Nat.le_of_ble_eq_true rfl⟩ (fun r4 S4 p4 => ?_)
  exact vs_iret C F dX11_undo_7 rfl p4
set_option maxRecDepth 20000 in
theorem c_X11_redo (g : vv_G) (S : vs_S) (L : lg_L) (hL : lg_X S L) (hk : lg_ok L) : vs_KI g yX11_redo cX11_redo 1 (some .int) 3 [vv_r g 0] S (fun r S1 => r = (if L.2.2.2.2.2 = L.2.2.2.2.1 then -5 else nI (L.2.2.2.2.2 - (L.2.2.2.2.1 + 1))) ∧ lg_X S1 (if L.2.2.2.2.2 = L.2.2.2.2.1 then L else lg_red L) ∧ vs_fr [6, 7, 8] [19, 20, 21, 22] [] S S1) := by
  obtain ⟨H, A, B, C0, d, n9⟩ := L
  refine vs_ofI (lv := [_]) mb_X11_redo (Nat.le_of_ble_eq_true rfl) rfl (fun x C F => ?_)
  refine vv_aload_n C dX11_redo_0 rfl ?_
  refine gf_X11_ledger C dX11_redo_1 fg_X11_44 ?_
  refine vs_calli C dX11_redo_4 (c_X2_doAgain g S H A B C0 d n9 hL hk) mb_X2_doAgain mv_X2_doAgain lk_X11_255 ce_18 rfl rfl rfl rfl ⟨Nat.le_of_ble_eq_true rfl, Nat.le_of_ble_eq_true rfl, Nat.le_of_ble_eq_true rfl⟩ (fun r4 S4 p4 => ?_)
  exact vs_iret C F dX11_redo_7 rfl p4
set_option maxRecDepth 20000 in
theorem c_X5_take (g : vv_G) (S : vs_S) (cn : Nat) (hcn : cn ≤ 16) (hs : S.1 9 = nI cn) (w m : Int32) : vs_FI g yX5_take cX5_take 3 (some .int) 2 [vv_r g 23, .int w, .int m] S (if cn = 16 then -3 else nI cn) (if cn = 16 then S else vs_us (vs_ua S 19 (upd (upd (S.2.1 19) (64 + cn) w) (80 + cn) m)) 9 (nI (cn + 1))) := by
  refine vs_ofI (lv := [_, _, _]) mb_X5_take (Nat.le_of_ble_eq_true rfl) rfl (fun x C F => ?_)
  refine vv_aload_n C dX5_take_0 rfl ?_
  refine gf_X5_size C dX5_take_1 fg_X5_29 ?_
  refine vv_bipush C dX5_take_4 bp_16 ?_
  refine vv_icmp_ne (tgt := 12) C dX5_take_6 (by decide) (fun q6 => ?_) (fun q6 => ?_)
  · have hc : ¬ cn = 16 := fun z => q6 (by rw [hs, z]; rfl)
    refine vv_aload_n C dX5_take_12 rfl ?_
    refine gf_X5_ledger C dX5_take_13 fg_X5_21 ?_
    refine vv_bipush C dX5_take_16 bp_64 ?_
    refine vv_aload_n C dX5_take_18 rfl ?_
    refine gf_X5_size C dX5_take_19 fg_X5_29 ?_
    refine vs_eqi (v9 := nI cn) (hs) ?_
    refine vv_iadd C dX5_take_22 ?_
    refine vs_eqi (v9 := nI (64 + cn)) (nI_add 64 cn) ?_
    refine vv_iload_n C dX5_take_23 rfl ?_
    refine vs_calvF C dX5_take_24 (c_X2_begin g _ _ _ (xn_in (by omega) (by omega))) mb_X2_begin mv_X2_begin lk_X5_35 ce_18 rfl rfl rfl rfl ⟨Nat.le_of_ble_eq_true rfl, Nat.le_of_ble_eq_true rfl, Nat.le_of_ble_eq_true rfl⟩ ?_
    refine vv_aload_n C dX5_take_27 rfl ?_
    refine gf_X5_ledger C dX5_take_28 fg_X5_21 ?_
    refine vv_bipush C dX5_take_31 bp_80 ?_
    refine vv_aload_n C dX5_take_33 rfl ?_
    refine gf_X5_size C dX5_take_34 fg_X5_29 ?_
    refine vs_eqi (v9 := nI cn) (hs) ?_
    refine vv_iadd C dX5_take_37 ?_
    refine vs_eqi (v9 := nI (80 + cn)) (nI_add 80 cn) ?_
    refine vv_iload_n C dX5_take_38 rfl ?_
    refine vs_calvF C dX5_take_39 (c_X2_begin g _ _ _ (xn_in (by omega) (by omega))) mb_X2_begin mv_X2_begin lk_X5_35 ce_18 rfl rfl rfl rfl ⟨Nat.le_of_ble_eq_true rfl, Nat.le_of_ble_eq_true rfl, Nat.le_of_ble_eq_true rfl⟩ ?_
    refine vs_eqS (S9 := vs_ua S 19 (upd (upd (S.2.1 19) (64 + cn) w) (80 + cn) m)) (by rw [xn_cl (by omega), xn_cl (by omega), vs_uaa]; rfl) ?_
    refine vv_aload_n C dX5_take_42 rfl ?_
    refine vv_dup C dX5_take_43 rfl ?_
    refine gf_X5_size C dX5_take_44 fg_X5_29 ?_
    refine vs_eqi (v9 := nI cn) (hs) ?_
    refine vv_iconst C dX5_take_47 ic_1 ?_
    refine vv_iadd C dX5_take_48 ?_
    refine vs_eqi (v9 := nI (cn + 1)) (nI_1 cn) ?_
    refine pf_X5_size C dX5_take_49 fp_X5_29 ?_
    refine vv_aload_n C dX5_take_52 rfl ?_
    refine gf_X5_size C dX5_take_53 fg_X5_29 ?_
    refine vv_iconst C dX5_take_56 ic_1 ?_
    refine vv_isub C dX5_take_57 ?_
    refine vs_eqi (v9 := nI cn) (pk_m1 cn |> fun h => (by show nI (cn + 1) - 1 = nI cn; exact nI_pred cn)) ?_
    exact vs_iret C F dX5_take_58 rfl ⟨by rw [if_neg hc], by rw [if_neg hc]⟩
  · have hc : cn = 16 := by rw [hs, xn_lit] at q6; exact (xn_eq (by omega) (by omega)).mp q6
    refine vv_bipush C dX5_take_9 bp_m3 ?_
    exact vs_iret C F dX5_take_11 rfl ⟨by rw [if_pos hc], by rw [if_pos hc]⟩
set_option maxRecDepth 20000 in
theorem c_X11_coin (g : vv_G) (S : vs_S) (L : lg_L) (hL : lg_X S L) (hk : lg_ok L) (cn : Nat) (hcn : cn ≤ 16) (hs : S.1 9 = nI cn) (w m : Int32) : vs_KI g yX11_coin cX11_coin 3 (some .int) 3 [vv_r g 0, .int w, .int m] S (fun r S1 => r = (if (vs_w w 1 999 && vs_w m 0 9) = true then (if cn = 16 then -3 else nI cn) else -1) ∧ S1.1 9 = nI (if (vs_w w 1 999 && vs_w m 0 9) = true ∧ ¬ cn = 16 then cn + 1 else cn) ∧ lg_X S1 (if (vs_w w 1 999 && vs_w m 0 9) = true ∧ ¬ cn = 16 then lg_coin L cn w m else L) ∧ vs_fr [9] [19] [] S S1) := by
  obtain ⟨H, A, B, C0, d, n9⟩ := L
  refine vs_ofI (lv := [_, _, _]) mb_X11_coin (Nat.le_of_ble_eq_true rfl) rfl (fun x C F => ?_)
  refine vv_iload_n C dX11_coin_0 rfl ?_
  refine vs_calsiF C dX11_coin_1 (c_X5_isWorth g S _) mb_X5_isWorth ms_X5_isWorth lk_X11_155 rfl rfl ⟨Nat.le_of_ble_eq_true rfl, Nat.le_of_ble_eq_true rfl, Nat.le_of_ble_eq_true rfl⟩ ?_
  refine vv_if_eq (tgt := 14) C dX11_coin_4 (by decide) (fun q4 => ?_) (fun q4 => ?_)
  · have w1 : vs_w w 1 999 = false := vs_b0.mp q4
    refine vv_iconst C dX11_coin_14 ic_m1 ?_
    have hwf : ¬ (vs_w w 1 999 && vs_w m 0 9) = true := by first | (simp [w1]; done) | (simp [w1, w2]; done)
    exact vs_iret C F dX11_coin_15 rfl ⟨by rw [if_neg hwf], by rw [if_neg (fun z => hwf z.1)]; exact hs, by rw [if_neg (fun z => hwf z.1)]; exact hL, vs_fr.rf⟩
  · have w1 : vs_w w 1 999 = true := vs_b1.mp q4
    refine vv_iload_n C dX11_coin_7 rfl ?_
    refine vs_calsiF C dX11_coin_8 (c_X5_isNumber g S _) mb_X5_isNumber ms_X5_isNumber lk_X11_159 rfl rfl ⟨Nat.le_of_ble_eq_true rfl, Nat.le_of_ble_eq_true rfl, Nat.le_of_ble_eq_true rfl⟩ ?_
    refine vv_if_ne (tgt := 16) C dX11_coin_11 (by decide) (fun q11 => ?_) (fun q11 => ?_)
    · have w2 : vs_w m 0 9 = true := vs_b1.mp q11
      have hwt : (vs_w w 1 999 && vs_w m 0 9) = true := by rw [w1, w2]; rfl
      refine vv_aload_n C dX11_coin_16 rfl ?_
      refine gf_X11_purse C dX11_coin_17 fg_X11_53 ?_
      refine vv_iload_n C dX11_coin_20 rfl ?_
      refine vv_iload_n C dX11_coin_21 rfl ?_
      refine vs_caliF C dX11_coin_22 (c_X5_take g S cn hcn hs w m) mb_X5_take mv_X5_take lk_X11_162 ce_23 rfl rfl rfl rfl ⟨Nat.le_of_ble_eq_true rfl, Nat.le_of_ble_eq_true rfl, Nat.le_of_ble_eq_true rfl⟩ ?_
      by_cases hc : cn = 16
      · refine vs_iret C F dX11_coin_25 rfl ⟨by rw [if_pos hwt], ?_, ?_, ?_⟩
        · rw [if_pos hc, if_neg (fun z => z.2 hc)]; exact hs
        · rw [if_pos hc, if_neg (fun z => z.2 hc)]; exact hL
        · rw [if_pos hc]; exact vs_fr.rf
      · refine vs_iret C F dX11_coin_25 rfl ⟨by rw [if_pos hwt], ?_, ?_, ?_⟩
        · rw [if_neg hc, if_pos ⟨hwt, hc⟩]; rfl
        · rw [if_neg hc, if_pos ⟨hwt, hc⟩]
          obtain ⟨z0, z1, z2, z3⟩ := hL
          subst z0
          exact ⟨rfl, z1, z2, z3⟩
        · rw [if_neg hc]; exact (vs_fr.rf.ua (by decide)).us (by decide)
    · have w2 : vs_w m 0 9 = false := vs_b0.mp q11
      refine vv_iconst C dX11_coin_14 ic_m1 ?_
      have hwf : ¬ (vs_w w 1 999 && vs_w m 0 9) = true := by first | (simp [w1]; done) | (simp [w1, w2]; done)
      exact vs_iret C F dX11_coin_15 rfl ⟨by rw [if_neg hwf], by rw [if_neg (fun z => hwf z.1)]; exact hs, by rw [if_neg (fun z => hwf z.1)]; exact hL, vs_fr.rf⟩
set_option maxRecDepth 20000 in
theorem c_X12_coin (g : vv_G) (S : vs_S) (L : lg_L) (hL : lg_M S L) (hk : lg_ok L) (cn : Nat) (hcn : cn ≤ 16) (hs : S.1 26 = nI cn) (w m : Int32) : vs_KI g yX12_coin cX12_coin 3 (some .int) 3 [vv_r g 65, .int w, .int m] S (fun r S1 => r = (if (vs_w w 1 999 && vs_w m 0 9) = true then (if cn = 16 then -3 else nI cn) else -1) ∧ S1.1 26 = nI (if (vs_w w 1 999 && vs_w m 0 9) = true ∧ ¬ cn = 16 then cn + 1 else cn) ∧ lg_M S1 (if (vs_w w 1 999 && vs_w m 0 9) = true ∧ ¬ cn = 16 then lg_coin L cn w m else L) ∧ vs_fr [26] [66] [] S S1) := by
  obtain ⟨H, A, B, C0, d, n9⟩ := L
  refine vs_ofI (lv := [_, _, _]) mb_X12_coin (Nat.le_of_ble_eq_true rfl) rfl (fun x C F => ?_)
  refine vv_iload_n C dX12_coin_0 rfl ?_
  refine vv_i2l C dX12_coin_1 ?_
  refine vv_lconst C dX12_coin_2 lc_1 ?_
  refine vs_eql (v9 := (1 : Int32).toInt64) (by decide +kernel) ?_
  refine vv_ldc2 C dX12_coin_3 kc_X12_170 ?_
  refine vs_eql (v9 := (999 : Int32).toInt64) (by decide +kernel) ?_
  refine vs_calsiF C dX12_coin_6 (c_X12_within g S _ _ _) mb_X12_within ms_X12_within lk_X12_123 rfl rfl ⟨Nat.le_of_ble_eq_true rfl, Nat.le_of_ble_eq_true rfl, Nat.le_of_ble_eq_true rfl⟩ ?_
  refine vv_if_eq (tgt := 24) C dX12_coin_9 (by decide) (fun q9 => ?_) (fun q9 => ?_)
  · have w1 : vs_w w 1 999 = false := vs_b0.mp q9
    refine vv_iconst C dX12_coin_24 ic_m1 ?_
    have hwf : ¬ (vs_w w 1 999 && vs_w m 0 9) = true := by first | (simp [w1]; done) | (simp [w1, w2]; done)
    exact vs_iret C F dX12_coin_25 rfl ⟨by rw [if_neg hwf], by rw [if_neg (fun z => hwf z.1)]; exact hs, by rw [if_neg (fun z => hwf z.1)]; exact hL, vs_fr.rf⟩
  · have w1 : vs_w w 1 999 = true := vs_b1.mp q9
    refine vv_iload_n C dX12_coin_12 rfl ?_
    refine vv_i2l C dX12_coin_13 ?_
    refine vv_lconst C dX12_coin_14 lc_0 ?_
    refine vs_eql (v9 := (0 : Int32).toInt64) (by decide +kernel) ?_
    refine vv_ldc2 C dX12_coin_15 kc_X12_172 ?_
    refine vs_eql (v9 := (9 : Int32).toInt64) (by decide +kernel) ?_
    refine vs_calsiF C dX12_coin_18 (c_X12_within g S _ _ _) mb_X12_within ms_X12_within lk_X12_123 rfl rfl ⟨Nat.le_of_ble_eq_true rfl, Nat.le_of_ble_eq_true rfl, Nat.le_of_ble_eq_true rfl⟩ ?_
    refine vv_if_ne (tgt := 26) C dX12_coin_21 (by decide) (fun q21 => ?_) (fun q21 => ?_)
    · have w2 : vs_w m 0 9 = true := vs_b1.mp q21
      have hwt : (vs_w w 1 999 && vs_w m 0 9) = true := by rw [w1, w2]; rfl
      refine vv_aload_n C dX12_coin_26 rfl ?_
      refine gf_X12_coinMany C dX12_coin_27 fg_X12_174 ?_
      refine vv_bipush C dX12_coin_30 bp_16 ?_
      refine vv_icmp_ne (tgt := 38) C dX12_coin_32 (by decide) (fun q32 => ?_) (fun q32 => ?_)
      · have hc : ¬ cn = 16 := fun z => q32 (by rw [hs, z]; rfl)
        refine vv_aload_n C dX12_coin_38 rfl ?_
        refine gf_X12_may C dX12_coin_39 fg_X12_9 ?_
        refine vv_bipush C dX12_coin_42 bp_64 ?_
        refine vv_aload_n C dX12_coin_44 rfl ?_
        refine gf_X12_coinMany C dX12_coin_45 fg_X12_174 ?_
        refine vs_eqi (v9 := nI cn) (hs) ?_
        refine vv_iadd C dX12_coin_48 ?_
        refine vs_eqi (v9 := nI (64 + cn)) (nI_add 64 cn) ?_
        refine vv_iload_n C dX12_coin_49 rfl ?_
        refine st_66 C dX12_coin_50 (xn_in (by omega) (by omega)) ?_
        refine vv_aload_n C dX12_coin_51 rfl ?_
        refine gf_X12_may C dX12_coin_52 fg_X12_9 ?_
        refine vv_bipush C dX12_coin_55 bp_80 ?_
        refine vv_aload_n C dX12_coin_57 rfl ?_
        refine gf_X12_coinMany C dX12_coin_58 fg_X12_174 ?_
        refine vs_eqi (v9 := nI cn) (hs) ?_
        refine vv_iadd C dX12_coin_61 ?_
        refine vs_eqi (v9 := nI (80 + cn)) (nI_add 80 cn) ?_
        refine vv_iload_n C dX12_coin_62 rfl ?_
        refine st_66 C dX12_coin_63 (xn_in (by omega) (by omega)) ?_
        refine vs_eqS (S9 := vs_ua S 66 (upd (upd (S.2.1 66) (64 + cn) w) (80 + cn) m)) (by rw [xn_cl (by omega), xn_cl (by omega), vs_uaa]; rfl) ?_
        refine vv_aload_n C dX12_coin_64 rfl ?_
        refine vv_dup C dX12_coin_65 rfl ?_
        refine gf_X12_coinMany C dX12_coin_66 fg_X12_174 ?_
        refine vs_eqi (v9 := nI cn) (hs) ?_
        refine vv_iconst C dX12_coin_69 ic_1 ?_
        refine vv_iadd C dX12_coin_70 ?_
        refine vs_eqi (v9 := nI (cn + 1)) (nI_1 cn) ?_
        refine pf_X12_coinMany C dX12_coin_71 fp_X12_174 ?_
        refine vv_aload_n C dX12_coin_74 rfl ?_
        refine gf_X12_coinMany C dX12_coin_75 fg_X12_174 ?_
        refine vv_iconst C dX12_coin_78 ic_1 ?_
        refine vv_isub C dX12_coin_79 ?_
        refine vs_eqi (v9 := nI cn) ((by show nI (cn + 1) - 1 = nI cn; exact nI_pred cn)) ?_
        refine vs_iret C F dX12_coin_80 rfl ⟨by rw [if_pos hwt, if_neg hc], ?_, ?_, (vs_fr.rf.ua (by decide)).us (by decide)⟩
        · rw [if_pos ⟨hwt, hc⟩]; rfl
        · rw [if_pos ⟨hwt, hc⟩]
          obtain ⟨z0, z1, z2, z3⟩ := hL
          subst z0
          exact ⟨rfl, z1, z2, z3⟩
      · have hc : cn = 16 := by rw [hs, xn_lit] at q32; exact (xn_eq (by omega) (by omega)).mp q32
        refine vv_bipush C dX12_coin_35 bp_m3 ?_
        exact vs_iret C F dX12_coin_37 rfl ⟨by rw [if_pos hwt, if_pos hc], by rw [if_neg (fun z => z.2 hc)]; exact hs, by rw [if_neg (fun z => z.2 hc)]; exact hL, vs_fr.rf⟩
    · have w2 : vs_w m 0 9 = false := vs_b0.mp q21
      refine vv_iconst C dX12_coin_24 ic_m1 ?_
      have hwf : ¬ (vs_w w 1 999 && vs_w m 0 9) = true := by first | (simp [w1]; done) | (simp [w1, w2]; done)
      exact vs_iret C F dX12_coin_25 rfl ⟨by rw [if_neg hwf], by rw [if_neg (fun z => hwf z.1)]; exact hs, by rw [if_neg (fun z => hwf z.1)]; exact hL, vs_fr.rf⟩
