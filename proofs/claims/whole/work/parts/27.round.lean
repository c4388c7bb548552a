theorem rd_te {D : Nat → Nat} {a b c : Nat} (ha : a < 8) (hb : b < 8) (hc : c < 8) : rd_t D (64 * a + 8 * b + c) = min (D (8 * a + b)) (min (D (8 * b + c)) (D (8 * c + a))) := by
  unfold rd_t
  rw [show (64 * a + 8 * b + c) / 64 = a by omega, show (64 * a + 8 * b + c) / 8 % 8 = b by omega, show (64 * a + 8 * b + c) % 8 = c by omega]
theorem rd_sk {D : Nat → Nat} {a b v w : Nat} (ha : a < 8) (hb : b < 8) (h : D (8 * a + b) ≤ v) : ∀ k c, c + k = 8 → rd_b D (512 - (64 * a + 8 * b + c)) (64 * a + 8 * b + c) v w = rd_b D (512 - (64 * a + 8 * b + 8)) (64 * a + 8 * b + 8) v w
  | 0, c, hc => by
    have e : c = 8 := by omega
    rw [e]
  | k + 1, c, hc => by
    rw [show 512 - (64 * a + 8 * b + c) = (512 - (64 * a + 8 * b + (c + 1))) + 1 by omega, rd_b1, if_neg]
    · exact rd_sk ha hb h k (c + 1) (by omega)
    · rw [rd_te ha hb (by omega)]
      omega
theorem rd_b2 {D : Nat → Nat} {t v w : Nat} (h : t < 512) : rd_b D (512 - t) t v w = if v < rd_t D t then rd_b D (512 - (t + 1)) (t + 1) (rd_t D t) t else rd_b D (512 - (t + 1)) (t + 1) v w := by
  rw [show 512 - t = (512 - (t + 1)) + 1 by omega]
  exact rd_b1 _
/-- the reference's search, on its way -/
def rd_J (S S2 : vs_S) (v w : Nat) : Prop := vs_fr [35, 36] [] [] S S2 ∧ S2.1 35 = nI v ∧ (0 < v → S2.1 36 = nI (100 * (w / 64) + 10 * (w / 8 % 8) + w % 8)) ∧ v ≤ 9999 ∧ w < 512
theorem rd_J2 {S S2 : vs_S} {v w u a b c : Nat} (h : rd_J S S2 v w) (ha : a < 8) (hb : b < 8) (hc : c < 8) (hu : u ≤ 9999) : rd_J S (vs_us (vs_us S2 35 (nI u)) 36 (nI (100 * a + 10 * b + c))) u (64 * a + 8 * b + c) := by
  refine ⟨(h.1.us (by decide)).us (by decide), rfl, fun _ => ?_, hu, by omega⟩
  rw [show (64 * a + 8 * b + c) / 64 = a by omega, show (64 * a + 8 * b + c) / 8 % 8 = b by omega, show (64 * a + 8 * b + c) % 8 = c by omega]
  rfl

set_option maxRecDepth 20000 in
theorem c_X0_takeOff (g : vv_G) (S : vs_S) (L : lg_L) (hL : lg_X S L) (hk : lg_ok L) (a b v : Nat) (ha : a < 8) (hb : b < 8) : vs_KV g yX0_takeOff cX0_takeOff 4 none 3 [vv_r g 43, .int (nI a), .int (nI b), .int (nI v)] S (fun S1 => lg_X S1 (lg_off L (8 * a + b) v) ∧ vs_fr [6, 7, 8] [19, 20, 21, 22] [] S S1) := by
  obtain ⟨H, A, B, C0, d, n9⟩ := L
  refine vs_ofV (lv := [_, _, _, _]) mb_X0_takeOff (Nat.le_of_ble_eq_true rfl) rfl (fun x C F => ?_)
  refine vv_aload_n C dX0_takeOff_0 rfl ?_
  refine gf_X0_ledger C dX0_takeOff_1 fg_X0_19 ?_
  refine vv_iload_n C dX0_takeOff_4 rfl ?_
  refine vv_iload_n C dX0_takeOff_5 rfl ?_
  refine vs_calsiF C dX0_takeOff_6 (c_X0_place g S _ _) mb_X0_place ms_X0_place lk_X0_23 rfl rfl ⟨Nat.le_of_ble_eq_true rfl, Nat.le_of_ble_eq_true rfl, Nat.le_of_ble_eq_true rfl⟩ ?_
  refine vs_eqi (v9 := nI (8 * a + b)) (by rw [xn_lit, xn_mul, nI_add, Nat.mul_comm]) ?_
  refine vv_aload_n C dX0_takeOff_9 rfl ?_
  refine vv_iload_n C dX0_takeOff_10 rfl ?_
  refine vv_iload_n C dX0_takeOff_11 rfl ?_
  refine vs_caliF C dX0_takeOff_12 (c_X0_of g S (nI a) (nI b) (by rw [xn_lit, xn_mul, nI_add]; exact xn_in (by omega) (by omega))) mb_X0_of mv_X0_of lk_X0_33 ce_43 rfl rfl rfl rfl ⟨Nat.le_of_ble_eq_true rfl, Nat.le_of_ble_eq_true rfl, Nat.le_of_ble_eq_true rfl⟩ ?_
  refine vs_eqi (v9 := H (8 * a + b)) (by rw [xn_lit, xn_mul, nI_add, xn_cl (by omega), Nat.mul_comm, hL.1]) ?_
  refine vv_iload_n C dX0_takeOff_15 rfl ?_
  refine vv_isub C dX0_takeOff_16 ?_
  refine vs_calli C dX0_takeOff_17 (c_X2_become g S H A B C0 d n9 hL hk (8 * a + b) (by omega) (H (8 * a + b) - nI v)) mb_X2_become mv_X2_become lk_X0_62 ce_18 rfl rfl rfl rfl ⟨Nat.le_of_ble_eq_true rfl, Nat.le_of_ble_eq_true rfl, Nat.le_of_ble_eq_true rfl⟩ (fun r17 S17 p17 => ?_)
  refine vv_pop C dX0_takeOff_20 rfl ?_
  exact vs_vret C F dX0_takeOff_21 rfl p17.2
set_option maxRecDepth 20000 in
theorem c_X12_takesOff (g : vv_G) (S : vs_S) (L : lg_L) (hL : lg_M S L) (hk : lg_ok L) (a b v : Nat) (ha : a < 8) (hb : b < 8) (hv : S.1 35 = nI v) : vs_KV g yX12_takesOff cX12_takesOff 4 none 2 [vv_r g 65, .int (nI a), .int (nI b)] S (fun S1 => lg_M S1 (lg_off L (8 * a + b) v) ∧ vs_fr [21, 22] [66, 67, 68, 69] [] S S1) := by
  obtain ⟨H, A, B, C0, d, n9⟩ := L
  refine vs_ofV (lv := [_, _, _, _]) mb_X12_takesOff (Nat.le_of_ble_eq_true rfl) rfl (fun x C F => ?_)
  refine vv_aload_n C dX12_takesOff_0 rfl ?_
  refine vv_bipush C dX12_takesOff_1 bp_8 ?_
  refine vv_iload_n C dX12_takesOff_3 rfl ?_
  refine vv_imul C dX12_takesOff_4 ?_
  refine vv_iload_n C dX12_takesOff_5 rfl ?_
  refine vv_iadd C dX12_takesOff_6 ?_
  refine vs_eqi (v9 := nI (8 * a + b)) (by rw [xn_lit, xn_mul, nI_add]) ?_
  refine vv_aload_n C dX12_takesOff_7 rfl ?_
  refine vv_iload_n C dX12_takesOff_8 rfl ?_
  refine vv_iload_n C dX12_takesOff_9 rfl ?_
  refine vs_caliF C dX12_takesOff_10 (c_X12_debtOf g S (nI a) (nI b) (by rw [xn_lit, xn_mul, nI_add]; exact xn_in (by omega) (by omega))) mb_X12_debtOf mv_X12_debtOf lk_X12_288 ce_65 rfl rfl rfl rfl ⟨Nat.le_of_ble_eq_true rfl, Nat.le_of_ble_eq_true rfl, Nat.le_of_ble_eq_true rfl⟩ ?_
  refine vs_eqi (v9 := H (8 * a + b)) (by rw [xn_lit, xn_mul, nI_add, xn_cl (by omega), hL.1]) ?_
  refine vv_aload_n C dX12_takesOff_13 rfl ?_
  refine gf_X12_roundLeast C dX12_takesOff_14 fg_X12_294 ?_
  refine vs_eqi (v9 := nI v) (hv) ?_
  refine vv_isub C dX12_takesOff_17 ?_
  refine vs_calli C dX12_takesOff_18 (c_X12_becomes g S H A B C0 d n9 hL hk (8 * a + b) (by omega) (H (8 * a + b) - nI v)) mb_X12_becomes mv_X12_becomes lk_X12_180 ce_65 rfl rfl rfl rfl ⟨Nat.le_of_ble_eq_true rfl, Nat.le_of_ble_eq_true rfl, Nat.le_of_ble_eq_true rfl⟩ (fun r18 S18 p18 => ?_)
  refine vw_istore_n (lv9 := [_, _, _, _]) C dX12_takesOff_21 (by decide) rfl rfl ?_
  exact vs_vret C F dX12_takesOff_22 rfl p18.2
set_option maxRecDepth 20000 in
theorem c_X0_cancelGreatest (g : vv_G) (S : vs_S) (L : lg_L) (hL : lg_X S L) (hk : lg_ok L) (hi : lg_in L) : vs_KI g yX0_cancelGreatest cX0_cancelGreatest 10 (some .boolean) 4 [vv_r g 43] S (fun r S1 => r = vs_b (decide (0 < (rd_B (lgD L)).1)) ∧ lg_X S1 (if (rd_B (lgD L)).1 = 0 then L else rd_s L) ∧ vs_fr [6, 7, 8] [19, 20, 21, 22] [] S S1) := by
  refine vs_ofI (lv := [_, _, _, _, _, _, _, _, _, _]) mb_X0_cancelGreatest (Nat.le_of_ble_eq_true rfl) rfl (fun x C F => ?_)
  have hD : ∀ p, p < 64 → S.2.1 19 p = nI (lgD L p) ∧ lgD L p ≤ 9999 := by
    intro p hp
    have h := lg_inD hi (p := p) (by omega)
    rw [← lg_H hL]
    exact ⟨h.1, h.2.1⟩
  have fin : ∀ (v w t : Nat) (w6 w7 w8 w9 : Option Value), v ≤ 9999 → rd_B (lgD L) = (v, w) → vv_V g x 10 0 0 101 [some (vv_r g 43), some (.int (nI v)), some (.int (nI (w / 64))), some (.int (nI (w / 8 % 8))), some (.int (nI (w % 8))), some (.int (nI t)), w6, w7, w8, w9] [] (vs_cells g S) := by
    intro v w t w6 w7 w8 w9 hv9 e1
    by_cases hv : v = 0
    · subst hv
      refine vv_iload_n C dX0_cancelGreatest_101 rfl ?_
      refine vv_if_le (tgt := 128) C dX0_cancelGreatest_102 (by decide) (fun q102 => ?_) (fun q102 => ?_)
      · skip
        refine vv_iload_n C dX0_cancelGreatest_128 rfl ?_
        refine vv_if_le (tgt := 136) C dX0_cancelGreatest_129 (by decide) (fun q129 => ?_) (fun q129 => ?_)
        · skip
          refine vv_iconst C dX0_cancelGreatest_136 ic_0 ?_
          exact vs_zret C F dX0_cancelGreatest_137 rfl rfl ⟨by rw [e1]; rfl, by rw [e1, if_pos rfl]; exact hL, vs_fr.rf⟩
        · exact absurd (by decide +kernel) q129
      · exact absurd (by decide +kernel) q102
    · have hh := rd_w hi (by rw [e1]; exact Nat.pos_of_ne_zero hv)
      rw [e1] at hh
      dsimp only at hh
      obtain ⟨a, b, c, v', ha, hb, hc, n1, n2, n3, r1, r2, r3, r4, v0, g1, g2, g3, g4⟩ := hh
      subst r1
      subst r2
      subst r3
      subst r4
      refine vv_iload_n C dX0_cancelGreatest_101 rfl ?_
      refine vv_if_le (tgt := 128) C dX0_cancelGreatest_102 (by decide) (fun q102 => ?_) (fun q102 => ?_)
      · exact absurd q102 (by rw [xn_lit, xn_le (by omega) (by omega)]; omega)
      · skip
        refine vv_aload_n C dX0_cancelGreatest_105 rfl ?_
        refine vv_iload_n C dX0_cancelGreatest_106 rfl ?_
        refine vv_iload_n C dX0_cancelGreatest_107 rfl ?_
        refine vv_iload_n C dX0_cancelGreatest_108 rfl ?_
        refine vs_callv C dX0_cancelGreatest_109 (c_X0_takeOff g S L hL hk (w / 64) (w / 8 % 8) v ha hb) mb_X0_takeOff mv_X0_takeOff lk_X0_58 ce_43 rfl rfl rfl rfl ⟨Nat.le_of_ble_eq_true rfl, Nat.le_of_ble_eq_true rfl, Nat.le_of_ble_eq_true rfl⟩ (fun S109 p109 => ?_)
        refine vv_aload_n C dX0_cancelGreatest_112 rfl ?_
        refine vv_iload_n C dX0_cancelGreatest_113 rfl ?_
        refine vv_iload C dX0_cancelGreatest_114 rfl ?_
        refine vv_iload_n C dX0_cancelGreatest_116 rfl ?_
        refine vs_callv C dX0_cancelGreatest_117 (c_X0_takeOff g S109 _ p109.1 (lg_off_ok hk (by omega)) (w / 8 % 8) (w % 8) v hb hc) mb_X0_takeOff mv_X0_takeOff lk_X0_58 ce_43 rfl rfl rfl rfl ⟨Nat.le_of_ble_eq_true rfl, Nat.le_of_ble_eq_true rfl, Nat.le_of_ble_eq_true rfl⟩ (fun S117 p117 => ?_)
        refine vv_aload_n C dX0_cancelGreatest_120 rfl ?_
        refine vv_iload C dX0_cancelGreatest_121 rfl ?_
        refine vv_iload_n C dX0_cancelGreatest_123 rfl ?_
        refine vv_iload_n C dX0_cancelGreatest_124 rfl ?_
        refine vs_callv C dX0_cancelGreatest_125 (c_X0_takeOff g S117 _ p117.1 (lg_off_ok (lg_off_ok hk (by omega)) (by omega)) (w % 8) (w / 64) v hc ha) mb_X0_takeOff mv_X0_takeOff lk_X0_58 ce_43 rfl rfl rfl rfl ⟨Nat.le_of_ble_eq_true rfl, Nat.le_of_ble_eq_true rfl, Nat.le_of_ble_eq_true rfl⟩ (fun S125 p125 => ?_)
        refine vv_iload_n C dX0_cancelGreatest_128 rfl ?_
        refine vv_if_le (tgt := 136) C dX0_cancelGreatest_129 (by decide) (fun q129 => ?_) (fun q129 => ?_)
        · exact absurd q129 (by rw [xn_lit, xn_le (by omega) (by omega)]; omega)
        · skip
          refine vv_iconst C dX0_cancelGreatest_132 ic_1 ?_
          refine vv_goto (tgt := 137) C dX0_cancelGreatest_133 (by decide) ?_
          exact vs_zret C F dX0_cancelGreatest_137 rfl rfl ⟨by rw [e1, decide_eq_true (show 0 < (v, w).1 from v0)]; rfl, by rw [if_neg (by rw [e1]; exact Nat.ne_of_gt v0)]; unfold rd_s; rw [e1]; exact p125.1, (p109.2.tr p117.2).tr p125.2⟩
  have loop : ∀ (f t v w : Nat) (w6 w7 w8 w9 : Option Value), t + f = 512 → v ≤ 9999 → rd_b (lgD L) f t v w = rd_B (lgD L) → vv_V g x 10 0 0 12 [some (vv_r g 43), some (.int (nI v)), some (.int (nI (w / 64))), some (.int (nI (w / 8 % 8))), some (.int (nI (w % 8))), some (.int (nI t)), w6, w7, w8, w9] [] (vs_cells g S) := by
    intro f
    induction f with
    | zero =>
      intro t v w w6 w7 w8 w9 h1 h2 he
      have ho : t = 512 := by omega
      subst ho
      refine vv_iload C dX0_cancelGreatest_12 rfl ?_
      refine vv_sipush C dX0_cancelGreatest_14 sp_512 ?_
      refine vv_icmp_ge (tgt := 101) C dX0_cancelGreatest_17 (by decide) (fun q17 => ?_) (fun q17 => ?_)
      · exact fin v w 512 _ _ _ _ h2 he.symm
      · exact absurd (by decide +kernel) q17
    | succ f ih =>
      intro t v w w6 w7 w8 w9 h1 h2 he
      rw [rd_b1] at he
      have d1 := (hD (8 * (t / 64) + t / 8 % 8) (by omega)).2
      have d2 := (hD (8 * (t / 8 % 8) + t % 8) (by omega)).2
      have d3 := (hD (8 * (t % 8) + t / 64) (by omega)).2
      have du : rd_t (lgD L) t ≤ 9999 := by unfold rd_t; omega
      refine vv_iload C dX0_cancelGreatest_12 rfl ?_
      refine vv_sipush C dX0_cancelGreatest_14 sp_512 ?_
      refine vv_icmp_ge (tgt := 101) C dX0_cancelGreatest_17 (by decide) (fun q17 => ?_) (fun q17 => ?_)
      · exact absurd q17 (by rw [xn_lit, xn_le (by omega) (by omega)]; omega)
      · refine vv_iload C dX0_cancelGreatest_20 rfl ?_
        refine vv_bipush C dX0_cancelGreatest_22 bp_64 ?_
        refine vv_idiv C dX0_cancelGreatest_24 (by decide) ?_
        refine vs_eqi (v9 := nI (t / 64)) (by rw [xn_lit, xn_div (by omega) (by omega)]) ?_
        refine vw_istore (lv9 := [_, _, _, _, _, _, _, _, _, _]) C dX0_cancelGreatest_25 (by decide) rfl rfl ?_
        refine vv_iload C dX0_cancelGreatest_27 rfl ?_
        refine vv_bipush C dX0_cancelGreatest_29 bp_8 ?_
        refine vv_idiv C dX0_cancelGreatest_31 (by decide) ?_
        refine vs_eqi (v9 := nI (t / 8)) (by rw [xn_lit, xn_div (by omega) (by omega)]) ?_
        refine vv_bipush C dX0_cancelGreatest_32 bp_8 ?_
        refine vv_irem C dX0_cancelGreatest_34 (by decide) ?_
        refine vs_eqi (v9 := nI (t / 8 % 8)) (by rw [xn_lit, xn_mod (by omega) (by omega)]) ?_
        refine vw_istore (lv9 := [_, _, _, _, _, _, _, _, _, _]) C dX0_cancelGreatest_35 (by decide) rfl rfl ?_
        refine vv_iload C dX0_cancelGreatest_37 rfl ?_
        refine vv_bipush C dX0_cancelGreatest_39 bp_8 ?_
        refine vv_irem C dX0_cancelGreatest_41 (by decide) ?_
        refine vs_eqi (v9 := nI (t % 8)) (by rw [xn_lit, xn_mod (by omega) (by omega)]) ?_
        refine vw_istore (lv9 := [_, _, _, _, _, _, _, _, _, _]) C dX0_cancelGreatest_42 (by decide) rfl rfl ?_
        refine vv_aload_n C dX0_cancelGreatest_44 rfl ?_
        refine vv_iload C dX0_cancelGreatest_45 rfl ?_
        refine vv_iload C dX0_cancelGreatest_47 rfl ?_
        refine vs_caliF C dX0_cancelGreatest_49 (c_X0_of g S (nI (t / 64)) (nI (t / 8 % 8)) (by rw [xn_lit, xn_mul, nI_add]; exact xn_in (by omega) (by omega))) mb_X0_of mv_X0_of lk_X0_33 ce_43 rfl rfl rfl rfl ⟨Nat.le_of_ble_eq_true rfl, Nat.le_of_ble_eq_true rfl, Nat.le_of_ble_eq_true rfl⟩ ?_
        refine vs_eqi (v9 := nI (lgD L (8 * (t / 64) + t / 8 % 8))) (by rw [xn_lit, xn_mul, nI_add, xn_cl (by omega), Nat.mul_comm]; exact (hD _ (by omega)).1) ?_
        refine vv_aload_n C dX0_cancelGreatest_52 rfl ?_
        refine vv_iload C dX0_cancelGreatest_53 rfl ?_
        refine vv_iload C dX0_cancelGreatest_55 rfl ?_
        refine vs_caliF C dX0_cancelGreatest_57 (c_X0_of g S (nI (t / 8 % 8)) (nI (t % 8)) (by rw [xn_lit, xn_mul, nI_add]; exact xn_in (by omega) (by omega))) mb_X0_of mv_X0_of lk_X0_33 ce_43 rfl rfl rfl rfl ⟨Nat.le_of_ble_eq_true rfl, Nat.le_of_ble_eq_true rfl, Nat.le_of_ble_eq_true rfl⟩ ?_
        refine vs_eqi (v9 := nI (lgD L (8 * (t / 8 % 8) + t % 8))) (by rw [xn_lit, xn_mul, nI_add, xn_cl (by omega), Nat.mul_comm]; exact (hD _ (by omega)).1) ?_
        refine vv_aload_n C dX0_cancelGreatest_60 rfl ?_
        refine vv_iload C dX0_cancelGreatest_61 rfl ?_
        refine vv_iload C dX0_cancelGreatest_63 rfl ?_
        refine vs_caliF C dX0_cancelGreatest_65 (c_X0_of g S (nI (t % 8)) (nI (t / 64)) (by rw [xn_lit, xn_mul, nI_add]; exact xn_in (by omega) (by omega))) mb_X0_of mv_X0_of lk_X0_33 ce_43 rfl rfl rfl rfl ⟨Nat.le_of_ble_eq_true rfl, Nat.le_of_ble_eq_true rfl, Nat.le_of_ble_eq_true rfl⟩ ?_
        refine vs_eqi (v9 := nI (lgD L (8 * (t % 8) + t / 64))) (by rw [xn_lit, xn_mul, nI_add, xn_cl (by omega), Nat.mul_comm]; exact (hD _ (by omega)).1) ?_
        refine vv_mmin C dX0_cancelGreatest_68 lk_X0_53 ⟨Nat.le_of_ble_eq_true rfl, Nat.le_of_ble_eq_true rfl, Nat.zero_le _, Nat.zero_le _⟩ ?_
        refine vs_eqi (v9 := nI (min (lgD L (8 * (t / 8 % 8) + t % 8)) (lgD L (8 * (t % 8) + t / 64)))) (xn_min (by omega) (by omega)) ?_
        refine vv_mmin C dX0_cancelGreatest_71 lk_X0_53 ⟨Nat.le_of_ble_eq_true rfl, Nat.le_of_ble_eq_true rfl, Nat.zero_le _, Nat.zero_le _⟩ ?_
        refine vs_eqi (v9 := nI (rd_t (lgD L) t)) (xn_min (by omega) (by omega)) ?_
        refine vw_istore (lv9 := [_, _, _, _, _, _, _, _, _, _]) C dX0_cancelGreatest_74 (by decide) rfl rfl ?_
        refine vv_iload C dX0_cancelGreatest_76 rfl ?_
        refine vv_iload_n C dX0_cancelGreatest_78 rfl ?_
        refine vv_icmp_le (tgt := 95) C dX0_cancelGreatest_79 (by decide) (fun q79 => ?_) (fun q79 => ?_)
        · have z : ¬ v < rd_t (lgD L) t := Nat.not_lt.mpr ((xn_le (by omega) (by omega)).mp q79)
          rw [if_neg z] at he
          refine vw_iinc (lv9 := [_, _, _, _, _, _, _, _, _, _]) C dX0_cancelGreatest_95 rfl ic_1 (by decide) rfl rfl ?_
          refine vv_goto (tgt := 12) C dX0_cancelGreatest_98 (by decide) ?_
          rw [nI_1]
          first
          | exact ih (t + 1) _ _ _ _ _ _ (by omega) du he
          | exact ih (t + 1) _ _ _ _ _ _ (by omega) h2 he
        · have z : v < rd_t (lgD L) t := Nat.lt_of_not_le (fun y => q79 ((xn_le (by omega) (by omega)).mpr y))
          rw [if_pos z] at he
          refine vv_iload C dX0_cancelGreatest_82 rfl ?_
          refine vw_istore_n (lv9 := [_, _, _, _, _, _, _, _, _, _]) C dX0_cancelGreatest_84 (by decide) rfl rfl ?_
          refine vv_iload C dX0_cancelGreatest_85 rfl ?_
          refine vw_istore_n (lv9 := [_, _, _, _, _, _, _, _, _, _]) C dX0_cancelGreatest_87 (by decide) rfl rfl ?_
          refine vv_iload C dX0_cancelGreatest_88 rfl ?_
          refine vw_istore_n (lv9 := [_, _, _, _, _, _, _, _, _, _]) C dX0_cancelGreatest_90 (by decide) rfl rfl ?_
          refine vv_iload C dX0_cancelGreatest_91 rfl ?_
          refine vw_istore (lv9 := [_, _, _, _, _, _, _, _, _, _]) C dX0_cancelGreatest_93 (by decide) rfl rfl ?_
          refine vw_iinc (lv9 := [_, _, _, _, _, _, _, _, _, _]) C dX0_cancelGreatest_95 rfl ic_1 (by decide) rfl rfl ?_
          refine vv_goto (tgt := 12) C dX0_cancelGreatest_98 (by decide) ?_
          rw [nI_1]
          first
          | exact ih (t + 1) _ _ _ _ _ _ (by omega) du he
          | exact ih (t + 1) _ _ _ _ _ _ (by omega) h2 he
  refine vv_iconst C dX0_cancelGreatest_0 ic_0 ?_
  refine vw_istore_n (lv9 := [_, _, _, _, _, _, _, _, _, _]) C dX0_cancelGreatest_1 (by decide) rfl rfl ?_
  refine vv_iconst C dX0_cancelGreatest_2 ic_0 ?_
  refine vw_istore_n (lv9 := [_, _, _, _, _, _, _, _, _, _]) C dX0_cancelGreatest_3 (by decide) rfl rfl ?_
  refine vv_iconst C dX0_cancelGreatest_4 ic_0 ?_
  refine vw_istore_n (lv9 := [_, _, _, _, _, _, _, _, _, _]) C dX0_cancelGreatest_5 (by decide) rfl rfl ?_
  refine vv_iconst C dX0_cancelGreatest_6 ic_0 ?_
  refine vw_istore (lv9 := [_, _, _, _, _, _, _, _, _, _]) C dX0_cancelGreatest_7 (by decide) rfl rfl ?_
  refine vv_iconst C dX0_cancelGreatest_9 ic_0 ?_
  refine vw_istore (lv9 := [_, _, _, _, _, _, _, _, _, _]) C dX0_cancelGreatest_10 (by decide) rfl rfl ?_
  exact loop 512 0 0 0 none none none none rfl (by omega) rfl
set_option maxRecDepth 20000 in
theorem c_X0_cancelAll (g : vv_G) (S : vs_S) (L : lg_L) (hL : lg_X S L) (hk : lg_ok L) (hi : lg_in L) : vs_KI g yX0_cancelAll cX0_cancelAll 2 (some .int) 5 [vv_r g 43] S (fun r S1 => r = nI (rd_r 64 L).1 ∧ lg_X S1 (rd_r 64 L).2 ∧ vs_fr [6, 7, 8] [19, 20, 21, 22] [] S S1) := by
  refine vs_ofI (lv := [_, _]) mb_X0_cancelAll (Nat.le_of_ble_eq_true rfl) rfl (fun x C F => ?_)
  have loop : ∀ (f t : Nat) (S2 : vs_S) (L2 : lg_L), t + f = 64 → lg_X S2 L2 → lg_ok L2 → lg_in L2 → vs_fr [6, 7, 8] [19, 20, 21, 22] [] S S2 → t + (rd_r f L2).1 = (rd_r 64 L).1 → (rd_r f L2).2 = (rd_r 64 L).2 → vv_V g x 2 0 0 2 [some (vv_r g 43), some (.int (nI t))] [] (vs_cells g S2) := by
    intro f
    induction f with
    | zero =>
      intro t S2 L2 h1 hL2 hk2 hi2 fr h2 h3
      have ho : t = 64 := by omega
      subst ho
      refine vv_iload_n C dX0_cancelAll_2 rfl ?_
      refine vv_bipush C dX0_cancelAll_3 bp_64 ?_
      refine vv_icmp_ge (tgt := 21) C dX0_cancelAll_5 (by decide) (fun q5 => ?_) (fun q5 => ?_)
      · refine vv_iload_n C dX0_cancelAll_21 rfl ?_
        exact vs_iret C F dX0_cancelAll_22 rfl ⟨by rw [← h2]; rfl, by rw [← h3]; exact hL2, fr⟩
      · exact absurd (by decide +kernel) q5
    | succ f ih =>
      intro t S2 L2 h1 hL2 hk2 hi2 fr h2 h3
      refine vv_iload_n C dX0_cancelAll_2 rfl ?_
      refine vv_bipush C dX0_cancelAll_3 bp_64 ?_
      refine vv_icmp_ge (tgt := 21) C dX0_cancelAll_5 (by decide) (fun q5 => ?_) (fun q5 => ?_)
      · exact absurd q5 (by rw [xn_lit, xn_le (by omega) (by omega)]; omega)
      · refine vv_aload_n C dX0_cancelAll_8 rfl ?_
        refine vs_calli C dX0_cancelAll_9 (c_X0_cancelGreatest g S2 L2 hL2 hk2 hi2) mb_X0_cancelGreatest mv_X0_cancelGreatest lk_X0_49 ce_43 rfl rfl rfl rfl ⟨Nat.le_of_ble_eq_true rfl, Nat.le_of_ble_eq_true rfl, Nat.le_of_ble_eq_true rfl⟩ (fun r9 S9 p9 => ?_)
        obtain ⟨e9, x9, f9⟩ := p9
        subst e9
        refine vv_if_eq (tgt := 21) C dX0_cancelAll_12 (by decide) (fun q12 => ?_) (fun q12 => ?_)
        · have z := vs_b0.mp q12
          have hv : (rd_B (lgD L2)).1 = 0 := by have := of_decide_eq_false z; omega
          rw [rd_r0 hv] at h2 h3
          rw [if_pos hv] at x9
          refine vv_iload_n C dX0_cancelAll_21 rfl ?_
          exact vs_iret C F dX0_cancelAll_22 rfl ⟨by rw [← h2]; rfl, by rw [← h3]; exact x9, fr.tr f9⟩
        · have z := vs_b1.mp q12
          have hv0 : 0 < (rd_B (lgD L2)).1 := of_decide_eq_true z
          have hv : ¬ (rd_B (lgD L2)).1 = 0 := by omega
          rw [rd_r1, if_neg hv] at h2 h3
          rw [if_neg hv] at x9
          obtain ⟨i1, i2, i3⟩ := rd_sI hi2 hk2 hv0
          refine vw_iinc (lv9 := [_, _]) C dX0_cancelAll_15 rfl ic_1 (by decide) rfl rfl ?_
          refine vv_goto (tgt := 2) C dX0_cancelAll_18 (by decide) ?_
          rw [nI_1]
          exact ih (t + 1) S9 _ (by omega) x9 i2 i1 (fr.tr f9) (by dsimp only at h2; omega) h3
  refine vv_iconst C dX0_cancelAll_0 ic_0 ?_
  refine vw_istore_n (lv9 := [_, _]) C dX0_cancelAll_1 (by decide) rfl rfl ?_
  exact loop 64 0 S L rfl hL hk hi vs_fr.rf (Nat.zero_add _) rfl
set_option maxRecDepth 20000 in
theorem c_X11_round (g : vv_G) (S : vs_S) (L : lg_L) (hL : lg_X S L) (hk : lg_ok L) (hi : lg_in L) : vs_KI g yX11_round cX11_round 1 (some .int) 6 [vv_r g 0] S (fun r S1 => r = nI (rd_r 64 L).1 ∧ lg_X S1 (rd_r 64 L).2 ∧ vs_fr [6, 7, 8] [19, 20, 21, 22] [] S S1) := by
  refine vs_ofI (lv := [_]) mb_X11_round (Nat.le_of_ble_eq_true rfl) rfl (fun x C F => ?_)
  refine vv_aload_n C dX11_round_0 rfl ?_
  refine gf_X11_debts C dX11_round_1 fg_X11_60 ?_
  refine vs_calli C dX11_round_4 (c_X0_cancelAll g S L hL hk hi) mb_X0_cancelAll mv_X0_cancelAll lk_X11_237 ce_43 rfl rfl rfl rfl ⟨Nat.le_of_ble_eq_true rfl, Nat.le_of_ble_eq_true rfl, Nat.le_of_ble_eq_true rfl⟩ (fun r4 S4 p4 => ?_)
  exact vs_iret C F dX11_round_7 rfl p4
set_option maxRecDepth 20000 in
theorem c_X12_findRound (g : vv_G) (S : vs_S) (L : lg_L) (hL : lg_M S L) (hk : lg_ok L) (hi : lg_in L) : vs_KV g yX12_findRound cX12_findRound 5 none 2 [vv_r g 65] S (fun S1 => rd_J S S1 (rd_B (lgD L)).1 (rd_B (lgD L)).2) := by
  refine vs_ofV (lv := [_, _, _, _, _]) mb_X12_findRound (Nat.le_of_ble_eq_true rfl) rfl (fun x C F => ?_)
  have hD : ∀ p, p < 64 → S.2.1 66 p = nI (lgD L p) ∧ lgD L p ≤ 9999 := by
    intro p hp
    have h := lg_inD hi (p := p) (by omega)
    rw [← lg_HM hL]
    exact ⟨h.1, h.2.1⟩
  have outer : ∀ (m a v w : Nat) (S2 : vs_S) (w2 w3 w4 : Option Value), a + m = 8 → rd_J S S2 v w → rd_b (lgD L) (512 - (64 * a)) (64 * a) v w = rd_B (lgD L) → vv_V g x 5 0 0 7 [some (vv_r g 65), some (.int (nI a)), w2, w3, w4] [] (vs_cells g S2) := by
    intro m
    induction m with
    | zero =>
      intro a v w S2 w2 w3 w4 h1 hJ he
      have hb8 : a = 8 := by omega
      subst hb8
      refine vv_iload_n C dX12_findRound_7 rfl ?_
      refine vv_bipush C dX12_findRound_8 bp_8 ?_
      refine vv_icmp_ge (tgt := 146) C dX12_findRound_10 (by decide) (fun q10 => ?_) (fun q10 => ?_)
      · exact vs_vret C F dX12_findRound_146 rfl (by have e : rd_B (lgD L) = (v, w) := he.symm; rw [e]; exact hJ)
      · exact absurd (by decide +kernel) q10
    | succ m iha =>
      intro a v w S2 w2 w3 w4 h1 hJ he
      have mid : ∀ (k b v w : Nat) (S2 : vs_S) (w3 w4 : Option Value), b + k = 8 → rd_J S S2 v w → rd_b (lgD L) (512 - (64 * a + 8 * b)) (64 * a + 8 * b) v w = rd_B (lgD L) → vv_V g x 5 0 0 15 [some (vv_r g 65), some (.int (nI a)), some (.int (nI b)), w3, w4] [] (vs_cells g S2) := by
        intro k
        induction k with
        | zero =>
          intro b v w S2 w3 w4 h1 hJ he
          have hb8 : b = 8 := by omega
          subst hb8
          refine vv_iload_n C dX12_findRound_15 rfl ?_
          refine vv_bipush C dX12_findRound_16 bp_8 ?_
          refine vv_icmp_ge (tgt := 140) C dX12_findRound_18 (by decide) (fun q18 => ?_) (fun q18 => ?_)
          · refine vw_iinc (lv9 := [_, _, _, _, _]) C dX12_findRound_140 rfl ic_1 (by decide) rfl rfl ?_
            refine vv_goto (tgt := 7) C dX12_findRound_143 (by decide) ?_
            rw [nI_1]
            exact iha (a + 1) v w S2 _ _ _ (by omega) hJ (by rw [show 64 * (a + 1) = 64 * a + 8 * 8 by omega]; exact he)
          · exact absurd (by decide +kernel) q18
        | succ k ihb =>
          intro b v w S2 w3 w4 h1 hJ he
          have inner : ∀ (k c v w : Nat) (S2 : vs_S) (w4 : Option Value), c + k = 8 → rd_J S S2 v w → rd_b (lgD L) (512 - (64 * a + 8 * b + c)) (64 * a + 8 * b + c) v w = rd_B (lgD L) → vv_V g x 5 0 0 23 [some (vv_r g 65), some (.int (nI a)), some (.int (nI b)), some (.int (nI c)), w4] [] (vs_cells g S2) := by
            intro k
            induction k with
            | zero =>
              intro c v w S2 w4 h1 hJ he
              have hb8 : c = 8 := by omega
              subst hb8
              refine vv_iload_n C dX12_findRound_23 rfl ?_
              refine vv_bipush C dX12_findRound_24 bp_8 ?_
              refine vv_icmp_ge (tgt := 134) C dX12_findRound_26 (by decide) (fun q26 => ?_) (fun q26 => ?_)
              · refine vw_iinc (lv9 := [_, _, _, _, _]) C dX12_findRound_134 rfl ic_1 (by decide) rfl rfl ?_
                refine vv_goto (tgt := 15) C dX12_findRound_137 (by decide) ?_
                rw [nI_1]
                exact ihb (b + 1) v w S2 _ _ (by omega) hJ (by rw [show 64 * a + 8 * (b + 1) = 64 * a + 8 * b + 8 by omega]; exact he)
              · exact absurd (by decide +kernel) q26
            | succ k ihc =>
              intro c v w S2 w4 h1 hJ he
              have eH : S2.2.1 66 = S.2.1 66 := hJ.1.2.1 66 (by decide)
              have d1 := (hD (8 * a + b) (by omega)).2
              have d2 := (hD (8 * b + c) (by omega)).2
              have d3 := (hD (8 * c + a) (by omega)).2
              have hv9 := hJ.2.2.2.1
              have ete := rd_te (D := lgD L) (a := a) (b := b) (c := c) (by omega) (by omega) (by omega)
              have du : rd_t (lgD L) (64 * a + 8 * b + c) ≤ 9999 := by rw [ete]; omega
              refine vv_iload_n C dX12_findRound_23 rfl ?_
              refine vv_bipush C dX12_findRound_24 bp_8 ?_
              refine vv_icmp_ge (tgt := 134) C dX12_findRound_26 (by decide) (fun q26 => ?_) (fun q26 => ?_)
              · exact absurd q26 (by rw [xn_lit, xn_le (by omega) (by omega)]; omega)
              · refine vv_aload_n C dX12_findRound_29 rfl ?_
                refine vv_iload_n C dX12_findRound_30 rfl ?_
                refine vv_iload_n C dX12_findRound_31 rfl ?_
                refine vs_caliF C dX12_findRound_32 (c_X12_debtOf g S2 (nI a) (nI b) (by rw [xn_lit, xn_mul, nI_add]; exact xn_in (by omega) (by omega))) mb_X12_debtOf mv_X12_debtOf lk_X12_288 ce_65 rfl rfl rfl rfl ⟨Nat.le_of_ble_eq_true rfl, Nat.le_of_ble_eq_true rfl, Nat.le_of_ble_eq_true rfl⟩ ?_
                refine vs_eqi (v9 := nI (lgD L (8 * a + b))) (by rw [xn_lit, xn_mul, nI_add, xn_cl (by omega), eH]; exact (hD _ (by omega)).1) ?_
                refine vv_aload_n C dX12_findRound_35 rfl ?_
                refine gf_X12_roundLeast C dX12_findRound_36 fg_X12_294 ?_
                refine vs_eqi (v9 := nI v) (hJ.2.1) ?_
                refine vv_icmp_le (tgt := 134) C dX12_findRound_39 (by decide) (fun q39 => ?_) (fun q39 => ?_)
                · have z : lgD L (8 * a + b) ≤ v := (xn_le (by omega) (by omega)).mp q39
                  rw [rd_sk (by omega) (by omega) z (k + 1) c (by omega)] at he
                  refine vw_iinc (lv9 := [_, _, _, _, _]) C dX12_findRound_134 rfl ic_1 (by decide) rfl rfl ?_
                  refine vv_goto (tgt := 15) C dX12_findRound_137 (by decide) ?_
                  rw [nI_1]
                  exact ihb (b + 1) v w S2 _ _ (by omega) hJ (by rw [show 64 * a + 8 * (b + 1) = 64 * a + 8 * b + 8 by omega]; exact he)
                · rw [rd_b2 (by omega)] at he
                  refine vv_aload_n C dX12_findRound_42 rfl ?_
                  refine vv_iload_n C dX12_findRound_43 rfl ?_
                  refine vv_iload_n C dX12_findRound_44 rfl ?_
                  refine vs_caliF C dX12_findRound_45 (c_X12_debtOf g S2 (nI a) (nI b) (by rw [xn_lit, xn_mul, nI_add]; exact xn_in (by omega) (by omega))) mb_X12_debtOf mv_X12_debtOf lk_X12_288 ce_65 rfl rfl rfl rfl ⟨Nat.le_of_ble_eq_true rfl, Nat.le_of_ble_eq_true rfl, Nat.le_of_ble_eq_true rfl⟩ ?_
                  refine vs_eqi (v9 := nI (lgD L (8 * a + b))) (by rw [xn_lit, xn_mul, nI_add, xn_cl (by omega), eH]; exact (hD _ (by omega)).1) ?_
                  refine vv_aload_n C dX12_findRound_48 rfl ?_
                  refine vv_iload_n C dX12_findRound_49 rfl ?_
                  refine vv_iload_n C dX12_findRound_50 rfl ?_
                  refine vs_caliF C dX12_findRound_51 (c_X12_debtOf g S2 (nI b) (nI c) (by rw [xn_lit, xn_mul, nI_add]; exact xn_in (by omega) (by omega))) mb_X12_debtOf mv_X12_debtOf lk_X12_288 ce_65 rfl rfl rfl rfl ⟨Nat.le_of_ble_eq_true rfl, Nat.le_of_ble_eq_true rfl, Nat.le_of_ble_eq_true rfl⟩ ?_
                  refine vs_eqi (v9 := nI (lgD L (8 * b + c))) (by rw [xn_lit, xn_mul, nI_add, xn_cl (by omega), eH]; exact (hD _ (by omega)).1) ?_
                  refine vv_icmp_ge (tgt := 66) C dX12_findRound_54 (by decide) (fun q54 => ?_) (fun q54 => ?_)
                  · have m1 : lgD L (8 * b + c) ≤ lgD L (8 * a + b) := (xn_le (by omega) (by omega)).mp q54
                    refine vv_aload_n C dX12_findRound_66 rfl ?_
                    refine vv_iload_n C dX12_findRound_67 rfl ?_
                    refine vv_iload_n C dX12_findRound_68 rfl ?_
                    refine vs_caliF C dX12_findRound_69 (c_X12_debtOf g S2 (nI b) (nI c) (by rw [xn_lit, xn_mul, nI_add]; exact xn_in (by omega) (by omega))) mb_X12_debtOf mv_X12_debtOf lk_X12_288 ce_65 rfl rfl rfl rfl ⟨Nat.le_of_ble_eq_true rfl, Nat.le_of_ble_eq_true rfl, Nat.le_of_ble_eq_true rfl⟩ ?_
                    refine vs_eqi (v9 := nI (min (lgD L (8 * a + b)) (lgD L (8 * b + c)))) (by rw [xn_lit, xn_mul, nI_add, xn_cl (by omega), eH, (hD _ (by omega)).1]; first | rw [Nat.min_eq_right (Nat.le_of_lt (by omega))] | rw [Nat.min_eq_left (by omega)] | rw [Nat.min_eq_right (by omega)]) ?_
                    refine vw_istore (lv9 := [_, _, _, _, _]) C dX12_findRound_72 (by decide) rfl rfl ?_
                    refine vv_aload_n C dX12_findRound_74 rfl ?_
                    refine vv_iload_n C dX12_findRound_75 rfl ?_
                    refine vv_iload_n C dX12_findRound_76 rfl ?_
                    refine vs_caliF C dX12_findRound_77 (c_X12_debtOf g S2 (nI c) (nI a) (by rw [xn_lit, xn_mul, nI_add]; exact xn_in (by omega) (by omega))) mb_X12_debtOf mv_X12_debtOf lk_X12_288 ce_65 rfl rfl rfl rfl ⟨Nat.le_of_ble_eq_true rfl, Nat.le_of_ble_eq_true rfl, Nat.le_of_ble_eq_true rfl⟩ ?_
                    refine vs_eqi (v9 := nI (lgD L (8 * c + a))) (by rw [xn_lit, xn_mul, nI_add, xn_cl (by omega), eH]; exact (hD _ (by omega)).1) ?_
                    refine vv_iload C dX12_findRound_80 rfl ?_
                    refine vv_icmp_ge (tgt := 94) C dX12_findRound_82 (by decide) (fun q82 => ?_) (fun q82 => ?_)
                    · have m2 : min (lgD L (8 * a + b)) (lgD L (8 * b + c)) ≤ lgD L (8 * c + a) := (xn_le (by omega) (by omega)).mp q82
                      refine vv_iload C dX12_findRound_94 rfl ?_
                      refine vs_eqi (v9 := nI (rd_t (lgD L) (64 * a + 8 * b + c))) (by first | exact congrArg nI (by rw [ete]; omega) | (rw [xn_lit, xn_mul, nI_add, xn_cl (by omega), eH, (hD _ (by omega)).1]; exact congrArg nI (by rw [ete]; omega))) ?_
                      refine vw_istore (lv9 := [_, _, _, _, _]) C dX12_findRound_96 (by decide) rfl rfl ?_
                      refine vv_iload C dX12_findRound_98 rfl ?_
                      refine vv_aload_n C dX12_findRound_100 rfl ?_
                      refine gf_X12_roundLeast C dX12_findRound_101 fg_X12_294 ?_
                      refine vs_eqi (v9 := nI v) (hJ.2.1) ?_
                      refine vv_icmp_le (tgt := 128) C dX12_findRound_104 (by decide) (fun q104 => ?_) (fun q104 => ?_)
                      · rw [if_neg (Nat.not_lt.mpr ((xn_le (by omega) (by omega)).mp q104))] at he
                        refine vw_iinc (lv9 := [_, _, _, _, _]) C dX12_findRound_128 rfl ic_1 (by decide) rfl rfl ?_
                        refine vv_goto (tgt := 23) C dX12_findRound_131 (by decide) ?_
                        rw [nI_1]
                        first
                        | exact ihc (c + 1) v w S2 _ (by omega) hJ he
                        | exact ihc (c + 1) _ _ _ _ (by omega) (rd_J2 hJ (by omega) (by omega) (by omega) du) he
                      · rw [if_pos (Nat.lt_of_not_le (fun y => q104 ((xn_le (by omega) (by omega)).mpr y)))] at he
                        refine vv_aload_n C dX12_findRound_107 rfl ?_
                        refine vv_iload C dX12_findRound_108 rfl ?_
                        refine pf_X12_roundLeast C dX12_findRound_110 fp_X12_294 ?_
                        refine vv_aload_n C dX12_findRound_113 rfl ?_
                        refine vv_bipush C dX12_findRound_114 bp_100 ?_
                        refine vv_iload_n C dX12_findRound_116 rfl ?_
                        refine vv_imul C dX12_findRound_117 ?_
                        refine vs_eqi (v9 := nI (100 * a)) (by rw [xn_lit, xn_mul]) ?_
                        refine vv_bipush C dX12_findRound_118 bp_10 ?_
                        refine vv_iload_n C dX12_findRound_120 rfl ?_
                        refine vv_imul C dX12_findRound_121 ?_
                        refine vs_eqi (v9 := nI (10 * b)) (by rw [xn_lit, xn_mul]) ?_
                        refine vv_iadd C dX12_findRound_122 ?_
                        refine vs_eqi (v9 := nI (100 * a + 10 * b)) (nI_add _ _) ?_
                        refine vv_iload_n C dX12_findRound_123 rfl ?_
                        refine vv_iadd C dX12_findRound_124 ?_
                        refine vs_eqi (v9 := nI (100 * a + 10 * b + c)) (nI_add _ _) ?_
                        refine pf_X12_roundWho C dX12_findRound_125 fp_X12_297 ?_
                        refine vw_iinc (lv9 := [_, _, _, _, _]) C dX12_findRound_128 rfl ic_1 (by decide) rfl rfl ?_
                        refine vv_goto (tgt := 23) C dX12_findRound_131 (by decide) ?_
                        rw [nI_1]
                        first
                        | exact ihc (c + 1) v w S2 _ (by omega) hJ he
                        | exact ihc (c + 1) _ _ _ _ (by omega) (rd_J2 hJ (by omega) (by omega) (by omega) du) he
                    · have m2 : lgD L (8 * c + a) < min (lgD L (8 * a + b)) (lgD L (8 * b + c)) := Nat.lt_of_not_le (fun y => q82 ((xn_le (by omega) (by omega)).mpr y))
                      refine vv_aload_n C dX12_findRound_85 rfl ?_
                      refine vv_iload_n C dX12_findRound_86 rfl ?_
                      refine vv_iload_n C dX12_findRound_87 rfl ?_
                      refine vs_caliF C dX12_findRound_88 (c_X12_debtOf g S2 (nI c) (nI a) (by rw [xn_lit, xn_mul, nI_add]; exact xn_in (by omega) (by omega))) mb_X12_debtOf mv_X12_debtOf lk_X12_288 ce_65 rfl rfl rfl rfl ⟨Nat.le_of_ble_eq_true rfl, Nat.le_of_ble_eq_true rfl, Nat.le_of_ble_eq_true rfl⟩ ?_
                      refine vv_goto (tgt := 96) C dX12_findRound_91 (by decide) ?_
                      refine vs_eqi (v9 := nI (rd_t (lgD L) (64 * a + 8 * b + c))) (by first | exact congrArg nI (by rw [ete]; omega) | (rw [xn_lit, xn_mul, nI_add, xn_cl (by omega), eH, (hD _ (by omega)).1]; exact congrArg nI (by rw [ete]; omega))) ?_
                      refine vw_istore (lv9 := [_, _, _, _, _]) C dX12_findRound_96 (by decide) rfl rfl ?_
                      refine vv_iload C dX12_findRound_98 rfl ?_
                      refine vv_aload_n C dX12_findRound_100 rfl ?_
                      refine gf_X12_roundLeast C dX12_findRound_101 fg_X12_294 ?_
                      refine vs_eqi (v9 := nI v) (hJ.2.1) ?_
                      refine vv_icmp_le (tgt := 128) C dX12_findRound_104 (by decide) (fun q104 => ?_) (fun q104 => ?_)
                      · rw [if_neg (Nat.not_lt.mpr ((xn_le (by omega) (by omega)).mp q104))] at he
                        refine vw_iinc (lv9 := [_, _, _, _, _]) C dX12_findRound_128 rfl ic_1 (by decide) rfl rfl ?_
                        refine vv_goto (tgt := 23) C dX12_findRound_131 (by decide) ?_
                        rw [nI_1]
                        first
                        | exact ihc (c + 1) v w S2 _ (by omega) hJ he
                        | exact ihc (c + 1) _ _ _ _ (by omega) (rd_J2 hJ (by omega) (by omega) (by omega) du) he
                      · rw [if_pos (Nat.lt_of_not_le (fun y => q104 ((xn_le (by omega) (by omega)).mpr y)))] at he
                        refine vv_aload_n C dX12_findRound_107 rfl ?_
                        refine vv_iload C dX12_findRound_108 rfl ?_
                        refine pf_X12_roundLeast C dX12_findRound_110 fp_X12_294 ?_
                        refine vv_aload_n C dX12_findRound_113 rfl ?_
                        refine vv_bipush C dX12_findRound_114 bp_100 ?_
                        refine vv_iload_n C dX12_findRound_116 rfl ?_
                        refine vv_imul C dX12_findRound_117 ?_
                        refine vs_eqi (v9 := nI (100 * a)) (by rw [xn_lit, xn_mul]) ?_
                        refine vv_bipush C dX12_findRound_118 bp_10 ?_
                        refine vv_iload_n C dX12_findRound_120 rfl ?_
                        refine vv_imul C dX12_findRound_121 ?_
                        refine vs_eqi (v9 := nI (10 * b)) (by rw [xn_lit, xn_mul]) ?_
                        refine vv_iadd C dX12_findRound_122 ?_
                        refine vs_eqi (v9 := nI (100 * a + 10 * b)) (nI_add _ _) ?_
                        refine vv_iload_n C dX12_findRound_123 rfl ?_
                        refine vv_iadd C dX12_findRound_124 ?_
                        refine vs_eqi (v9 := nI (100 * a + 10 * b + c)) (nI_add _ _) ?_
                        refine pf_X12_roundWho C dX12_findRound_125 fp_X12_297 ?_
                        refine vw_iinc (lv9 := [_, _, _, _, _]) C dX12_findRound_128 rfl ic_1 (by decide) rfl rfl ?_
                        refine vv_goto (tgt := 23) C dX12_findRound_131 (by decide) ?_
                        rw [nI_1]
                        first
                        | exact ihc (c + 1) v w S2 _ (by omega) hJ he
                        | exact ihc (c + 1) _ _ _ _ (by omega) (rd_J2 hJ (by omega) (by omega) (by omega) du) he
                  · have m1 : lgD L (8 * a + b) < lgD L (8 * b + c) := Nat.lt_of_not_le (fun y => q54 ((xn_le (by omega) (by omega)).mpr y))
                    refine vv_aload_n C dX12_findRound_57 rfl ?_
                    refine vv_iload_n C dX12_findRound_58 rfl ?_
                    refine vv_iload_n C dX12_findRound_59 rfl ?_
                    refine vs_caliF C dX12_findRound_60 (c_X12_debtOf g S2 (nI a) (nI b) (by rw [xn_lit, xn_mul, nI_add]; exact xn_in (by omega) (by omega))) mb_X12_debtOf mv_X12_debtOf lk_X12_288 ce_65 rfl rfl rfl rfl ⟨Nat.le_of_ble_eq_true rfl, Nat.le_of_ble_eq_true rfl, Nat.le_of_ble_eq_true rfl⟩ ?_
                    refine vv_goto (tgt := 72) C dX12_findRound_63 (by decide) ?_
                    refine vs_eqi (v9 := nI (min (lgD L (8 * a + b)) (lgD L (8 * b + c)))) (by rw [xn_lit, xn_mul, nI_add, xn_cl (by omega), eH, (hD _ (by omega)).1]; first | rw [Nat.min_eq_right (Nat.le_of_lt (by omega))] | rw [Nat.min_eq_left (by omega)] | rw [Nat.min_eq_right (by omega)]) ?_
                    refine vw_istore (lv9 := [_, _, _, _, _]) C dX12_findRound_72 (by decide) rfl rfl ?_
                    refine vv_aload_n C dX12_findRound_74 rfl ?_
                    refine vv_iload_n C dX12_findRound_75 rfl ?_
                    refine vv_iload_n C dX12_findRound_76 rfl ?_
                    refine vs_caliF C dX12_findRound_77 (c_X12_debtOf g S2 (nI c) (nI a) (by rw [xn_lit, xn_mul, nI_add]; exact xn_in (by omega) (by omega))) mb_X12_debtOf mv_X12_debtOf lk_X12_288 ce_65 rfl rfl rfl rfl ⟨Nat.le_of_ble_eq_true rfl, Nat.le_of_ble_eq_true rfl, Nat.le_of_ble_eq_true rfl⟩ ?_
                    refine vs_eqi (v9 := nI (lgD L (8 * c + a))) (by rw [xn_lit, xn_mul, nI_add, xn_cl (by omega), eH]; exact (hD _ (by omega)).1) ?_
                    refine vv_iload C dX12_findRound_80 rfl ?_
                    refine vv_icmp_ge (tgt := 94) C dX12_findRound_82 (by decide) (fun q82 => ?_) (fun q82 => ?_)
                    · have m2 : min (lgD L (8 * a + b)) (lgD L (8 * b + c)) ≤ lgD L (8 * c + a) := (xn_le (by omega) (by omega)).mp q82
                      refine vv_iload C dX12_findRound_94 rfl ?_
                      refine vs_eqi (v9 := nI (rd_t (lgD L) (64 * a + 8 * b + c))) (by first | exact congrArg nI (by rw [ete]; omega) | (rw [xn_lit, xn_mul, nI_add, xn_cl (by omega), eH, (hD _ (by omega)).1]; exact congrArg nI (by rw [ete]; omega))) ?_
                      refine vw_istore (lv9 := [_, _, _, _, _]) C dX12_findRound_96 (by decide) rfl rfl ?_
                      refine vv_iload C dX12_findRound_98 rfl ?_
                      refine vv_aload_n C dX12_findRound_100 rfl ?_
                      refine gf_X12_roundLeast C dX12_findRound_101 fg_X12_294 ?_
                      refine vs_eqi (v9 := nI v) (hJ.2.1) ?_
                      refine vv_icmp_le (tgt := 128) C dX12_findRound_104 (by decide) (fun q104 => ?_) (fun q104 => ?_)
                      · rw [if_neg (Nat.not_lt.mpr ((xn_le (by omega) (by omega)).mp q104))] at he
                        refine vw_iinc (lv9 := [_, _, _, _, _]) C dX12_findRound_128 rfl ic_1 (by decide) rfl rfl ?_
                        refine vv_goto (tgt := 23) C dX12_findRound_131 (by decide) ?_
                        rw [nI_1]
                        first
                        | exact ihc (c + 1) v w S2 _ (by omega) hJ he
                        | exact ihc (c + 1) _ _ _ _ (by omega) (rd_J2 hJ (by omega) (by omega) (by omega) du) he
                      · rw [if_pos (Nat.lt_of_not_le (fun y => q104 ((xn_le (by omega) (by omega)).mpr y)))] at he
                        refine vv_aload_n C dX12_findRound_107 rfl ?_
                        refine vv_iload C dX12_findRound_108 rfl ?_
                        refine pf_X12_roundLeast C dX12_findRound_110 fp_X12_294 ?_
                        refine vv_aload_n C dX12_findRound_113 rfl ?_
                        refine vv_bipush C dX12_findRound_114 bp_100 ?_
                        refine vv_iload_n C dX12_findRound_116 rfl ?_
                        refine vv_imul C dX12_findRound_117 ?_
                        refine vs_eqi (v9 := nI (100 * a)) (by rw [xn_lit, xn_mul]) ?_
                        refine vv_bipush C dX12_findRound_118 bp_10 ?_
                        refine vv_iload_n C dX12_findRound_120 rfl ?_
                        refine vv_imul C dX12_findRound_121 ?_
                        refine vs_eqi (v9 := nI (10 * b)) (by rw [xn_lit, xn_mul]) ?_
                        refine vv_iadd C dX12_findRound_122 ?_
                        refine vs_eqi (v9 := nI (100 * a + 10 * b)) (nI_add _ _) ?_
                        refine vv_iload_n C dX12_findRound_123 rfl ?_
                        refine vv_iadd C dX12_findRound_124 ?_
                        refine vs_eqi (v9 := nI (100 * a + 10 * b + c)) (nI_add _ _) ?_
                        refine pf_X12_roundWho C dX12_findRound_125 fp_X12_297 ?_
                        refine vw_iinc (lv9 := [_, _, _, _, _]) C dX12_findRound_128 rfl ic_1 (by decide) rfl rfl ?_
                        refine vv_goto (tgt := 23) C dX12_findRound_131 (by decide) ?_
                        rw [nI_1]
                        first
                        | exact ihc (c + 1) v w S2 _ (by omega) hJ he
                        | exact ihc (c + 1) _ _ _ _ (by omega) (rd_J2 hJ (by omega) (by omega) (by omega) du) he
                    · have m2 : lgD L (8 * c + a) < min (lgD L (8 * a + b)) (lgD L (8 * b + c)) := Nat.lt_of_not_le (fun y => q82 ((xn_le (by omega) (by omega)).mpr y))
                      refine vv_aload_n C dX12_findRound_85 rfl ?_
                      refine vv_iload_n C dX12_findRound_86 rfl ?_
                      refine vv_iload_n C dX12_findRound_87 rfl ?_
                      refine vs_caliF C dX12_findRound_88 (c_X12_debtOf g S2 (nI c) (nI a) (by rw [xn_lit, xn_mul, nI_add]; exact xn_in (by omega) (by omega))) mb_X12_debtOf mv_X12_debtOf lk_X12_288 ce_65 rfl rfl rfl rfl ⟨Nat.le_of_ble_eq_true rfl, Nat.le_of_ble_eq_true rfl, Nat.le_of_ble_eq_true rfl⟩ ?_
                      refine vv_goto (tgt := 96) C dX12_findRound_91 (by decide) ?_
                      refine vs_eqi (v9 := nI (rd_t (lgD L) (64 * a + 8 * b + c))) (by first | exact congrArg nI (by rw [ete]; omega) | (rw [xn_lit, xn_mul, nI_add, xn_cl (by omega), eH, (hD _ (by omega)).1]; exact congrArg nI (by rw [ete]; omega))) ?_
                      refine vw_istore (lv9 := [_, _, _, _, _]) C dX12_findRound_96 (by decide) rfl rfl ?_
                      refine vv_iload C dX12_findRound_98 rfl ?_
                      refine vv_aload_n C dX12_findRound_100 rfl ?_
                      refine gf_X12_roundLeast C dX12_findRound_101 fg_X12_294 ?_
                      refine vs_eqi (v9 := nI v) (hJ.2.1) ?_
                      refine vv_icmp_le (tgt := 128) C dX12_findRound_104 (by decide) (fun q104 => ?_) (fun q104 => ?_)
                      · rw [if_neg (Nat.not_lt.mpr ((xn_le (by omega) (by omega)).mp q104))] at he
                        refine vw_iinc (lv9 := [_, _, _, _, _]) C dX12_findRound_128 rfl ic_1 (by decide) rfl rfl ?_
                        refine vv_goto (tgt := 23) C dX12_findRound_131 (by decide) ?_
                        rw [nI_1]
                        first
                        | exact ihc (c + 1) v w S2 _ (by omega) hJ he
                        | exact ihc (c + 1) _ _ _ _ (by omega) (rd_J2 hJ (by omega) (by omega) (by omega) du) he
                      · rw [if_pos (Nat.lt_of_not_le (fun y => q104 ((xn_le (by omega) (by omega)).mpr y)))] at he
                        refine vv_aload_n C dX12_findRound_107 rfl ?_
                        refine vv_iload C dX12_findRound_108 rfl ?_
                        refine pf_X12_roundLeast C dX12_findRound_110 fp_X12_294 ?_
                        refine vv_aload_n C dX12_findRound_113 rfl ?_
                        refine vv_bipush C dX12_findRound_114 bp_100 ?_
                        refine vv_iload_n C dX12_findRound_116 rfl ?_
                        refine vv_imul C dX12_findRound_117 ?_
                        refine vs_eqi (v9 := nI (100 * a)) (by rw [xn_lit, xn_mul]) ?_
                        refine vv_bipush C dX12_findRound_118 bp_10 ?_
                        refine vv_iload_n C dX12_findRound_120 rfl ?_
                        refine vv_imul C dX12_findRound_121 ?_
                        refine vs_eqi (v9 := nI (10 * b)) (by rw [xn_lit, xn_mul]) ?_
                        refine vv_iadd C dX12_findRound_122 ?_
                        refine vs_eqi (v9 := nI (100 * a + 10 * b)) (nI_add _ _) ?_
                        refine vv_iload_n C dX12_findRound_123 rfl ?_
                        refine vv_iadd C dX12_findRound_124 ?_
                        refine vs_eqi (v9 := nI (100 * a + 10 * b + c)) (nI_add _ _) ?_
                        refine pf_X12_roundWho C dX12_findRound_125 fp_X12_297 ?_
                        refine vw_iinc (lv9 := [_, _, _, _, _]) C dX12_findRound_128 rfl ic_1 (by decide) rfl rfl ?_
                        refine vv_goto (tgt := 23) C dX12_findRound_131 (by decide) ?_
                        rw [nI_1]
                        first
                        | exact ihc (c + 1) v w S2 _ (by omega) hJ he
                        | exact ihc (c + 1) _ _ _ _ (by omega) (rd_J2 hJ (by omega) (by omega) (by omega) du) he
          refine vv_iload_n C dX12_findRound_15 rfl ?_
          refine vv_bipush C dX12_findRound_16 bp_8 ?_
          refine vv_icmp_ge (tgt := 140) C dX12_findRound_18 (by decide) (fun q18 => ?_) (fun q18 => ?_)
          · exact absurd q18 (by rw [xn_lit, xn_le (by omega) (by omega)]; omega)
          · refine vv_iconst C dX12_findRound_21 ic_0 ?_
            refine vw_istore_n (lv9 := [_, _, _, _, _]) C dX12_findRound_22 (by decide) rfl rfl ?_
            exact inner 8 0 v w S2 _ rfl hJ he
      refine vv_iload_n C dX12_findRound_7 rfl ?_
      refine vv_bipush C dX12_findRound_8 bp_8 ?_
      refine vv_icmp_ge (tgt := 146) C dX12_findRound_10 (by decide) (fun q10 => ?_) (fun q10 => ?_)
      · exact absurd q10 (by rw [xn_lit, xn_le (by omega) (by omega)]; omega)
      · refine vv_iconst C dX12_findRound_13 ic_0 ?_
        refine vw_istore_n (lv9 := [_, _, _, _, _]) C dX12_findRound_14 (by decide) rfl rfl ?_
        exact mid 8 0 v w S2 _ _ rfl hJ he
  refine vv_aload_n C dX12_findRound_0 rfl ?_
  refine vv_iconst C dX12_findRound_1 ic_0 ?_
  refine pf_X12_roundLeast C dX12_findRound_2 fp_X12_294 ?_
  refine vv_iconst C dX12_findRound_5 ic_0 ?_
  refine vw_istore_n (lv9 := [_, _, _, _, _]) C dX12_findRound_6 (by decide) rfl rfl ?_
  exact outer 8 0 0 0 _ _ _ _ rfl ⟨vs_fr.rf.us (by decide), rfl, fun z => absurd z (Nat.lt_irrefl 0), by omega, by omega⟩ rfl
set_option maxRecDepth 20000 in
theorem c_X12_round (g : vv_G) (S : vs_S) (L : lg_L) (hL : lg_M S L) (hk : lg_ok L) (hi : lg_in L) : vs_KI g yX12_round cX12_round 5 (some .int) 3 [vv_r g 65] S (fun r S1 => r = nI (rd_r 64 L).1 ∧ lg_M S1 (rd_r 64 L).2 ∧ vs_fr [21, 22, 35, 36] [66, 67, 68, 69] [] S S1) := by
  refine vs_ofI (lv := [_, _, _, _, _]) mb_X12_round (Nat.le_of_ble_eq_true rfl) rfl (fun x C F => ?_)
  have loop : ∀ (f t : Nat) (S0 S2 : vs_S) (L2 : lg_L) (w2 w3 w4 : Option Value), rd_n (lgD L2) 64 ≤ f → t + f ≤ 64 + f → lg_M S2 L2 → lg_ok L2 → lg_in L2 → vs_fr [21, 22, 35, 36] [66, 67, 68, 69] [] S S2 → rd_J S0 S2 (rd_B (lgD L2)).1 (rd_B (lgD L2)).2 → t + (rd_r f L2).1 = (rd_r 64 L).1 → (rd_r f L2).2 = (rd_r 64 L).2 → vv_V g x 5 0 0 6 [some (vv_r g 65), some (.int (nI t)), w2, w3, w4] [] (vs_cells g S2) := by
    intro f
    induction f with
    | zero =>
      intro t S0 S2 L2 w2 w3 w4 hn ht hL2 hk2 hi2 fr hJ h2 h3
      have hv := rd_B0 (Nat.le_zero.mp hn)
      refine vv_aload_n C dX12_round_6 rfl ?_
      refine gf_X12_roundLeast C dX12_round_7 fg_X12_294 ?_
      refine vs_eqi (v9 := nI 0) (by rw [hJ.2.1, hv]) ?_
      refine vv_if_le (tgt := 71) C dX12_round_10 (by decide) (fun q10 => ?_) (fun q10 => ?_)
      · refine vv_iload_n C dX12_round_71 rfl ?_
        exact vs_iret C F dX12_round_72 rfl ⟨by rw [← h2]; rfl, by rw [← h3]; exact hL2, fr⟩
      · exact absurd (by decide +kernel) q10
    | succ f ih =>
      intro t S0 S2 L2 w2 w3 w4 hn ht hL2 hk2 hi2 fr hJ h2 h3
      have hv9 := hJ.2.2.2.1
      refine vv_aload_n C dX12_round_6 rfl ?_
      refine gf_X12_roundLeast C dX12_round_7 fg_X12_294 ?_
      refine vs_eqi (v9 := nI (rd_B (lgD L2)).1) (hJ.2.1) ?_
      refine vv_if_le (tgt := 71) C dX12_round_10 (by decide) (fun q10 => ?_) (fun q10 => ?_)
      · have hv : (rd_B (lgD L2)).1 = 0 := by have := (xn_le (b := 0) (by omega) (by omega)).mp q10; omega
        rw [rd_r0 hv] at h2 h3
        refine vv_iload_n C dX12_round_71 rfl ?_
        exact vs_iret C F dX12_round_72 rfl ⟨by rw [← h2]; rfl, by rw [← h3]; exact hL2, fr⟩
      · have hv0 : 0 < (rd_B (lgD L2)).1 := Nat.lt_of_not_le (fun y => q10 ((xn_le (b := 0) (by omega) (by omega)).mpr y))
        have hv : ¬ (rd_B (lgD L2)).1 = 0 := by omega
        have hw5 := hJ.2.2.2.2
        rw [rd_r1, if_neg hv] at h2 h3
        obtain ⟨i1, i2, i3⟩ := rd_sI hi2 hk2 hv0
        have k1 := lg_off_ok (v := (rd_B (lgD L2)).1) hk2 (p := 8 * ((rd_B (lgD L2)).2 / 64) + (rd_B (lgD L2)).2 / 8 % 8) (by omega)
        have k2 := lg_off_ok (v := (rd_B (lgD L2)).1) k1 (p := 8 * ((rd_B (lgD L2)).2 / 8 % 8) + (rd_B (lgD L2)).2 % 8) (by omega)
        refine vv_aload_n C dX12_round_13 rfl ?_
        refine gf_X12_roundWho C dX12_round_14 fg_X12_297 ?_
        refine vs_eqi (v9 := nI (100 * ((rd_B (lgD L2)).2 / 64) + 10 * ((rd_B (lgD L2)).2 / 8 % 8) + (rd_B (lgD L2)).2 % 8)) (hJ.2.2.1 hv0) ?_
        refine vv_bipush C dX12_round_17 bp_100 ?_
        refine vv_idiv C dX12_round_19 (by decide) ?_
        refine vs_eqi (v9 := nI ((rd_B (lgD L2)).2 / 64)) (by rw [xn_lit, xn_div (by omega) (by omega)]; exact congrArg nI (by omega)) ?_
        refine vw_istore_n (lv9 := [_, _, _, _, _]) C dX12_round_20 (by decide) rfl rfl ?_
        refine vv_aload_n C dX12_round_21 rfl ?_
        refine gf_X12_roundWho C dX12_round_22 fg_X12_297 ?_
        refine vs_eqi (v9 := nI (100 * ((rd_B (lgD L2)).2 / 64) + 10 * ((rd_B (lgD L2)).2 / 8 % 8) + (rd_B (lgD L2)).2 % 8)) (hJ.2.2.1 hv0) ?_
        refine vv_bipush C dX12_round_25 bp_10 ?_
        refine vv_idiv C dX12_round_27 (by decide) ?_
        refine vs_eqi (v9 := nI (10 * ((rd_B (lgD L2)).2 / 64) + (rd_B (lgD L2)).2 / 8 % 8)) (by rw [xn_lit, xn_div (by omega) (by omega)]; exact congrArg nI (by omega)) ?_
        refine vv_bipush C dX12_round_28 bp_10 ?_
        refine vv_irem C dX12_round_30 (by decide) ?_
        refine vs_eqi (v9 := nI ((rd_B (lgD L2)).2 / 8 % 8)) (by rw [xn_lit, xn_mod (by omega) (by omega)]; exact congrArg nI (by omega)) ?_
        refine vw_istore_n (lv9 := [_, _, _, _, _]) C dX12_round_31 (by decide) rfl rfl ?_
        refine vv_aload_n C dX12_round_32 rfl ?_
        refine gf_X12_roundWho C dX12_round_33 fg_X12_297 ?_
        refine vs_eqi (v9 := nI (100 * ((rd_B (lgD L2)).2 / 64) + 10 * ((rd_B (lgD L2)).2 / 8 % 8) + (rd_B (lgD L2)).2 % 8)) (hJ.2.2.1 hv0) ?_
        refine vv_bipush C dX12_round_36 bp_10 ?_
        refine vv_irem C dX12_round_38 (by decide) ?_
        refine vs_eqi (v9 := nI ((rd_B (lgD L2)).2 % 8)) (by rw [xn_lit, xn_mod (by omega) (by omega)]; exact congrArg nI (by omega)) ?_
        refine vw_istore (lv9 := [_, _, _, _, _]) C dX12_round_39 (by decide) rfl rfl ?_
        refine vv_aload_n C dX12_round_41 rfl ?_
        refine vv_iload_n C dX12_round_42 rfl ?_
        refine vv_iload_n C dX12_round_43 rfl ?_
        refine vs_callv C dX12_round_44 (c_X12_takesOff g S2 L2 hL2 hk2 ((rd_B (lgD L2)).2 / 64) ((rd_B (lgD L2)).2 / 8 % 8) (rd_B (lgD L2)).1 (by omega) (by omega) hJ.2.1) mb_X12_takesOff mv_X12_takesOff lk_X12_303 ce_65 rfl rfl rfl rfl ⟨Nat.le_of_ble_eq_true rfl, Nat.le_of_ble_eq_true rfl, Nat.le_of_ble_eq_true rfl⟩ (fun S44 p44 => ?_)
        refine vv_aload_n C dX12_round_47 rfl ?_
        refine vv_iload_n C dX12_round_48 rfl ?_
        refine vv_iload C dX12_round_49 rfl ?_
        refine vs_callv C dX12_round_51 (c_X12_takesOff g S44 _ p44.1 k1 ((rd_B (lgD L2)).2 / 8 % 8) ((rd_B (lgD L2)).2 % 8) (rd_B (lgD L2)).1 (by omega) (by omega) ((p44.2.1 35 (by decide)).trans hJ.2.1)) mb_X12_takesOff mv_X12_takesOff lk_X12_303 ce_65 rfl rfl rfl rfl ⟨Nat.le_of_ble_eq_true rfl, Nat.le_of_ble_eq_true rfl, Nat.le_of_ble_eq_true rfl⟩ (fun S51 p51 => ?_)
        refine vv_aload_n C dX12_round_54 rfl ?_
        refine vv_iload C dX12_round_55 rfl ?_
        refine vv_iload_n C dX12_round_57 rfl ?_
        refine vs_callv C dX12_round_58 (c_X12_takesOff g S51 _ p51.1 k2 ((rd_B (lgD L2)).2 % 8) ((rd_B (lgD L2)).2 / 64) (rd_B (lgD L2)).1 (by omega) (by omega) ((p51.2.1 35 (by decide)).trans ((p44.2.1 35 (by decide)).trans hJ.2.1))) mb_X12_takesOff mv_X12_takesOff lk_X12_303 ce_65 rfl rfl rfl rfl ⟨Nat.le_of_ble_eq_true rfl, Nat.le_of_ble_eq_true rfl, Nat.le_of_ble_eq_true rfl⟩ (fun S58 p58 => ?_)
        refine vw_iinc (lv9 := [_, _, _, _, _]) C dX12_round_61 rfl ic_1 (by decide) rfl rfl ?_
        refine vv_aload_n C dX12_round_64 rfl ?_
        refine vs_callv C dX12_round_65 (c_X12_findRound g S58 (rd_s L2) p58.1 i2 i1) mb_X12_findRound mv_X12_findRound lk_X12_300 ce_65 rfl rfl rfl rfl ⟨Nat.le_of_ble_eq_true rfl, Nat.le_of_ble_eq_true rfl, Nat.le_of_ble_eq_true rfl⟩ (fun S65 p65 => ?_)
        refine vv_goto (tgt := 6) C dX12_round_68 (by decide) ?_
        rw [nI_1]
        have f3 : vs_fr [21, 22, 35, 36] [66, 67, 68, 69] [] S S58 := fr.tr (((p44.2.tr p51.2).tr p58.2).wd (by decide) (by decide) (by decide))
        exact ih (t + 1) S58 S65 (rd_s L2) _ _ _ (by omega) (by have := (rd_rI f (rd_s L2) i1 i2).2.2; have := (rd_rI 64 L hi hk).2.2; dsimp only at h2; omega) (lg_M_fr p58.1 p65.1 (by decide) (by decide)) i2 i1 (f3.tr (p65.1.wd (by decide) (by decide) (by decide))) p65 (by dsimp only at h2; omega) h3
  refine vv_iconst C dX12_round_0 ic_0 ?_
  refine vw_istore_n (lv9 := [_, _, _, _, _]) C dX12_round_1 (by decide) rfl rfl ?_
  refine vv_aload_n C dX12_round_2 rfl ?_
  refine vs_callv C dX12_round_3 (c_X12_findRound g S L hL hk hi) mb_X12_findRound mv_X12_findRound lk_X12_300 ce_65 rfl rfl rfl rfl ⟨Nat.le_of_ble_eq_true rfl, Nat.le_of_ble_eq_true rfl, Nat.le_of_ble_eq_true rfl⟩ (fun S3 p3 => ?_)
  exact loop 64 0 S S3 L none none none (rd_nle 64) (by omega) (lg_M_fr hL p3.1 (by decide) (by decide)) hk hi (p3.1.wd (by decide) (by decide) (by decide)) p3 (Nat.zero_add _) rfl
