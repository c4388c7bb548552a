theorem c_fill_few (g : vv_G) (S : vs_S) (q : Nat) (hq : q < 17) (v : Int32) : vs_KV g yJ7_fill_53178 cJ7_fill_53178 4 none 1 [vv_r g (25 + q), .int v] S (fun S1 => ∃ f1, S1 = vs_ua S (25 + q) f1 ∧ ∀ j, j < 2001 → f1 j = v) :=
  c_fillI g _ (25 + q) 2001 (S.2.1 (25 + q)) v (by omega) (ce_few hq) _ (fun f1 h => ⟨vs_ua S (25 + q) f1, sa_few hq, f1, rfl, h⟩)
def fw_fr (S S1 : vs_S) : Prop := vs_fr [] [25, 26, 27, 28, 29, 30, 31, 32, 33, 34, 35, 36, 37, 38, 39, 40, 41, 42] [] S S1
theorem fw_fr.row {S S2 : vs_S} (h : fw_fr S S2) {k : Nat} (hk : k < 18) (f : Nat → Int32) : fw_fr S (vs_ua S2 (25 + k) f) := vs_fr.ua h (by
  have : k = 0 ∨ k = 1 ∨ k = 2 ∨ k = 3 ∨ k = 4 ∨ k = 5 ∨ k = 6 ∨ k = 7 ∨ k = 8 ∨ k = 9 ∨ k = 10 ∨ k = 11 ∨ k = 12 ∨ k = 13 ∨ k = 14 ∨ k = 15 ∨ k = 16 ∨ k = 17 := by omega
  rcases this with e | e | e | e | e | e | e | e | e | e | e | e | e | e | e | e | e | e <;> subst e <;> decide)
/-- the rows that stand: from place i on; how many of each may be paid -/
def pu_R (sz : Nat) (W M : Nat → Nat) (n i : Nat) (S : vs_S) : Prop := (∀ j m, i ≤ j → j ≤ sz → m ≤ n → S.2.1 (25 + j) m = nI (en 1000000 (cF sz W M (sz - j) m))) ∧ ∀ j, i ≤ j → j < sz → S.2.1 42 j = nI (M j)
theorem en_b {sz d u : Nat} {W M : Nat → Nat} (hM : ∀ i, M i ≤ 9) (hd : d ≤ 16) : en 1000000 (cF sz W M d u) ≤ 1000000 := by
  cases e : cF sz W M d u with
  | none => exact Nat.le_refl _
  | some y =>
    have := cF_le hM d u y e
    show y ≤ 1000000
    omega
theorem co_b {sz d v w K : Nat} {W M : Nat → Nat} (hM : ∀ i, M i ≤ 9) (hd : d ≤ 16) (hK : K ≤ 9) {x : Nat} (h : co_m (cF sz W M d) w v K = some x) : x ≤ 1000000 := by
  have := co_le (B := 9 * d) (fun u y h => cF_le hM d u y h) K x h
  omega
theorem pu_mul {a b : Nat} (h : a ≤ 9) (h2 : b ≤ 999) : a * b ≤ 8991 := Nat.mul_le_mul h h2
set_option maxRecDepth 20000 in
theorem c_X5_fewestFrom (g : vv_G) (S : vs_S) (sz : Nat) (hsz : sz ≤ 16) (W M : Nat → Nat) (hM : ∀ i, M i ≤ 9) (hW : ∀ i, i < 16 → W i ≤ 999) (n : Nat) (hn : n ≤ 2000) (i : Nat) (hi : i < sz) (hR : pu_R sz W M n (i + 1) S) (hu : S.2.1 42 i = nI (M i)) (m : Nat) (hm : m ≤ n) : vs_FI g yX5_fewestFrom cX5_fewestFrom 6 (some .int) 2 [vv_r g 23, .int (nI i), .int (nI m), .int (nI (W i))] S (nI (en 1000000 (cF sz W M (sz - i) m))) S := by
  refine vs_ofI (lv := [_, _, _, _, _, _]) mb_X5_fewestFrom (Nat.le_of_ble_eq_true rfl) rfl (fun x C F => ?_)
  have hrow : ∀ u, u ≤ n → S.2.1 (25 + (i + 1)) u = nI (en 1000000 (cF sz W M (sz - (i + 1)) u)) := fun u hu => hR.1 (i + 1) u (Nat.le_refl _) (by omega) hu
  have hMi := hM i
  have hWi := hW i (by omega)
  have loop : ∀ (f k : Nat), k + f = M i → vv_V g x 6 0 0 15 [some (vv_r g 23), some (.int (nI i)), some (.int (nI m)), some (.int (nI (W i))), some (.int (nI (en 1000000 (co_m (cF sz W M (sz - (i + 1))) (W i) m k)))), some (.int (nI (k + 1)))] [] (vs_cells g S) := by
    intro f
    induction f with
    | zero =>
      intro k h1
      have hk : k = M i := by omega
      subst hk
      refine vv_iload C dX5_fewestFrom_15 rfl ?_
      refine vv_aload_n C dX5_fewestFrom_17 rfl ?_
      refine gf_X5_usable C dX5_fewestFrom_18 fg_X5_16 ?_
      refine vv_iload_n C dX5_fewestFrom_21 rfl ?_
      refine ld_42 C dX5_fewestFrom_22 (xn_in (by omega) (by omega)) ?_
      refine vs_eqi (v9 := nI (M i)) (by rw [xn_cl (by omega)]; exact hu) ?_
      refine vv_icmp_gt (tgt := 65) C dX5_fewestFrom_23 (by decide) (fun q23 => ?_) (fun q23 => ?_)
      · refine vv_iload C dX5_fewestFrom_65 rfl ?_
        exact vs_iret C F dX5_fewestFrom_67 rfl ⟨by rw [cF_i hi], rfl⟩
      · exact absurd ((xn_lt (by omega) (by omega)).mpr (Nat.lt_succ_self _)) q23
    | succ f ih =>
      intro k h1
      have hkw := pu_mul (a := k + 1) (b := W i) (by omega) (by omega)
      have hb1 : en 1000000 (co_m (cF sz W M (sz - (i + 1))) (W i) m k) ≤ 1000000 := by
        cases e : co_m (cF sz W M (sz - (i + 1))) (W i) m k with
        | none => exact Nat.le_refl _
        | some y => exact co_b hM (by omega) (by omega) e
      have hb2 := en_b (sz := sz) (u := m - (k + 1) * W i) (W := W) hM (show sz - (i + 1) ≤ 16 by omega)
      have hmin := en_min (Z := 1000000) (c := k + 1) (a := co_m (cF sz W M (sz - (i + 1))) (W i) m k) (b := cF sz W M (sz - (i + 1)) (m - (k + 1) * W i)) (fun x hx => co_b hM (by omega) (by omega) hx) (fun y hy => by have := cF_le hM _ _ y hy; omega)
      refine vv_iload C dX5_fewestFrom_15 rfl ?_
      refine vv_aload_n C dX5_fewestFrom_17 rfl ?_
      refine gf_X5_usable C dX5_fewestFrom_18 fg_X5_16 ?_
      refine vv_iload_n C dX5_fewestFrom_21 rfl ?_
      refine ld_42 C dX5_fewestFrom_22 (xn_in (by omega) (by omega)) ?_
      refine vs_eqi (v9 := nI (M i)) (by rw [xn_cl (by omega)]; exact hu) ?_
      refine vv_icmp_gt (tgt := 65) C dX5_fewestFrom_23 (by decide) (fun q23 => ?_) (fun q23 => ?_)
      · exact absurd q23 (by rw [xn_lt (by omega) (by omega)]; omega)
      · refine vv_iload C dX5_fewestFrom_26 rfl ?_
        refine vv_iload_n C dX5_fewestFrom_28 rfl ?_
        refine vv_imul C dX5_fewestFrom_29 ?_
        refine vs_eqi (v9 := nI ((k + 1) * W i)) (xn_mul _ _) ?_
        refine vv_iload_n C dX5_fewestFrom_30 rfl ?_
        refine vv_icmp_gt (tgt := 65) C dX5_fewestFrom_31 (by decide) (fun q31 => ?_) (fun q31 => ?_)
        · have hz : m < (k + 1) * W i := by rw [xn_lt (by omega) (by omega)] at q31; exact q31
          refine vv_iload C dX5_fewestFrom_65 rfl ?_
          exact vs_iret C F dX5_fewestFrom_67 rfl ⟨by rw [cF_i hi, co_stop hz (M i) (by omega)], rfl⟩
        · have hz : (k + 1) * W i ≤ m := by rw [xn_lt (by omega) (by omega)] at q31; omega
          refine vv_iload C dX5_fewestFrom_34 rfl ?_
          refine vv_aload_n C dX5_fewestFrom_36 rfl ?_
          refine gf_X5_few C dX5_fewestFrom_37 fg_X5_13 ?_
          refine vv_iload_n C dX5_fewestFrom_40 rfl ?_
          refine vv_iconst C dX5_fewestFrom_41 ic_1 ?_
          refine vv_iadd C dX5_fewestFrom_42 ?_
          refine vs_eqi (v9 := nI (i + 1)) (nI_1 _) ?_
          refine aa_few C dX5_fewestFrom_43 (xn_in (by omega) (by omega)) ?_
          refine vs_eqr (v9 := 25 + (i + 1)) (by rw [xn_cl (by omega)]) ?_
          refine vv_iload_n C dX5_fewestFrom_44 rfl ?_
          refine vv_iload C dX5_fewestFrom_45 rfl ?_
          refine vv_iload_n C dX5_fewestFrom_47 rfl ?_
          refine vv_imul C dX5_fewestFrom_48 ?_
          refine vs_eqi (v9 := nI ((k + 1) * W i)) (xn_mul _ _) ?_
          refine vv_isub C dX5_fewestFrom_49 ?_
          refine vs_eqi (v9 := nI (m - (k + 1) * W i)) (xn_sub (by omega)) ?_
          refine ld_few C dX5_fewestFrom_50 (by omega) (xn_in (by omega) (by omega)) ?_
          refine vs_eqi (v9 := nI (en 1000000 (cF sz W M (sz - (i + 1)) (m - (k + 1) * W i)))) (by rw [xn_cl (by omega)]; exact hrow _ (by omega)) ?_
          refine vv_iload C dX5_fewestFrom_51 rfl ?_
          refine vv_iadd C dX5_fewestFrom_53 ?_
          refine vs_eqi (v9 := nI (en 1000000 (cF sz W M (sz - (i + 1)) (m - (k + 1) * W i)) + (k + 1))) (nI_add _ _) ?_
          refine vv_mmin C dX5_fewestFrom_54 lk_X5_66 ⟨Nat.le_of_ble_eq_true rfl, Nat.le_of_ble_eq_true rfl, Nat.zero_le _, Nat.zero_le _⟩ ?_
          refine vs_eqi (v9 := nI (en 1000000 (co_m (cF sz W M (sz - (i + 1))) (W i) m (k + 1)))) (by rw [xn_min (by omega) (by omega), co_m1, if_pos hz, hmin]) ?_
          refine vw_istore (lv9 := [_, _, _, _, _, _]) C dX5_fewestFrom_57 (by decide) rfl rfl ?_
          refine vw_iinc (lv9 := [_, _, _, _, _, _]) C dX5_fewestFrom_59 rfl ic_1 (by decide) rfl rfl ?_
          refine vv_goto (tgt := 15) C dX5_fewestFrom_62 (by decide) ?_
          rw [nI_1]
          exact ih (k + 1) (by omega)
  refine vv_aload_n C dX5_fewestFrom_0 rfl ?_
  refine gf_X5_few C dX5_fewestFrom_1 fg_X5_13 ?_
  refine vv_iload_n C dX5_fewestFrom_4 rfl ?_
  refine vv_iconst C dX5_fewestFrom_5 ic_1 ?_
  refine vv_iadd C dX5_fewestFrom_6 ?_
  refine vs_eqi (v9 := nI (i + 1)) (nI_1 _) ?_
  refine aa_few C dX5_fewestFrom_7 (xn_in (by omega) (by omega)) ?_
  refine vs_eqr (v9 := 25 + (i + 1)) (by rw [xn_cl (by omega)]) ?_
  refine vv_iload_n C dX5_fewestFrom_8 rfl ?_
  refine ld_few C dX5_fewestFrom_9 (by omega) (xn_in (by omega) (by omega)) ?_
  refine vs_eqi (v9 := nI (en 1000000 (co_m (cF sz W M (sz - (i + 1))) (W i) m 0))) (by rw [xn_cl (by omega)]; exact hrow m (by omega)) ?_
  refine vw_istore (lv9 := [_, _, _, _, _, _]) C dX5_fewestFrom_10 (by decide) rfl rfl ?_
  refine vv_iconst C dX5_fewestFrom_12 ic_1 ?_
  refine vw_istore (lv9 := [_, _, _, _, _, _]) C dX5_fewestFrom_13 (by decide) rfl rfl ?_
  exact loop (M i) 0 (Nat.zero_add _)
set_option maxRecDepth 20000 in
theorem c_X5_mostOf (g : vv_G) (S : vs_S) (sz : Nat) (hsz : sz ≤ 16) (W M : Nat → Nat) (hM : ∀ i, M i ≤ 9) (hW : ∀ i, i < 16 → W i ≤ 999) (n : Nat) (hn : n ≤ 2000) (hR : pu_R sz W M n 0 S) (hWS : ∀ i, i < 16 → S.2.1 19 (64 + i) = nI (W i)) (j : Nat) (hj : j < sz) (v x9 : Nat) (hv : v ≤ n) (hp : cF sz W M (sz - j) v = some x9) : vs_FI g yX5_mostOf cX5_mostOf 5 (some .int) 3 [vv_r g 23, .int (nI j), .int (nI v)] S (nI (cm sz W M j v)) S := by
  refine vs_ofI (lv := [_, _, _, _, _]) mb_X5_mostOf (Nat.le_of_ble_eq_true rfl) rfl (fun x C F => ?_)
  have hMj := hM j
  have hWj := hW j (by omega)
  have hx := cF_le hM _ _ _ hp
  have e0 : en 0 (cF sz W M (sz - j) v) = x9 := by rw [hp]; rfl
  have loop : ∀ (c : Nat) (w4 : Option Value), c ≤ M j → mo (cF sz W M (sz - (j + 1))) (W j) v x9 c = mo (cF sz W M (sz - (j + 1))) (W j) v x9 (M j) → vv_V g x 5 0 0 7 [some (vv_r g 23), some (.int (nI j)), some (.int (nI v)), some (.int (nI c)), w4] [] (vs_cells g S) := by
    intro c
    induction c with
    | zero =>
      intro w4 hc he
      refine vv_iload_n C dX5_mostOf_7 rfl ?_
      refine vv_if_le (tgt := 59) C dX5_mostOf_8 (by decide) (fun q8 => ?_) (fun q8 => ?_)
      · refine vv_iconst C dX5_mostOf_59 ic_0 ?_
        exact vs_iret C F dX5_mostOf_60 rfl ⟨by unfold cm; rw [e0, ← he]; rfl, rfl⟩
      · exact absurd (Int32.le_refl _) q8
    | succ c ih =>
      intro w4 hc he
      have hkw := pu_mul (a := c + 1) (b := W j) (by omega) (by omega)
      have ecw : nI v - nI (c + 1) * nI (W j) = xz ((v : Int) - ((c + 1) * W j : Nat)) := by rw [xn_mul, xz_nI, xz_nI, xz_sub]
      rw [mo1] at he
      refine vv_iload_n C dX5_mostOf_7 rfl ?_
      refine vv_if_le (tgt := 59) C dX5_mostOf_8 (by decide) (fun q8 => ?_) (fun q8 => ?_)
      · exact absurd q8 (by rw [xn_lit, xn_le (by omega) (by omega)]; omega)
      · refine vv_iload_n C dX5_mostOf_11 rfl ?_
        refine vv_iload_n C dX5_mostOf_12 rfl ?_
        refine vv_aload_n C dX5_mostOf_13 rfl ?_
        refine vv_iload_n C dX5_mostOf_14 rfl ?_
        refine vs_caliF C dX5_mostOf_15 (c_X5_worth g S (nI j) (by rw [show (64 : Int32) + nI j = nI (64 + j) from nI_add 64 _]; exact xn_in (by omega) (by omega))) mb_X5_worth mv_X5_worth lk_X5_53 ce_23 rfl rfl rfl rfl ⟨Nat.le_of_ble_eq_true rfl, Nat.le_of_ble_eq_true rfl, Nat.le_of_ble_eq_true rfl⟩ ?_
        refine vs_eqi (v9 := nI (W j)) (by rw [show (64 : Int32) + nI j = nI (64 + j) from nI_add 64 _, xn_cl (by omega)]; exact hWS j (by omega)) ?_
        refine vv_imul C dX5_mostOf_18 ?_
        refine vv_isub C dX5_mostOf_19 ?_
        refine vw_istore (lv9 := [_, _, _, _, _]) C dX5_mostOf_20 (by decide) rfl rfl ?_
        refine vv_iload C dX5_mostOf_22 rfl ?_
        refine vv_if_lt (tgt := 53) C dX5_mostOf_24 (by decide) (fun q24 => ?_) (fun q24 => ?_)
        · have hz : ¬ (c + 1) * W j ≤ v := fun z => by
            rw [ecw, xz_0, xz_lt (by omega) (by omega)] at q24
            omega
          rw [if_neg (fun z => hz z.1)] at he
          refine vw_iinc (lv9 := [_, _, _, _, _]) C dX5_mostOf_53 rfl ic_m1 (by decide) rfl rfl ?_
          refine vv_goto (tgt := 7) C dX5_mostOf_56 (by decide) ?_
          show vv_V g x 5 0 0 7 [_, _, _, some (.int (nI (c + 1) + -1)), _] _ _
          rw [xm1, nI_pred]
          exact ih _ (by omega) he
        · have hz : (c + 1) * W j ≤ v := by
            apply Nat.le_of_not_lt
            intro z
            apply q24
            rw [ecw, xz_0, xz_lt (by omega) (by omega)]
            omega
          have hb2 := en_b (sz := sz) (u := v - (c + 1) * W j) (W := W) hM (show sz - (j + 1) ≤ 16 by omega)
          have heq := en_eq (Z := 1000000) (c := c + 1) (x := x9) (b := cF sz W M (sz - (j + 1)) (v - (c + 1) * W j)) (by omega)
          refine vv_aload_n C dX5_mostOf_27 rfl ?_
          refine gf_X5_few C dX5_mostOf_28 fg_X5_13 ?_
          refine vv_iload_n C dX5_mostOf_31 rfl ?_
          refine vv_iconst C dX5_mostOf_32 ic_1 ?_
          refine vv_iadd C dX5_mostOf_33 ?_
          refine vs_eqi (v9 := nI (j + 1)) (nI_1 _) ?_
          refine aa_few C dX5_mostOf_34 (xn_in (by omega) (by omega)) ?_
          refine vs_eqr (v9 := 25 + (j + 1)) (by rw [xn_cl (by omega)]) ?_
          refine vv_iload C dX5_mostOf_35 rfl ?_
          refine vs_eqi (v9 := nI (v - (c + 1) * W j)) (by rw [xn_mul, xn_sub hz]) ?_
          refine ld_few C dX5_mostOf_37 (by omega) (xn_in (by omega) (by omega)) ?_
          refine vs_eqi (v9 := nI (en 1000000 (cF sz W M (sz - (j + 1)) (v - (c + 1) * W j)))) (by rw [xn_cl (by omega)]; exact hR.1 (j + 1) _ (by omega) (by omega) (by omega)) ?_
          refine vv_iload_n C dX5_mostOf_38 rfl ?_
          refine vv_iadd C dX5_mostOf_39 ?_
          refine vs_eqi (v9 := nI (en 1000000 (cF sz W M (sz - (j + 1)) (v - (c + 1) * W j)) + (c + 1))) (nI_add _ _) ?_
          refine vv_aload_n C dX5_mostOf_40 rfl ?_
          refine gf_X5_few C dX5_mostOf_41 fg_X5_13 ?_
          refine vv_iload_n C dX5_mostOf_44 rfl ?_
          refine aa_few C dX5_mostOf_45 (xn_in (by omega) (by omega)) ?_
          refine vs_eqr (v9 := 25 + j) (by rw [xn_cl (by omega)]) ?_
          refine vv_iload_n C dX5_mostOf_46 rfl ?_
          refine ld_few C dX5_mostOf_47 (by omega) (xn_in (by omega) (by omega)) ?_
          refine vs_eqi (v9 := nI x9) (by rw [xn_cl (by omega), hR.1 j v (by omega) (by omega) hv, hp]; rfl) ?_
          refine vv_icmp_ne (tgt := 53) C dX5_mostOf_48 (by decide) (fun q48 => ?_) (fun q48 => ?_)
          · have hy : ¬ ((c + 1) * W j ≤ v ∧ (cF sz W M (sz - (j + 1)) (v - (c + 1) * W j)).map (· + (c + 1)) = some x9) := fun z => q48 (by rw [xn_eq (by omega) (by omega)]; exact heq.mpr z.2)
            rw [if_neg hy] at he
            refine vw_iinc (lv9 := [_, _, _, _, _]) C dX5_mostOf_53 rfl ic_m1 (by decide) rfl rfl ?_
            refine vv_goto (tgt := 7) C dX5_mostOf_56 (by decide) ?_
            show vv_V g x 5 0 0 7 [_, _, _, some (.int (nI (c + 1) + -1)), _] _ _
            rw [xm1, nI_pred]
            exact ih _ (by omega) he
          · have hy : (c + 1) * W j ≤ v ∧ (cF sz W M (sz - (j + 1)) (v - (c + 1) * W j)).map (· + (c + 1)) = some x9 := ⟨hz, heq.mp (by rw [xn_eq (by omega) (by omega)] at q48; exact q48)⟩
            rw [if_pos hy] at he
            refine vv_iload_n C dX5_mostOf_51 rfl ?_
            exact vs_iret C F dX5_mostOf_52 rfl ⟨by unfold cm; rw [e0, ← he], rfl⟩
  refine vv_aload_n C dX5_mostOf_0 rfl ?_
  refine gf_X5_usable C dX5_mostOf_1 fg_X5_16 ?_
  refine vv_iload_n C dX5_mostOf_4 rfl ?_
  refine ld_42 C dX5_mostOf_5 (xn_in (by omega) (by omega)) ?_
  refine vs_eqi (v9 := nI (M j)) (by rw [xn_cl (by omega)]; exact hR.2 j (by omega) hj) ?_
  refine vw_istore_n (lv9 := [_, _, _, _, _]) C dX5_mostOf_6 (by decide) rfl rfl ?_
  exact loop (M j) none (Nat.le_refl _) rfl
set_option maxRecDepth 20000 in
theorem c_X5_fewestOf (g : vv_G) (S : vs_S) (sz : Nat) (hsz : sz ≤ 16) (W M : Nat → Nat) (hM : ∀ i, M i ≤ 9) (hW : ∀ i, i < 16 → W i ≤ 999) (n : Nat) (hn : n ≤ 2000) (hR : pu_R sz W M n 0 S) (hWS : ∀ i, i < 16 → S.2.1 19 (64 + i) = nI (W i)) (i : Nat) (hi : i < sz) (x0 : Nat) (hp : cF sz W M sz n = some x0) : vs_FI g yX5_fewestOf cX5_fewestOf 5 (some .int) 4 [vv_r g 23, .int (nI n), .int (nI i)] S (nI (ct sz W M i 0 n)) S := by
  refine vs_ofI (lv := [_, _, _, _, _]) mb_X5_fewestOf (Nat.le_of_ble_eq_true rfl) rfl (fun x C F => ?_)
  have loop : ∀ (f k q x9 : Nat), k + f = i → q ≤ n → cF sz W M (sz - k) q = some x9 → ct sz W M f k q = ct sz W M i 0 n → vv_V g x 5 0 0 5 [some (vv_r g 23), some (.int (nI n)), some (.int (nI i)), some (.int (nI q)), some (.int (nI k))] [] (vs_cells g S) := by
    intro f
    induction f with
    | zero =>
      intro k q x9 h1 hq hp he
      have hk : k = i := by omega
      subst hk
      refine vv_iload C dX5_fewestOf_5 rfl ?_
      refine vv_iload_n C dX5_fewestOf_7 rfl ?_
      refine vv_icmp_ge (tgt := 34) C dX5_fewestOf_8 (by decide) (fun q8 => ?_) (fun q8 => ?_)
      · refine vv_aload_n C dX5_fewestOf_34 rfl ?_
        refine vv_iload_n C dX5_fewestOf_35 rfl ?_
        refine vv_iload_n C dX5_fewestOf_36 rfl ?_
        refine vs_caliF C dX5_fewestOf_37 (c_X5_mostOf g S sz hsz W M hM hW n hn hR hWS k (by omega) q x9 hq hp) mb_X5_mostOf mv_X5_mostOf lk_X5_72 ce_23 rfl rfl rfl rfl ⟨Nat.le_of_ble_eq_true rfl, Nat.le_of_ble_eq_true rfl, Nat.le_of_ble_eq_true rfl⟩ ?_
        exact vs_iret C F dX5_fewestOf_40 rfl ⟨congrArg nI he, rfl⟩
      · exact absurd (Int32.le_refl _) q8
    | succ f ih =>
      intro k q x9 h1 hq hp he
      have hc := cm_sp (show k < sz by omega) hp
      obtain ⟨y9, hy⟩ := cm_ne (show k < sz by omega) hp
      have hMk := hM k
      have hkw := pu_mul (a := cm sz W M k q) (b := W k) (by omega) (hW k (by omega))
      refine vv_iload C dX5_fewestOf_5 rfl ?_
      refine vv_iload_n C dX5_fewestOf_7 rfl ?_
      refine vv_icmp_ge (tgt := 34) C dX5_fewestOf_8 (by decide) (fun q8 => ?_) (fun q8 => ?_)
      · exact absurd q8 (by rw [xn_le (by omega) (by omega)]; omega)
      · refine vv_iload_n C dX5_fewestOf_11 rfl ?_
        refine vv_aload_n C dX5_fewestOf_12 rfl ?_
        refine vv_iload C dX5_fewestOf_13 rfl ?_
        refine vv_iload_n C dX5_fewestOf_15 rfl ?_
        refine vs_caliF C dX5_fewestOf_16 (c_X5_mostOf g S sz hsz W M hM hW n hn hR hWS k (by omega) q x9 hq hp) mb_X5_mostOf mv_X5_mostOf lk_X5_72 ce_23 rfl rfl rfl rfl ⟨Nat.le_of_ble_eq_true rfl, Nat.le_of_ble_eq_true rfl, Nat.le_of_ble_eq_true rfl⟩ ?_
        refine vv_aload_n C dX5_fewestOf_19 rfl ?_
        refine vv_iload C dX5_fewestOf_20 rfl ?_
        refine vs_caliF C dX5_fewestOf_22 (c_X5_worth g S (nI k) (by rw [show (64 : Int32) + nI k = nI (64 + k) from nI_add 64 _]; exact xn_in (by omega) (by omega))) mb_X5_worth mv_X5_worth lk_X5_53 ce_23 rfl rfl rfl rfl ⟨Nat.le_of_ble_eq_true rfl, Nat.le_of_ble_eq_true rfl, Nat.le_of_ble_eq_true rfl⟩ ?_
        refine vs_eqi (v9 := nI (W k)) (by rw [show (64 : Int32) + nI k = nI (64 + k) from nI_add 64 _, xn_cl (by omega)]; exact hWS k (by omega)) ?_
        refine vv_imul C dX5_fewestOf_25 ?_
        refine vs_eqi (v9 := nI (cm sz W M k q * W k)) (xn_mul _ _) ?_
        refine vv_isub C dX5_fewestOf_26 ?_
        refine vs_eqi (v9 := nI (q - cm sz W M k q * W k)) (xn_sub hc.2.1) ?_
        refine vw_istore_n (lv9 := [_, _, _, _, _]) C dX5_fewestOf_27 (by decide) rfl rfl ?_
        refine vw_iinc (lv9 := [_, _, _, _, _]) C dX5_fewestOf_28 rfl ic_1 (by decide) rfl rfl ?_
        refine vv_goto (tgt := 5) C dX5_fewestOf_31 (by decide) ?_
        rw [nI_1]
        exact ih (k + 1) _ y9 (by omega) (by omega) hy he
  refine vv_iload_n C dX5_fewestOf_0 rfl ?_
  refine vw_istore_n (lv9 := [_, _, _, _, _]) C dX5_fewestOf_1 (by decide) rfl rfl ?_
  refine vv_iconst C dX5_fewestOf_2 ic_0 ?_
  refine vw_istore (lv9 := [_, _, _, _, _]) C dX5_fewestOf_3 (by decide) rfl rfl ?_
  exact loop i 0 n x0 (Nat.zero_add _) (Nat.le_refl _) hp rfl
set_option maxRecDepth 20000 in
theorem c_X5_fewestFor (g : vv_G) (S : vs_S) (hS : nx_ok S) (law : Nat) (hl : law ≤ 3) (hs : S.1 0 = nI law) (L : lg_L) (hL : lg_X S L) (hi : lg_in L) (sz : Nat) (hsz : sz ≤ 16) (hz9 : S.1 9 = nI sz) (n : Nat) (hn : n ≤ 2000) : vs_KI g yX5_fewestFor cX5_fewestFor 5 (some .int) 5 [vv_r g 23, .int (nI n)] S (fun r S1 => r = (if en 1000000 (cF sz (cnW L) (cnM (np_lx law) L) sz n) < 1000000 then nI (en 1000000 (cF sz (cnW L) (cnM (np_lx law) L) sz n)) else -2) ∧ pu_R sz (cnW L) (cnM (np_lx law) L) n 0 S1 ∧ fw_fr S S1) := by
  refine vs_ofI (lv := [_, _, _, _, _]) mb_X5_fewestFor (Nat.le_of_ble_eq_true rfl) rfl (fun x C F => ?_)
  have e19 : ∀ S2, fw_fr S S2 → S2.2.1 19 = L.1 := fun S2 fr => (fr.2.1 19 (by decide)).trans (lg_H hL).symm
  have outer : ∀ (k : Nat) (w3 w4 : Option Value) (S2 : vs_S), k ≤ sz → fw_fr S S2 → pu_R sz (cnW L) (cnM (np_lx law) L) n k S2 → vv_V g x 5 0 0 33 [some (vv_r g 23), some (.int (nI n)), some (.int (nI k - 1)), w3, w4] [] (vs_cells g S2) := by
    intro k
    induction k with
    | zero =>
      intro w3 w4 S2 hk fr hR
      have hbn := en_b (sz := sz) (d := sz) (u := n) (W := (cnW L)) (M := (cnM (np_lx law) L)) (cnM_le hi) hsz
      have h0 : S2.2.1 25 n = nI (en 1000000 (cF sz (cnW L) (cnM (np_lx law) L) sz n)) := hR.1 0 n (Nat.le_refl _) (by omega) (Nat.le_refl _)
      refine vv_iload_n C dX5_fewestFor_33 rfl ?_
      refine vv_if_lt (tgt := 114) C dX5_fewestFor_34 (by decide) (fun q34 => ?_) (fun q34 => ?_)
      · refine vv_aload_n C dX5_fewestFor_114 rfl ?_
        refine gf_X5_few C dX5_fewestFor_115 fg_X5_13 ?_
        refine vv_iconst C dX5_fewestFor_118 ic_0 ?_
        refine aa_few C dX5_fewestFor_119 (xn_in (n := 0) (by omega) (by omega)) ?_
        refine vs_eqr (v9 := 25 + 0) (rfl) ?_
        refine vv_iload_n C dX5_fewestFor_120 rfl ?_
        refine ld_few C dX5_fewestFor_121 (by omega) (xn_in (by omega) (by omega)) ?_
        refine vs_eqi (v9 := nI (en 1000000 (cF sz (cnW L) (cnM (np_lx law) L) sz n))) (by rw [xn_cl (by omega)]; exact h0) ?_
        refine vv_ldc C dX5_fewestFor_122 kc_X5_46 ?_
        refine vv_icmp_ge (tgt := 138) C dX5_fewestFor_124 (by decide) (fun q124 => ?_) (fun q124 => ?_)
        · have hz : ¬ en 1000000 (cF sz (cnW L) (cnM (np_lx law) L) sz n) < 1000000 := by rw [xn_lit, xn_le (by omega) (by omega)] at q124; omega
          refine vv_bipush C dX5_fewestFor_138 bp_m2 ?_
          first
          | exact vs_iret C F dX5_fewestFor_140 rfl ⟨by rw [if_pos hz], hR, fr⟩
          | exact vs_iret C F dX5_fewestFor_140 rfl ⟨by rw [if_neg hz], hR, fr⟩
        · have hz : en 1000000 (cF sz (cnW L) (cnM (np_lx law) L) sz n) < 1000000 := by rw [xn_lit, xn_le (by omega) (by omega)] at q124; omega
          refine vv_aload_n C dX5_fewestFor_127 rfl ?_
          refine gf_X5_few C dX5_fewestFor_128 fg_X5_13 ?_
          refine vv_iconst C dX5_fewestFor_131 ic_0 ?_
          refine aa_few C dX5_fewestFor_132 (xn_in (n := 0) (by omega) (by omega)) ?_
          refine vs_eqr (v9 := 25 + 0) (rfl) ?_
          refine vv_iload_n C dX5_fewestFor_133 rfl ?_
          refine ld_few C dX5_fewestFor_134 (by omega) (xn_in (by omega) (by omega)) ?_
          refine vs_eqi (v9 := nI (en 1000000 (cF sz (cnW L) (cnM (np_lx law) L) sz n))) (by rw [xn_cl (by omega)]; exact h0) ?_
          refine vv_goto (tgt := 140) C dX5_fewestFor_135 (by decide) ?_
          first
          | exact vs_iret C F dX5_fewestFor_140 rfl ⟨by rw [if_pos hz], hR, fr⟩
          | exact vs_iret C F dX5_fewestFor_140 rfl ⟨by rw [if_neg hz], hR, fr⟩
      · exact absurd (by decide +kernel) q34
    | succ i ih =>
      intro w3 w4 S2 hk fr hR
      rw [nI_pred]
      have e19 := e19 S2 fr
      have hWi := cnW_le hi (i := i) (by omega)
      have inner : ∀ (f m : Nat) (S2 : vs_S), m + f = n + 1 → fw_fr S S2 → pu_R sz (cnW L) (cnM (np_lx law) L) n (i + 1) S2 → S2.2.1 42 i = nI ((cnM (np_lx law) L) i) → (∀ u, u < m → S2.2.1 (25 + i) u = nI (en 1000000 (cF sz (cnW L) (cnM (np_lx law) L) (sz - i) u))) → vv_V g x 5 0 0 79 [some (vv_r g 23), some (.int (nI n)), some (.int (nI i)), some (.int (nI (cnW L i))), some (.int (nI m))] [] (vs_cells g S2) := by
        intro f
        induction f with
        | zero =>
          intro m S2 h1 fr hR hu hrow
          have hm : m = n + 1 := by omega
          subst hm
          refine vv_iload C dX5_fewestFor_79 rfl ?_
          refine vv_iload_n C dX5_fewestFor_81 rfl ?_
          refine vv_icmp_gt (tgt := 108) C dX5_fewestFor_82 (by decide) (fun q82 => ?_) (fun q82 => ?_)
          · refine vw_iinc (lv9 := [_, _, _, _, _]) C dX5_fewestFor_108 rfl ic_m1 (by decide) rfl rfl ?_
            refine vv_goto (tgt := 33) C dX5_fewestFor_111 (by decide) ?_
            show vv_V g x 5 0 0 33 [_, _, some (.int (nI i + -1)), _, _] _ _
            rw [xm1]
            refine ih _ _ S2 (by omega) fr ⟨fun j u hj hj2 hu2 => ?_, fun j hj hj2 => ?_⟩
            · by_cases e : j = i
              · subst e; exact hrow u (by omega)
              · exact hR.1 j u (by omega) hj2 hu2
            · by_cases e : j = i
              · subst e; exact hu
              · exact hR.2 j (by omega) hj2
          · exact absurd ((xn_lt (by omega) (by omega)).mpr (Nat.lt_succ_self _)) q82
        | succ f ih2 =>
          intro m S2 h1 fr hR hu hrow
          refine vv_iload C dX5_fewestFor_79 rfl ?_
          refine vv_iload_n C dX5_fewestFor_81 rfl ?_
          refine vv_icmp_gt (tgt := 108) C dX5_fewestFor_82 (by decide) (fun q82 => ?_) (fun q82 => ?_)
          · exact absurd q82 (by rw [xn_lt (by omega) (by omega)]; omega)
          · refine vv_aload_n C dX5_fewestFor_85 rfl ?_
            refine gf_X5_few C dX5_fewestFor_86 fg_X5_13 ?_
            refine vv_iload_n C dX5_fewestFor_89 rfl ?_
            refine aa_few C dX5_fewestFor_90 (xn_in (by omega) (by omega)) ?_
            refine vs_eqr (v9 := 25 + i) (by rw [xn_cl (by omega)]) ?_
            refine vv_iload C dX5_fewestFor_91 rfl ?_
            refine vv_aload_n C dX5_fewestFor_93 rfl ?_
            refine vv_iload_n C dX5_fewestFor_94 rfl ?_
            refine vv_iload C dX5_fewestFor_95 rfl ?_
            refine vv_iload_n C dX5_fewestFor_97 rfl ?_
            refine vs_caliF C dX5_fewestFor_98 (c_X5_fewestFrom g S2 sz hsz (cnW L) (cnM (np_lx law) L) (cnM_le hi) (fun i h => cnW_le hi h) n hn i (by omega) hR hu m (by omega)) mb_X5_fewestFrom mv_X5_fewestFrom lk_X5_62 ce_23 rfl rfl rfl rfl ⟨Nat.le_of_ble_eq_true rfl, Nat.le_of_ble_eq_true rfl, Nat.le_of_ble_eq_true rfl⟩ ?_
            refine st_few C dX5_fewestFor_101 (by omega) (xn_in (by omega) (by omega)) ?_
            refine vw_iinc (lv9 := [_, _, _, _, _]) C dX5_fewestFor_102 rfl ic_1 (by decide) rfl rfl ?_
            refine vv_goto (tgt := 79) C dX5_fewestFor_105 (by decide) ?_
            rw [nI_1]
            refine ih2 (m + 1) _ (by omega) (fr.row (by omega) _) ⟨fun j u hj hj2 hu2 => ?_, fun j hj hj2 => by rw [vs_ua2, if_neg (by omega)]; exact hR.2 j hj hj2⟩ (by rw [vs_ua2, if_neg (by omega)]; exact hu) (fun u hu2 => ?_)
            · rw [vs_ua2, if_neg (by omega)]
              exact hR.1 j u hj hj2 hu2
            · rw [vs_ua2, if_pos rfl, xn_cl (by omega), xn_upd (α := Nat)]
              split
              · next z => rw [z]
              · exact hrow u (by omega)
      refine vv_iload_n C dX5_fewestFor_33 rfl ?_
      refine vv_if_lt (tgt := 114) C dX5_fewestFor_34 (by decide) (fun q34 => ?_) (fun q34 => ?_)
      · exact absurd q34 (xn_neg (by omega))
      · refine vv_aload_n C dX5_fewestFor_37 rfl ?_
        refine vv_iload_n C dX5_fewestFor_38 rfl ?_
        refine vs_caliF C dX5_fewestFor_39 (c_X5_worth g S2 (nI i) (by rw [show (64 : Int32) + nI i = nI (64 + i) from nI_add 64 _]; exact xn_in (by omega) (by omega))) mb_X5_worth mv_X5_worth lk_X5_53 ce_23 rfl rfl rfl rfl ⟨Nat.le_of_ble_eq_true rfl, Nat.le_of_ble_eq_true rfl, Nat.le_of_ble_eq_true rfl⟩ ?_
        refine vs_eqi (v9 := nI (cnW L i)) (by rw [show (64 : Int32) + nI i = nI (64 + i) from nI_add 64 _, xn_cl (by omega), e19]; exact (lg_inD hi (p := 64 + i) (by omega)).1) ?_
        refine vw_istore_n (lv9 := [_, _, _, _, _]) C dX5_fewestFor_42 (by decide) rfl rfl ?_
        refine vv_aload_n C dX5_fewestFor_43 rfl ?_
        refine gf_X5_usable C dX5_fewestFor_44 fg_X5_16 ?_
        refine vv_iload_n C dX5_fewestFor_47 rfl ?_
        refine vv_aload_n C dX5_fewestFor_48 rfl ?_
        refine gf_X5_laws C dX5_fewestFor_49 fg_X5_20 ?_
        refine vv_iload_n C dX5_fewestFor_52 rfl ?_
        refine vv_i2l C dX5_fewestFor_53 ?_
        refine vs_eql (v9 := lN (cnW L i)) (xn_i2l (by omega)) ?_
        refine vs_caliF C dX5_fewestFor_54 (c_X1_isLawful g S2 (nx_fr hS fr (by decide)) law hl ((fr.1 0 (by decide)).trans hs) (cnW L i) (by omega)) mb_X1_isLawful mv_X1_isLawful lk_X5_56 ce_4 rfl rfl rfl rfl ⟨Nat.le_of_ble_eq_true rfl, Nat.le_of_ble_eq_true rfl, Nat.le_of_ble_eq_true rfl⟩ ?_
        refine vv_if_eq (tgt := 74) C dX5_fewestFor_57 (by decide) (fun q57 => ?_) (fun q57 => ?_)
        · have hp : np_lx law (cnW L i) = false := vs_b0.mp q57
          refine vv_iconst C dX5_fewestFor_74 ic_0 ?_
          refine vs_eqi (v9 := nI ((cnM (np_lx law) L) i)) (by first | (rw [xn_cl (by omega), e19]; unfold cnM; rw [if_pos (by omega), if_pos (show np_lx law (lgD L (64 + i)) = true from hp)]; exact (lg_inD hi (p := 80 + i) (by omega)).1) | (unfold cnM; rw [if_pos (by omega), if_neg (by rw [show lgD L (64 + i) = cnW L i from rfl, hp]; decide)]; rfl)) ?_
          refine st_42 C dX5_fewestFor_75 (xn_in (by omega) (by omega)) ?_
          refine vv_iconst C dX5_fewestFor_76 ic_0 ?_
          refine vw_istore (lv9 := [_, _, _, _, _]) C dX5_fewestFor_77 (by decide) rfl rfl ?_
          refine inner (n + 1) 0 _ (by omega) (fr.row (k := 17) (by omega) _) ⟨fun j u hj hj2 hu2 => ?_, fun j hj hj2 => ?_⟩ ?_ (fun u hu => by omega)
          · rw [vs_ua2, if_neg (by omega)]
            exact hR.1 j u hj hj2 hu2
          · rw [vs_ua2, if_pos rfl, xn_cl (by omega), upd_ne (by omega)]
            exact hR.2 j hj hj2
          · rw [vs_ua2, if_pos rfl, xn_cl (by omega), upd_eq]
        · have hp : np_lx law (cnW L i) = true := vs_b1.mp q57
          refine vv_aload_n C dX5_fewestFor_60 rfl ?_
          refine gf_X5_ledger C dX5_fewestFor_61 fg_X5_24 ?_
          refine vv_bipush C dX5_fewestFor_64 bp_80 ?_
          refine vv_iload_n C dX5_fewestFor_66 rfl ?_
          refine vv_iadd C dX5_fewestFor_67 ?_
          refine vs_eqi (v9 := nI (80 + i)) (nI_add 80 _) ?_
          refine vs_caliF C dX5_fewestFor_68 (c_X2_at g S2 (nI (80 + i)) (xn_in (by omega) (by omega))) mb_X2_at mv_X2_at lk_X5_42 ce_18 rfl rfl rfl rfl ⟨Nat.le_of_ble_eq_true rfl, Nat.le_of_ble_eq_true rfl, Nat.le_of_ble_eq_true rfl⟩ ?_
          refine vv_goto (tgt := 75) C dX5_fewestFor_71 (by decide) ?_
          refine vs_eqi (v9 := nI ((cnM (np_lx law) L) i)) (by first | (rw [xn_cl (by omega), e19]; unfold cnM; rw [if_pos (by omega), if_pos (show np_lx law (lgD L (64 + i)) = true from hp)]; exact (lg_inD hi (p := 80 + i) (by omega)).1) | (unfold cnM; rw [if_pos (by omega), if_neg (by rw [show lgD L (64 + i) = cnW L i from rfl, hp]; decide)]; rfl)) ?_
          refine st_42 C dX5_fewestFor_75 (xn_in (by omega) (by omega)) ?_
          refine vv_iconst C dX5_fewestFor_76 ic_0 ?_
          refine vw_istore (lv9 := [_, _, _, _, _]) C dX5_fewestFor_77 (by decide) rfl rfl ?_
          refine inner (n + 1) 0 _ (by omega) (fr.row (k := 17) (by omega) _) ⟨fun j u hj hj2 hu2 => ?_, fun j hj hj2 => ?_⟩ ?_ (fun u hu => by omega)
          · rw [vs_ua2, if_neg (by omega)]
            exact hR.1 j u hj hj2 hu2
          · rw [vs_ua2, if_pos rfl, xn_cl (by omega), upd_ne (by omega)]
            exact hR.2 j hj hj2
          · rw [vs_ua2, if_pos rfl, xn_cl (by omega), upd_eq]
  refine vv_aload_n C dX5_fewestFor_0 rfl ?_
  refine gf_X5_few C dX5_fewestFor_1 fg_X5_13 ?_
  refine vv_aload_n C dX5_fewestFor_4 rfl ?_
  refine gf_X5_size C dX5_fewestFor_5 fg_X5_32 ?_
  refine vs_eqi (v9 := nI sz) (hz9) ?_
  refine aa_few C dX5_fewestFor_8 (xn_in (by omega) (by omega)) ?_
  refine vs_eqr (v9 := 25 + sz) (by rw [xn_cl (by omega)]) ?_
  refine vv_ldc C dX5_fewestFor_9 kc_X5_46 ?_
  refine vs_callsv C dX5_fewestFor_11 (c_fill_few g S sz (by omega) 1000000) mb_J7_fill_53178 ms_J7_fill_53178 lk_X5_47 rfl rfl ⟨Nat.le_of_ble_eq_true rfl, Nat.le_of_ble_eq_true rfl, Nat.le_of_ble_eq_true rfl⟩ (fun S11 p11 => ?_)
  obtain ⟨f1, e11, h11⟩ := p11
  subst e11
  refine vv_aload_n C dX5_fewestFor_14 rfl ?_
  refine gf_X5_few C dX5_fewestFor_15 fg_X5_13 ?_
  refine vv_aload_n C dX5_fewestFor_18 rfl ?_
  refine gf_X5_size C dX5_fewestFor_19 fg_X5_32 ?_
  refine vs_eqi (v9 := nI sz) (hz9) ?_
  refine aa_few C dX5_fewestFor_22 (xn_in (by omega) (by omega)) ?_
  refine vs_eqr (v9 := 25 + sz) (by rw [xn_cl (by omega)]) ?_
  refine vv_iconst C dX5_fewestFor_23 ic_0 ?_
  refine vv_iconst C dX5_fewestFor_24 ic_0 ?_
  refine st_few C dX5_fewestFor_25 (by omega) (xn_in (n := 0) (by omega) (by omega)) ?_
  refine vv_aload_n C dX5_fewestFor_26 rfl ?_
  refine gf_X5_size C dX5_fewestFor_27 fg_X5_32 ?_
  refine vs_eqi (v9 := nI sz) (hz9) ?_
  refine vv_iconst C dX5_fewestFor_30 ic_1 ?_
  refine vv_isub C dX5_fewestFor_31 ?_
  refine vw_istore_n (lv9 := [_, _, _, _, _]) C dX5_fewestFor_32 (by decide) rfl rfl ?_
  refine outer sz none none _ (Nat.le_refl _) ((fw_fr.row vs_fr.rf (by omega) f1).row (by omega) _) ⟨fun j u hj hj2 hu2 => ?_, fun j hj hj2 => by omega⟩
  have e : j = sz := by omega
  subst e
  rw [vs_ua2, if_pos rfl, xn_upd (α := Nat), Nat.sub_self]
  show _ = nI (en 1000000 (if u = 0 then some 0 else none))
  by_cases y : u = 0
  · subst y
    rw [if_pos (show 0 = Int32.toNatClampNeg 0 from rfl), if_pos rfl]
    rfl
  · rw [if_neg y, if_neg (show ¬ u = Int32.toNatClampNeg 0 from y), vs_ua2, if_pos rfl]
    exact h11 u (by omega)
theorem cn_none {sz n : Nat} {W M : Nat → Nat} (hM : ∀ i, M i ≤ 9) (hsz : sz ≤ 16) (h : (if en 1000000 (cF sz W M sz n) < 1000000 then nI (en 1000000 (cF sz W M sz n)) else -2) = -2) : cF sz W M sz n = none := by
  cases e : cF sz W M sz n with
  | none => rfl
  | some y =>
    have h1 := cF_le hM sz n y e
    rw [e, if_pos (show en 1000000 (some y) < 1000000 from by show y < 1000000; omega)] at h
    have h2 := congrArg Int32.toInt h
    rw [show en 1000000 (some y) = y from rfl, xn_toInt (by omega)] at h2
    have e2 : (-2 : Int32).toInt = -2 := rfl
    omega
theorem cn_some {sz n : Nat} {W M : Nat → Nat} (_hM : ∀ i, M i ≤ 9) (_hsz : sz ≤ 16) (h : ¬ (if en 1000000 (cF sz W M sz n) < 1000000 then nI (en 1000000 (cF sz W M sz n)) else -2) = -2) : ∃ y, cF sz W M sz n = some y := by
  cases e : cF sz W M sz n with
  | none =>
    rw [e] at h
    exact absurd rfl h
  | some y => exact ⟨y, rfl⟩
theorem cn_val {sz n x : Nat} {W M : Nat → Nat} (hM : ∀ i, M i ≤ 9) (hsz : sz ≤ 16) (e : cF sz W M sz n = some x) : (if en 1000000 (cF sz W M sz n) < 1000000 then nI (en 1000000 (cF sz W M sz n)) else -2) = nI x := by
  have h1 := cF_le hM sz n x e
  rw [e, if_pos (show en 1000000 (some x) < 1000000 from by show x < 1000000; omega)]
  rfl
theorem cn_i {sz : Nat} {i : Int32} (hsz : sz ≤ 16) (h : vs_w i (-1) (nI sz - 1) = true) (h1 : ¬ i = -1) : ∃ k, k < sz ∧ i = nI k := by
  obtain ⟨h2, h3⟩ := vs_wT h
  obtain ⟨k, hk, e⟩ := xn_m1 h2 h1
  subst e
  refine ⟨k, ?_, rfl⟩
  cases sz with
  | zero => exact absurd (Int32.le_trans (nI_pos' hk) h3) (by decide)
  | succ m =>
    rw [nI_pred, xn_le hk (by omega)] at h3
    omega
set_option maxRecDepth 20000 in
theorem c_X11_coins (g : vv_G) (S : vs_S) (hS : nx_ok S) (law : Nat) (hl : law ≤ 3) (hs : S.1 0 = nI law) (L : lg_L) (hL : lg_X S L) (hi : lg_in L) (sz : Nat) (hsz : sz ≤ 16) (hz9 : S.1 9 = nI sz) (n i : Int32) : vs_KI g yX11_coins cX11_coins 4 (some .int) 6 [vv_r g 0, .int n, .int i] S (fun r S1 => r = (if (vs_w n 0 2000 && vs_w i (-1) (nI sz - 1)) = true then cnv sz (cnW L) (cnM (np_lx law) L) n.toNatClampNeg i else -1) ∧ fw_fr S S1) := by
  refine vs_ofI (lv := [_, _, _, _]) mb_X11_coins (Nat.le_of_ble_eq_true rfl) rfl (fun x C F => ?_)
  refine vv_iload_n C dX11_coins_0 rfl ?_
  refine vv_iconst C dX11_coins_1 ic_0 ?_
  refine vv_sipush C dX11_coins_2 sp_2000 ?_
  refine vs_calsiF C dX11_coins_5 (c_X11_within g S _ _ _) mb_X11_within ms_X11_within lk_X11_94 rfl rfl ⟨Nat.le_of_ble_eq_true rfl, Nat.le_of_ble_eq_true rfl, Nat.le_of_ble_eq_true rfl⟩ ?_
  refine vv_if_eq (tgt := 28) C dX11_coins_8 (by decide) (fun q8 => ?_) (fun q8 => ?_)
  · have hw : ¬ (vs_w n 0 2000 && vs_w i (-1) (nI sz - 1)) = true := by rw [show vs_w n 0 2000 = false from vs_b0.mp q8, Bool.false_and]; decide
    refine vv_iconst C dX11_coins_28 ic_m1 ?_
    exact vs_iret C F dX11_coins_29 rfl ⟨by rw [if_neg hw], vs_fr.rf⟩
  · have w1 : vs_w n 0 2000 = true := vs_b1.mp q8
    obtain ⟨n1, _, hn2, en1⟩ := vs_wN (a := 0) (b := 2000) (by omega) (by omega) w1
    subst en1
    refine vv_iload_n C dX11_coins_11 rfl ?_
    refine vv_iconst C dX11_coins_12 ic_m1 ?_
    refine vv_aload_n C dX11_coins_13 rfl ?_
    refine gf_X11_purse C dX11_coins_14 fg_X11_53 ?_
    refine vs_caliF C dX11_coins_17 (c_X5_size g S) mb_X5_size mv_X5_size lk_X11_165 ce_23 rfl rfl rfl rfl ⟨Nat.le_of_ble_eq_true rfl, Nat.le_of_ble_eq_true rfl, Nat.le_of_ble_eq_true rfl⟩ ?_
    refine vs_eqi (v9 := nI sz) (hz9) ?_
    refine vv_iconst C dX11_coins_20 ic_1 ?_
    refine vv_isub C dX11_coins_21 ?_
    refine vs_calsiF C dX11_coins_22 (c_X11_within g S _ _ _) mb_X11_within ms_X11_within lk_X11_94 rfl rfl ⟨Nat.le_of_ble_eq_true rfl, Nat.le_of_ble_eq_true rfl, Nat.le_of_ble_eq_true rfl⟩ ?_
    refine vv_if_ne (tgt := 30) C dX11_coins_25 (by decide) (fun q25 => ?_) (fun q25 => ?_)
    · have w2 : vs_w i (-1) (nI sz - 1) = true := vs_b1.mp q25
      have hw : (vs_w (nI n1) 0 2000 && vs_w i (-1) (nI sz - 1)) = true := by rw [w1, w2]; rfl
      refine vv_aload_n C dX11_coins_30 rfl ?_
      refine gf_X11_purse C dX11_coins_31 fg_X11_53 ?_
      refine vv_iload_n C dX11_coins_34 rfl ?_
      refine vs_calli C dX11_coins_35 (c_X5_fewestFor g S hS law hl hs L hL hi sz hsz hz9 n1 hn2) mb_X5_fewestFor mv_X5_fewestFor lk_X11_171 ce_23 rfl rfl rfl rfl ⟨Nat.le_of_ble_eq_true rfl, Nat.le_of_ble_eq_true rfl, Nat.le_of_ble_eq_true rfl⟩ (fun r35 S35 p35 => ?_)
      obtain ⟨er, hR, fr⟩ := p35
      subst er
      refine vw_istore_n (lv9 := [_, _, _, _]) C dX11_coins_38 (by decide) rfl rfl ?_
      refine vv_iload_n C dX11_coins_39 rfl ?_
      refine vv_bipush C dX11_coins_40 bp_m2 ?_
      refine vv_icmp_eq (tgt := 50) C dX11_coins_42 (by decide) (fun q42 => ?_) (fun q42 => ?_)
      · have ex : cF sz (cnW L) (cnM (np_lx law) L) sz n1 = none := cn_none (cnM_le hi) hsz q42
        refine vv_iload_n C dX11_coins_50 rfl ?_
        refine vv_goto (tgt := 63) C dX11_coins_51 (by decide) ?_
        first
        | exact vs_iret C F dX11_coins_63 rfl ⟨by rw [if_pos hw, xn_cl (by omega)]; rw [q42]; unfold cnv; rw [ex], fr⟩
        | exact vs_iret C F dX11_coins_63 rfl ⟨by rw [if_pos hw, xn_cl (by omega)]; rw [e9]; unfold cnv; rw [ex]; exact (if_pos q47).symm, fr⟩
        | exact vs_iret C F dX11_coins_63 rfl ⟨by rw [if_pos hw, xn_cl (by omega)]; unfold cnv; rw [ex]; show _ = (if nI k1 = -1 then _ else _); rw [if_neg q47, xn_cl (by omega)], fr⟩
      · obtain ⟨x9, ex⟩ := cn_some (cnM_le hi) hsz q42
        have e9 := cn_val (cnM_le hi) hsz ex
        refine vv_iload_n C dX11_coins_45 rfl ?_
        refine vv_iconst C dX11_coins_46 ic_m1 ?_
        refine vv_icmp_ne (tgt := 54) C dX11_coins_47 (by decide) (fun q47 => ?_) (fun q47 => ?_)
        · obtain ⟨k1, hk1, ek1⟩ := cn_i hsz w2 q47
          subst ek1
          refine vv_aload_n C dX11_coins_54 rfl ?_
          refine gf_X11_purse C dX11_coins_55 fg_X11_53 ?_
          refine vv_iload_n C dX11_coins_58 rfl ?_
          refine vv_iload_n C dX11_coins_59 rfl ?_
          refine vs_caliF C dX11_coins_60 (c_X5_fewestOf g S35 sz hsz (cnW L) (cnM (np_lx law) L) (cnM_le hi) (fun i h => cnW_le hi h) n1 hn2 hR (fun i h => by rw [fr.2.1 19 (by decide), ← lg_H hL]; exact (lg_inD hi (p := 64 + i) (by omega)).1) k1 hk1 x9 ex) mb_X5_fewestOf mv_X5_fewestOf lk_X11_172 ce_23 rfl rfl rfl rfl ⟨Nat.le_of_ble_eq_true rfl, Nat.le_of_ble_eq_true rfl, Nat.le_of_ble_eq_true rfl⟩ ?_
          first
          | exact vs_iret C F dX11_coins_63 rfl ⟨by rw [if_pos hw, xn_cl (by omega)]; rw [q42]; unfold cnv; rw [ex], fr⟩
          | exact vs_iret C F dX11_coins_63 rfl ⟨by rw [if_pos hw, xn_cl (by omega)]; rw [e9]; unfold cnv; rw [ex]; exact (if_pos q47).symm, fr⟩
          | exact vs_iret C F dX11_coins_63 rfl ⟨by rw [if_pos hw, xn_cl (by omega)]; unfold cnv; rw [ex]; show _ = (if nI k1 = -1 then _ else _); rw [if_neg q47, xn_cl (by omega)], fr⟩
        · refine vv_iload_n C dX11_coins_50 rfl ?_
          refine vv_goto (tgt := 63) C dX11_coins_51 (by decide) ?_
          first
          | exact vs_iret C F dX11_coins_63 rfl ⟨by rw [if_pos hw, xn_cl (by omega)]; rw [q42]; unfold cnv; rw [ex], fr⟩
          | exact vs_iret C F dX11_coins_63 rfl ⟨by rw [if_pos hw, xn_cl (by omega)]; rw [e9]; unfold cnv; rw [ex]; exact (if_pos q47).symm, fr⟩
          | exact vs_iret C F dX11_coins_63 rfl ⟨by rw [if_pos hw, xn_cl (by omega)]; unfold cnv; rw [ex]; show _ = (if nI k1 = -1 then _ else _); rw [if_neg q47, xn_cl (by omega)], fr⟩
    · have hw : ¬ (vs_w (nI n1) 0 2000 && vs_w i (-1) (nI sz - 1)) = true := by rw [show vs_w i (-1) (nI sz - 1) = false from vs_b0.mp q25, Bool.and_false]; decide
      refine vv_iconst C dX11_coins_28 ic_m1 ?_
      exact vs_iret C F dX11_coins_29 rfl ⟨by rw [if_neg hw], vs_fr.rf⟩
