theorem lt_of32 {a b : Int32} : ¬ a < b ↔ b ≤ a := Int32.not_lt
theorem lt_of64 {a b : Int64} : ¬ a < b ↔ b ≤ a := Int64.not_lt
set_option maxRecDepth 20000 in
theorem c_X11_within (g : vv_G) (S : vs_S) (n lo hi : Int32) : vs_FI g yX11_within cX11_within 3 (some .boolean) 1 [.int n, .int lo, .int hi] S (vs_b (decide (lo ≤ n) && decide (n ≤ hi))) S := by
  refine vs_ofI (lv := [_, _, _]) mb_X11_within (Nat.le_of_ble_eq_true rfl) rfl (fun x C F => ?_)
  refine vv_iload_n C dX11_within_0 rfl ?_
  refine vv_iload_n C dX11_within_1 rfl ?_
  refine vv_icmp_lt (tgt := 14) C dX11_within_2 (by decide) (fun q2 => ?_) (fun q2 => ?_)
  · refine vv_iconst C dX11_within_14 ic_0 ?_
    exact vs_zret C F dX11_within_15 rfl rfl ⟨by simp [vs_b, ← Int32.not_lt, *], rfl⟩
  · refine vv_iload_n C dX11_within_5 rfl ?_
    refine vv_iload_n C dX11_within_6 rfl ?_
    refine vv_icmp_gt (tgt := 14) C dX11_within_7 (by decide) (fun q7 => ?_) (fun q7 => ?_)
    · refine vv_iconst C dX11_within_14 ic_0 ?_
      exact vs_zret C F dX11_within_15 rfl rfl ⟨by simp [vs_b, ← Int32.not_lt, *], rfl⟩
    · refine vv_iconst C dX11_within_10 ic_1 ?_
      refine vv_goto (tgt := 15) C dX11_within_11 (by decide) ?_
      exact vs_zret C F dX11_within_15 rfl rfl ⟨by simp [vs_b, ← Int32.not_lt, *], rfl⟩
set_option maxRecDepth 20000 in
theorem c_X5_isWorth (g : vv_G) (S : vs_S) (n : Int32) : vs_FI g yX5_isWorth cX5_isWorth 1 (some .boolean) 2 [.int n] S (vs_b (decide (1 ≤ n) && decide (n ≤ 999))) S := by
  refine vs_ofI (lv := [_]) mb_X5_isWorth (Nat.le_of_ble_eq_true rfl) rfl (fun x C F => ?_)
  refine vv_iload_n C dX5_isWorth_0 rfl ?_
  refine vv_iconst C dX5_isWorth_1 ic_1 ?_
  refine vv_sipush C dX5_isWorth_2 sp_999 ?_
  refine vs_calNiF (host := "LawfulSums") C dX5_isWorth_5 (c_X11_within g S _ _ _) mb_X11_within ms_X11_within (by decide) rfl rfl ⟨Nat.le_of_ble_eq_true rfl, Nat.le_of_ble_eq_true rfl, Nat.le_of_ble_eq_true rfl⟩ ?_
  exact vs_zret C F dX5_isWorth_8 rfl vs_bz ⟨rfl, rfl⟩
set_option maxRecDepth 20000 in
theorem c_X5_isNumber (g : vv_G) (S : vs_S) (n : Int32) : vs_FI g yX5_isNumber cX5_isNumber 1 (some .boolean) 2 [.int n] S (vs_b (decide (0 ≤ n) && decide (n ≤ 9))) S := by
  refine vs_ofI (lv := [_]) mb_X5_isNumber (Nat.le_of_ble_eq_true rfl) rfl (fun x C F => ?_)
  refine vv_iload_n C dX5_isNumber_0 rfl ?_
  refine vv_iconst C dX5_isNumber_1 ic_0 ?_
  refine vv_bipush C dX5_isNumber_2 bp_9 ?_
  refine vs_calNiF (host := "LawfulSums") C dX5_isNumber_4 (c_X11_within g S _ _ _) mb_X11_within ms_X11_within (by decide) rfl rfl ⟨Nat.le_of_ble_eq_true rfl, Nat.le_of_ble_eq_true rfl, Nat.le_of_ble_eq_true rfl⟩ ?_
  exact vs_zret C F dX5_isNumber_7 rfl vs_bz ⟨rfl, rfl⟩
set_option maxRecDepth 20000 in
theorem c_X8_isShelf (g : vv_G) (S : vs_S) (n : Int32) : vs_FI g yX8_isShelf cX8_isShelf 1 (some .boolean) 2 [.int n] S (vs_b (decide (0 ≤ n) && decide (n ≤ 5))) S := by
  refine vs_ofI (lv := [_]) mb_X8_isShelf (Nat.le_of_ble_eq_true rfl) rfl (fun x C F => ?_)
  refine vv_iload_n C dX8_isShelf_0 rfl ?_
  refine vv_iconst C dX8_isShelf_1 ic_0 ?_
  refine vv_iconst C dX8_isShelf_2 ic_5 ?_
  refine vs_calNiF (host := "LawfulSums") C dX8_isShelf_3 (c_X11_within g S _ _ _) mb_X11_within ms_X11_within (by decide) rfl rfl ⟨Nat.le_of_ble_eq_true rfl, Nat.le_of_ble_eq_true rfl, Nat.le_of_ble_eq_true rfl⟩ ?_
  exact vs_zret C F dX8_isShelf_6 rfl vs_bz ⟨rfl, rfl⟩
set_option maxRecDepth 20000 in
theorem c_X11_isBookSum (g : vv_G) (S : vs_S) (a b : Int32) : vs_FI g yX11_isBookSum cX11_isBookSum 2 (some .boolean) 2 [.int a, .int b] S (vs_b ((decide (0 ≤ a) && decide (a ≤ 999999)) && (decide (0 ≤ b) && decide (b ≤ 999999)))) S := by
  refine vs_ofI (lv := [_, _]) mb_X11_isBookSum (Nat.le_of_ble_eq_true rfl) rfl (fun x C F => ?_)
  refine vv_iload_n C dX11_isBookSum_0 rfl ?_
  refine vv_iconst C dX11_isBookSum_1 ic_0 ?_
  refine vv_ldc C dX11_isBookSum_2 kc_X11_128 ?_
  refine vs_calsiF C dX11_isBookSum_4 (c_X11_within g S _ _ _) mb_X11_within ms_X11_within lk_X11_94 rfl rfl ⟨Nat.le_of_ble_eq_true rfl, Nat.le_of_ble_eq_true rfl, Nat.le_of_ble_eq_true rfl⟩ ?_
  refine vv_if_eq (tgt := 24) C dX11_isBookSum_7 (by decide) (fun q7 => ?_) (fun q7 => ?_)
  · refine vv_iconst C dX11_isBookSum_24 ic_0 ?_
    exact vs_zret C F dX11_isBookSum_25 rfl rfl ⟨by simp only [vs_b0, vs_b1] at *; simp [vs_b, *], rfl⟩
  · refine vv_iload_n C dX11_isBookSum_10 rfl ?_
    refine vv_iconst C dX11_isBookSum_11 ic_0 ?_
    refine vv_ldc C dX11_isBookSum_12 kc_X11_128 ?_
    refine vs_calsiF C dX11_isBookSum_14 (c_X11_within g S _ _ _) mb_X11_within ms_X11_within lk_X11_94 rfl rfl ⟨Nat.le_of_ble_eq_true rfl, Nat.le_of_ble_eq_true rfl, Nat.le_of_ble_eq_true rfl⟩ ?_
    refine vv_if_eq (tgt := 24) C dX11_isBookSum_17 (by decide) (fun q17 => ?_) (fun q17 => ?_)
    · refine vv_iconst C dX11_isBookSum_24 ic_0 ?_
      exact vs_zret C F dX11_isBookSum_25 rfl rfl ⟨by simp only [vs_b0, vs_b1] at *; simp [vs_b, *], rfl⟩
    · refine vv_iconst C dX11_isBookSum_20 ic_1 ?_
      refine vv_goto (tgt := 25) C dX11_isBookSum_21 (by decide) ?_
      exact vs_zret C F dX11_isBookSum_25 rfl rfl ⟨by simp only [vs_b0, vs_b1] at *; simp [vs_b, *], rfl⟩
set_option maxRecDepth 20000 in
theorem c_X11_isWalk (g : vv_G) (S : vs_S) (a b : Int32) : vs_FI g yX11_isWalk cX11_isWalk 2 (some .boolean) 2 [.int a, .int b] S (vs_b ((decide (0 ≤ a) && decide (a ≤ 100000)) && (decide (a ≤ b) && decide (b ≤ 100000)))) S := by
  refine vs_ofI (lv := [_, _]) mb_X11_isWalk (Nat.le_of_ble_eq_true rfl) rfl (fun x C F => ?_)
  refine vv_iload_n C dX11_isWalk_0 rfl ?_
  refine vv_iconst C dX11_isWalk_1 ic_0 ?_
  refine vv_ldc C dX11_isWalk_2 kc_X11_175 ?_
  refine vs_calsiF C dX11_isWalk_4 (c_X11_within g S _ _ _) mb_X11_within ms_X11_within lk_X11_94 rfl rfl ⟨Nat.le_of_ble_eq_true rfl, Nat.le_of_ble_eq_true rfl, Nat.le_of_ble_eq_true rfl⟩ ?_
  refine vv_if_eq (tgt := 24) C dX11_isWalk_7 (by decide) (fun q7 => ?_) (fun q7 => ?_)
  · refine vv_iconst C dX11_isWalk_24 ic_0 ?_
    exact vs_zret C F dX11_isWalk_25 rfl rfl ⟨by simp only [vs_b0, vs_b1] at *; simp [vs_b, *], rfl⟩
  · refine vv_iload_n C dX11_isWalk_10 rfl ?_
    refine vv_iload_n C dX11_isWalk_11 rfl ?_
    refine vv_ldc C dX11_isWalk_12 kc_X11_175 ?_
    refine vs_calsiF C dX11_isWalk_14 (c_X11_within g S _ _ _) mb_X11_within ms_X11_within lk_X11_94 rfl rfl ⟨Nat.le_of_ble_eq_true rfl, Nat.le_of_ble_eq_true rfl, Nat.le_of_ble_eq_true rfl⟩ ?_
    refine vv_if_eq (tgt := 24) C dX11_isWalk_17 (by decide) (fun q17 => ?_) (fun q17 => ?_)
    · refine vv_iconst C dX11_isWalk_24 ic_0 ?_
      exact vs_zret C F dX11_isWalk_25 rfl rfl ⟨by simp only [vs_b0, vs_b1] at *; simp [vs_b, *], rfl⟩
    · refine vv_iconst C dX11_isWalk_20 ic_1 ?_
      refine vv_goto (tgt := 25) C dX11_isWalk_21 (by decide) ?_
      exact vs_zret C F dX11_isWalk_25 rfl rfl ⟨by simp only [vs_b0, vs_b1] at *; simp [vs_b, *], rfl⟩
set_option maxRecDepth 20000 in
theorem c_X11_bookSum (g : vv_G) (S : vs_S) (a b : Int32) : vs_FL g yX11_bookSum cX11_bookSum 2 (some .long) 1 [.int a, .int b] S (a.toInt64 * 1000000 + b.toInt64) S := by
  refine vs_ofL (lv := [_, _]) mb_X11_bookSum (Nat.le_of_ble_eq_true rfl) rfl (fun x C F => ?_)
  refine vv_iload_n C dX11_bookSum_0 rfl ?_
  refine vv_i2l C dX11_bookSum_1 ?_
  refine vv_ldc2 C dX11_bookSum_2 kc_X11_129 ?_
  refine vv_lmul C dX11_bookSum_5 ?_
  refine vv_iload_n C dX11_bookSum_6 rfl ?_
  refine vv_i2l C dX11_bookSum_7 ?_
  refine vv_ladd C dX11_bookSum_8 ?_
  exact vs_lret C F dX11_bookSum_9 rfl ⟨rfl, rfl⟩
set_option maxRecDepth 20000 in
theorem c_X0_place (g : vv_G) (S : vs_S) (a b : Int32) : vs_FI g yX0_place cX0_place 2 (some .int) 1 [.int a, .int b] S (a * 8 + b) S := by
  refine vs_ofI (lv := [_, _]) mb_X0_place (Nat.le_of_ble_eq_true rfl) rfl (fun x C F => ?_)
  refine vv_iload_n C dX0_place_0 rfl ?_
  refine vv_bipush C dX0_place_1 bp_8 ?_
  refine vv_imul C dX0_place_3 ?_
  refine vv_iload_n C dX0_place_4 rfl ?_
  refine vv_iadd C dX0_place_5 ?_
  exact vs_iret C F dX0_place_6 rfl ⟨rfl, rfl⟩
set_option maxRecDepth 20000 in
theorem c_X2_at (g : vv_G) (S : vs_S) (p : Int32) (hp : vp_in p 96) : vs_FI g yX2_at cX2_at 2 (some .int) 1 [vv_r g 18, .int p] S (S.2.1 19 p.toNatClampNeg) S := by
  refine vs_ofI (lv := [_, _]) mb_X2_at (Nat.le_of_ble_eq_true rfl) rfl (fun x C F => ?_)
  refine vv_aload_n C dX2_at_0 rfl ?_
  refine gf_X2_held C dX2_at_1 fg_X2_11 ?_
  refine vv_iload_n C dX2_at_4 rfl ?_
  refine ld_19 C dX2_at_5 hp ?_
  exact vs_iret C F dX2_at_6 rfl ⟨rfl, rfl⟩
set_option maxRecDepth 20000 in
theorem c_X2_begin (g : vv_G) (S : vs_S) (p v : Int32) (hp : vp_in p 96) : vs_FV g yX2_begin cX2_begin 3 none 1 [vv_r g 18, .int p, .int v] S (vs_ua S 19 (upd (S.2.1 19) p.toNatClampNeg v)) := by
  refine vs_ofV (lv := [_, _, _]) mb_X2_begin (Nat.le_of_ble_eq_true rfl) rfl (fun x C F => ?_)
  refine vv_aload_n C dX2_begin_0 rfl ?_
  refine gf_X2_held C dX2_begin_1 fg_X2_11 ?_
  refine vv_iload_n C dX2_begin_4 rfl ?_
  refine vv_iload_n C dX2_begin_5 rfl ?_
  refine st_19 C dX2_begin_6 hp ?_
  exact vs_vret C F dX2_begin_7 rfl rfl
set_option maxRecDepth 20000 in
theorem c_X2_done (g : vv_G) (S : vs_S) : vs_FI g yX2_done cX2_done 1 (some .int) 1 [vv_r g 18] S (S.1 7) S := by
  refine vs_ofI (lv := [_]) mb_X2_done (Nat.le_of_ble_eq_true rfl) rfl (fun x C F => ?_)
  refine vv_aload_n C dX2_done_0 rfl ?_
  refine gf_X2_done C dX2_done_1 fg_X2_24 ?_
  exact vs_iret C F dX2_done_4 rfl ⟨rfl, rfl⟩
set_option maxRecDepth 20000 in
theorem c_X2_behindDone (g : vv_G) (S : vs_S) : vs_FI g yX2_behindDone cX2_behindDone 1 (some .int) 1 [vv_r g 18] S ((S.1 6 + S.1 7) % 40) S := by
  refine vs_ofI (lv := [_]) mb_X2_behindDone (Nat.le_of_ble_eq_true rfl) rfl (fun x C F => ?_)
  refine vv_aload_n C dX2_behindDone_0 rfl ?_
  refine gf_X2_oldest C dX2_behindDone_1 fg_X2_28 ?_
  refine vv_aload_n C dX2_behindDone_4 rfl ?_
  refine gf_X2_done C dX2_behindDone_5 fg_X2_24 ?_
  refine vv_iadd C dX2_behindDone_8 ?_
  refine vv_bipush C dX2_behindDone_9 bp_40 ?_
  refine vv_irem C dX2_behindDone_11 (by decide) ?_
  exact vs_iret C F dX2_behindDone_12 rfl ⟨rfl, rfl⟩
set_option maxRecDepth 20000 in
theorem c_X1_inForce (g : vv_G) (S : vs_S) : vs_FI g yX1_inForce cX1_inForce 1 (some .int) 1 [vv_r g 4] S (S.1 0) S := by
  refine vs_ofI (lv := [_]) mb_X1_inForce (Nat.le_of_ble_eq_true rfl) rfl (fun x C F => ?_)
  refine vv_aload_n C dX1_inForce_0 rfl ?_
  refine gf_X1_law C dX1_inForce_1 fg_X1_15 ?_
  exact vs_iret C F dX1_inForce_4 rfl ⟨rfl, rfl⟩
set_option maxRecDepth 20000 in
theorem c_X1_enforce (g : vv_G) (S : vs_S) (v : Int32) : vs_FV g yX1_enforce cX1_enforce 2 none 1 [vv_r g 4, .int v] S (vs_us S 0 v) := by
  refine vs_ofV (lv := [_, _]) mb_X1_enforce (Nat.le_of_ble_eq_true rfl) rfl (fun x C F => ?_)
  refine vv_aload_n C dX1_enforce_0 rfl ?_
  refine vv_iload_n C dX1_enforce_1 rfl ?_
  refine pf_X1_law C dX1_enforce_2 fp_X1_15 ?_
  exact vs_vret C F dX1_enforce_5 rfl rfl
set_option maxRecDepth 20000 in
theorem c_X5_size (g : vv_G) (S : vs_S) : vs_FI g yX5_size cX5_size 1 (some .int) 1 [vv_r g 23] S (S.1 9) S := by
  refine vs_ofI (lv := [_]) mb_X5_size (Nat.le_of_ble_eq_true rfl) rfl (fun x C F => ?_)
  refine vv_aload_n C dX5_size_0 rfl ?_
  refine gf_X5_size C dX5_size_1 fg_X5_29 ?_
  exact vs_iret C F dX5_size_4 rfl ⟨rfl, rfl⟩
set_option maxRecDepth 20000 in
theorem c_X7_price (g : vv_G) (S : vs_S) : vs_FI g yX7_price cX7_price 1 (some .int) 1 [vv_r g 45] S (S.1 12) S := by
  refine vs_ofI (lv := [_]) mb_X7_price (Nat.le_of_ble_eq_true rfl) rfl (fun x C F => ?_)
  refine vv_aload_n C dX7_price_0 rfl ?_
  refine gf_X7_price C dX7_price_1 fg_X7_42 ?_
  exact vs_iret C F dX7_price_4 rfl ⟨rfl, rfl⟩
set_option maxRecDepth 20000 in
theorem c_X7_brings (g : vv_G) (S : vs_S) : vs_FI g yX7_brings cX7_brings 1 (some .int) 1 [vv_r g 45] S (S.1 13) S := by
  refine vs_ofI (lv := [_]) mb_X7_brings (Nat.le_of_ble_eq_true rfl) rfl (fun x C F => ?_)
  refine vv_aload_n C dX7_brings_0 rfl ?_
  refine gf_X7_brings C dX7_brings_1 fg_X7_45 ?_
  exact vs_iret C F dX7_brings_4 rfl ⟨rfl, rfl⟩
set_option maxRecDepth 20000 in
theorem c_X6_length (g : vv_G) (S : vs_S) : vs_FI g yX6_length cX6_length 1 (some .int) 1 [vv_r g 48] S (S.1 14) S := by
  refine vs_ofI (lv := [_]) mb_X6_length (Nat.le_of_ble_eq_true rfl) rfl (fun x C F => ?_)
  refine vv_aload_n C dX6_length_0 rfl ?_
  refine gf_X6_length C dX6_length_1 fg_X6_18 ?_
  exact vs_iret C F dX6_length_4 rfl ⟨rfl, rfl⟩
set_option maxRecDepth 20000 in
theorem c_X6_written (g : vv_G) (S : vs_S) : vs_FI g yX6_written cX6_written 1 (some .int) 1 [vv_r g 48] S (S.1 16) S := by
  refine vs_ofI (lv := [_]) mb_X6_written (Nat.le_of_ble_eq_true rfl) rfl (fun x C F => ?_)
  refine vv_aload_n C dX6_written_0 rfl ?_
  refine gf_X6_written C dX6_written_1 fg_X6_22 ?_
  exact vs_iret C F dX6_written_4 rfl ⟨rfl, rfl⟩
set_option maxRecDepth 20000 in
theorem c_X6_step (g : vv_G) (S : vs_S) (p : Int32) (hp : vp_in p 121) : vs_FI g yX6_step cX6_step 2 (some .int) 1 [vv_r g 48, .int p] S (S.2.1 50 p.toNatClampNeg) S := by
  refine vs_ofI (lv := [_, _]) mb_X6_step (Nat.le_of_ble_eq_true rfl) rfl (fun x C F => ?_)
  refine vv_aload_n C dX6_step_0 rfl ?_
  refine gf_X6_steps C dX6_step_1 fg_X6_15 ?_
  refine vv_iload_n C dX6_step_4 rfl ?_
  refine ld_50 C dX6_step_5 hp ?_
  exact vs_iret C F dX6_step_6 rfl ⟨rfl, rfl⟩
set_option maxRecDepth 20000 in
theorem c_X4_size (g : vv_G) (S : vs_S) : vs_FI g yX4_size cX4_size 1 (some .int) 1 [vv_r g 51] S (S.1 18) S := by
  refine vs_ofI (lv := [_]) mb_X4_size (Nat.le_of_ble_eq_true rfl) rfl (fun x C F => ?_)
  refine vv_aload_n C dX4_size_0 rfl ?_
  refine gf_X4_size C dX4_size_1 fg_X4_18 ?_
  exact vs_iret C F dX4_size_4 rfl ⟨rfl, rfl⟩
set_option maxRecDepth 20000 in
theorem c_X4_ran (g : vv_G) (S : vs_S) : vs_FI g yX4_ran cX4_ran 1 (some .int) 1 [vv_r g 51] S (S.1 19) S := by
  refine vs_ofI (lv := [_]) mb_X4_ran (Nat.le_of_ble_eq_true rfl) rfl (fun x C F => ?_)
  refine vv_aload_n C dX4_ran_0 rfl ?_
  refine gf_X4_ran C dX4_ran_1 fg_X4_22 ?_
  exact vs_iret C F dX4_ran_4 rfl ⟨rfl, rfl⟩
set_option maxRecDepth 20000 in
theorem c_X4_kindOf (g : vv_G) (S : vs_S) (p : Int32) (hp : vp_in p 50) : vs_FI g yX4_kindOf cX4_kindOf 2 (some .int) 1 [vv_r g 51, .int p] S (S.2.1 52 p.toNatClampNeg) S := by
  refine vs_ofI (lv := [_, _]) mb_X4_kindOf (Nat.le_of_ble_eq_true rfl) rfl (fun x C F => ?_)
  refine vv_aload_n C dX4_kindOf_0 rfl ?_
  refine gf_X4_kinds C dX4_kindOf_1 fg_X4_11 ?_
  refine vv_iload_n C dX4_kindOf_4 rfl ?_
  refine ld_52 C dX4_kindOf_5 hp ?_
  exact vs_iret C F dX4_kindOf_6 rfl ⟨rfl, rfl⟩
set_option maxRecDepth 20000 in
theorem c_X9_share (g : vv_G) (S : vs_S) (p : Int32) (hp : vp_in p 4) : vs_FI g yX9_share cX9_share 2 (some .int) 1 [vv_r g 15, .int p] S (S.2.1 17 p.toNatClampNeg) S := by
  refine vs_ofI (lv := [_, _]) mb_X9_share (Nat.le_of_ble_eq_true rfl) rfl (fun x C F => ?_)
  refine vv_aload_n C dX9_share_0 rfl ?_
  refine gf_X9_best C dX9_share_1 fg_X9_15 ?_
  refine vv_iload_n C dX9_share_4 rfl ?_
  refine ld_17 C dX9_share_5 hp ?_
  exact vs_iret C F dX9_share_6 rfl ⟨rfl, rfl⟩
set_option maxRecDepth 20000 in
theorem c_X0_of (g : vv_G) (S : vs_S) (a b : Int32) (hp : vp_in (a * 8 + b) 96) : vs_FI g yX0_of cX0_of 3 (some .int) 2 [vv_r g 43, .int a, .int b] S (S.2.1 19 (a * 8 + b).toNatClampNeg) S := by
  refine vs_ofI (lv := [_, _, _]) mb_X0_of (Nat.le_of_ble_eq_true rfl) rfl (fun x C F => ?_)
  refine vv_aload_n C dX0_of_0 rfl ?_
  refine gf_X0_ledger C dX0_of_1 fg_X0_19 ?_
  refine vv_iload_n C dX0_of_4 rfl ?_
  refine vv_iload_n C dX0_of_5 rfl ?_
  refine vs_calsiF C dX0_of_6 (c_X0_place g S _ _) mb_X0_place ms_X0_place lk_X0_23 rfl rfl ⟨Nat.le_of_ble_eq_true rfl, Nat.le_of_ble_eq_true rfl, Nat.le_of_ble_eq_true rfl⟩ ?_
  refine vs_caliF C dX0_of_9 (c_X2_at g S _ hp) mb_X2_at mv_X2_at lk_X0_27 ce_18 rfl rfl rfl rfl ⟨Nat.le_of_ble_eq_true rfl, Nat.le_of_ble_eq_true rfl, Nat.le_of_ble_eq_true rfl⟩ ?_
  exact vs_iret C F dX0_of_12 rfl ⟨rfl, rfl⟩
set_option maxRecDepth 20000 in
theorem c_X7_oneIf (g : vv_G) (S : vs_S) (b : Bool) : vs_FI g yX7_oneIf cX7_oneIf 1 (some .int) 1 [.int (vs_b b)] S (vs_b b) S := by
  refine vs_ofI (lv := [_]) mb_X7_oneIf (Nat.le_of_ble_eq_true rfl) rfl (fun x C F => ?_)
  refine vv_iload_n C dX7_oneIf_0 rfl ?_
  refine vv_if_eq (tgt := 8) C dX7_oneIf_1 (by decide) (fun q1 => ?_) (fun q1 => ?_)
  · refine vv_iconst C dX7_oneIf_8 ic_0 ?_
    exact vs_iret C F dX7_oneIf_9 rfl ⟨by cases b <;> simp_all [vs_b], rfl⟩
  · refine vv_iconst C dX7_oneIf_4 ic_1 ?_
    refine vv_goto (tgt := 9) C dX7_oneIf_5 (by decide) ?_
    exact vs_iret C F dX7_oneIf_9 rfl ⟨by cases b <;> simp_all [vs_b], rfl⟩
set_option maxRecDepth 20000 in
theorem c_X12_size (g : vv_G) (S : vs_S) (v : Int32) : vs_FI g yX12_size cX12_size 1 (some .int) 1 [.int v] S (if v < 0 then -v else v) S := by
  refine vs_ofI (lv := [_]) mb_X12_size (Nat.le_of_ble_eq_true rfl) rfl (fun x C F => ?_)
  refine vv_iload_n C dX12_size_0 rfl ?_
  refine vv_if_ge (tgt := 9) C dX12_size_1 (by decide) (fun q1 => ?_) (fun q1 => ?_)
  · refine vv_iload_n C dX12_size_9 rfl ?_
    exact vs_iret C F dX12_size_10 rfl ⟨by simp [← Int32.not_lt, *] at *; try simp [*], rfl⟩
  · refine vv_iload_n C dX12_size_4 rfl ?_
    refine vv_ineg C dX12_size_5 ?_
    refine vv_goto (tgt := 10) C dX12_size_6 (by decide) ?_
    exact vs_iret C F dX12_size_10 rfl ⟨by simp [← Int32.not_lt, *] at *; try simp [*], rfl⟩
set_option maxRecDepth 20000 in
theorem c_X12_kindOf (g : vv_G) (S : vs_S) (p : Int32) (hp : vp_in p 50) : vs_FI g yX12_kindOf cX12_kindOf 2 (some .int) 1 [vv_r g 65, .int p] S (S.2.1 82 p.toNatClampNeg) S := by
  refine vs_ofI (lv := [_, _]) mb_X12_kindOf (Nat.le_of_ble_eq_true rfl) rfl (fun x C F => ?_)
  refine vv_aload_n C dX12_kindOf_0 rfl ?_
  refine gf_X12_bodyKind C dX12_kindOf_1 fg_X12_62 ?_
  refine vv_iload_n C dX12_kindOf_4 rfl ?_
  refine ld_82 C dX12_kindOf_5 hp ?_
  exact vs_iret C F dX12_kindOf_6 rfl ⟨rfl, rfl⟩
set_option maxRecDepth 20000 in
theorem c_X12_debtOf (g : vv_G) (S : vs_S) (a b : Int32) (hp : vp_in (8 * a + b) 96) : vs_FI g yX12_debtOf cX12_debtOf 3 (some .int) 1 [vv_r g 65, .int a, .int b] S (S.2.1 66 (8 * a + b).toNatClampNeg) S := by
  refine vs_ofI (lv := [_, _, _]) mb_X12_debtOf (Nat.le_of_ble_eq_true rfl) rfl (fun x C F => ?_)
  refine vv_aload_n C dX12_debtOf_0 rfl ?_
  refine gf_X12_may C dX12_debtOf_1 fg_X12_9 ?_
  refine vv_bipush C dX12_debtOf_4 bp_8 ?_
  refine vv_iload_n C dX12_debtOf_6 rfl ?_
  refine vv_imul C dX12_debtOf_7 ?_
  refine vv_iload_n C dX12_debtOf_8 rfl ?_
  refine vv_iadd C dX12_debtOf_9 ?_
  refine ld_66 C dX12_debtOf_10 hp ?_
  exact vs_iret C F dX12_debtOf_11 rfl ⟨rfl, rfl⟩
set_option maxRecDepth 20000 in
theorem c_X12_fewestFrom (g : vv_G) (S : vs_S) (a b : Int32) (hp : vp_in (2001 * a + b) 34017) : vs_FI g yX12_fewestFrom cX12_fewestFrom 3 (some .int) 1 [vv_r g 65, .int a, .int b] S (S.2.1 75 (2001 * a + b).toNatClampNeg) S := by
  refine vs_ofI (lv := [_, _, _]) mb_X12_fewestFrom (Nat.le_of_ble_eq_true rfl) rfl (fun x C F => ?_)
  refine vv_aload_n C dX12_fewestFrom_0 rfl ?_
  refine gf_X12_fewestCoins C dX12_fewestFrom_1 fg_X12_41 ?_
  refine vv_sipush C dX12_fewestFrom_4 sp_2001 ?_
  refine vv_iload_n C dX12_fewestFrom_7 rfl ?_
  refine vv_imul C dX12_fewestFrom_8 ?_
  refine vv_iload_n C dX12_fewestFrom_9 rfl ?_
  refine vv_iadd C dX12_fewestFrom_10 ?_
  refine ld_75 C dX12_fewestFrom_11 hp ?_
  exact vs_iret C F dX12_fewestFrom_12 rfl ⟨rfl, rfl⟩
