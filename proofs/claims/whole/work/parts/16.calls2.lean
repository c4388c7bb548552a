theorem vs_end2 {x y : Int32} (h : ((decide (0 ≤ x) && decide (x ≤ 100000)) && (decide (x ≤ y) && decide (y ≤ 100000))) = true) : ∃ a b : Nat, a ≤ b ∧ b ≤ 100000 ∧ x = nI a ∧ y = nI b := by
  simp only [Bool.and_eq_true, decide_eq_true_eq] at h
  obtain ⟨⟨h1, h2⟩, h3, h4⟩ := h
  obtain ⟨a, ha, ea⟩ := xn_of (n := 100000) (by omega) h1 h2
  obtain ⟨b, hb, eb⟩ := xn_of (n := 100000) (by omega) (Int32.le_trans h1 h3) h4
  subst ea eb
  rw [xn_le (by omega) (by omega)] at h3
  exact ⟨a, b, h3, hb, rfl, rfl⟩
set_option maxRecDepth 20000 in
theorem c_X11_many (g : vv_G) (S : vs_S) (hS : nx_ok S) (law : Nat) (hl : law ≤ 3) (hs : S.1 0 = nI law) (xx yy : Int32) : vs_FI g yX11_many cX11_many 5 (some .int) 5 [vv_r g 0, .int xx, .int yy] S (if ((decide (0 ≤ xx) && decide (xx ≤ 100000)) && (decide (xx ≤ yy) && decide (yy ≤ 100000))) = true then nI (lw_mn (np_lx law) (yy.toNatClampNeg + 1 - xx.toNatClampNeg) xx.toNatClampNeg) else -1) S := by
  refine vs_ofI (lv := [_, _, _, _, _]) mb_X11_many (Nat.le_of_ble_eq_true rfl) rfl (fun x C F => ?_)
  refine vv_iload_n C dX11_many_0 rfl ?_
  refine vv_iload_n C dX11_many_1 rfl ?_
  refine vs_calsiF C dX11_many_2 (c_X11_isWalk g S _ _) mb_X11_isWalk ms_X11_isWalk lk_X11_185 rfl rfl ⟨Nat.le_of_ble_eq_true rfl, Nat.le_of_ble_eq_true rfl, Nat.le_of_ble_eq_true rfl⟩ ?_
  refine vv_if_ne (tgt := 10) C dX11_many_5 (by decide) (fun q5 => ?_) (fun q5 => ?_)
  · have hw : ((decide (0 ≤ xx) && decide (xx ≤ 100000)) && (decide (xx ≤ yy) && decide (yy ≤ 100000))) = true := vs_b1.mp q5
    obtain ⟨a, b, hab, hb, ea, eb⟩ := vs_end2 hw
    subst ea eb
    have loop : ∀ (f m c : Nat), m + f = b + 1 → c + lw_mn (np_lx law) f m = lw_mn (np_lx law) (b + 1 - a) a → vv_V g x 5 0 0 15 [some (vv_r g 0), some (.int (nI a)), some (.int (nI b)), some (.int (nI c)), some (.int (nI m))] [] (vs_cells g S) := by
      intro f
      induction f with
      | zero =>
        intro m c h1 he
        refine vv_iload C dX11_many_15 rfl ?_
        refine vv_iload_n C dX11_many_17 rfl ?_
        refine vv_icmp_gt (tgt := 43) C dX11_many_18 (by decide) (fun q18 => ?_) (fun q18 => ?_)
        · refine vv_iload_n C dX11_many_43 rfl ?_
          exact vs_iret C F dX11_many_44 rfl ⟨by rw [if_pos hw, xn_cl (by omega), xn_cl (by omega), ← he]; rfl, rfl⟩
        · exact absurd (by rw [xn_lt (by omega) (by omega)]; omega) q18
      | succ f ih =>
        intro m c h1 he
        rw [lw_mn1 (f := f) (m := m)] at he
        have go : ∀ c : Nat, c + lw_mn (np_lx law) f (m + 1) = lw_mn (np_lx law) (b + 1 - a) a → vv_V g x 5 0 0 37 [some (vv_r g 0), some (.int (nI a)), some (.int (nI b)), some (.int (nI c)), some (.int (nI m))] [] (vs_cells g S) := by
          intro c he
          refine vw_iinc (lv9 := [_, _, _, _, _]) C dX11_many_37 rfl ic_1 (by decide) rfl rfl ?_
          refine vv_goto (tgt := 15) C dX11_many_40 (by decide) ?_
          rw [nI_1]
          exact ih (m + 1) c (by omega) he
        refine vv_iload C dX11_many_15 rfl ?_
        refine vv_iload_n C dX11_many_17 rfl ?_
        refine vv_icmp_gt (tgt := 43) C dX11_many_18 (by decide) (fun q18 => ?_) (fun q18 => ?_)
        · exact absurd q18 (by rw [xn_lt (by omega) (by omega)]; omega)
        · refine vv_aload_n C dX11_many_21 rfl ?_
          refine gf_X11_laws C dX11_many_22 fg_X11_21 ?_
          refine vv_iload C dX11_many_25 rfl ?_
          refine vv_i2l C dX11_many_27 ?_
          refine vs_eql (v9 := lN m) (xn_i2l (by omega)) ?_
          refine vs_caliF C dX11_many_28 (c_X1_isLawful g S hS law hl hs m (by omega)) mb_X1_isLawful mv_X1_isLawful lk_X11_114 ce_4 rfl rfl rfl rfl ⟨Nat.le_of_ble_eq_true rfl, Nat.le_of_ble_eq_true rfl, Nat.le_of_ble_eq_true rfl⟩ ?_
          refine vv_if_eq (tgt := 37) C dX11_many_31 (by decide) (fun q31 => ?_) (fun q31 => ?_)
          · exact go c (by rw [← he, vs_b0.mp q31, if_neg (by decide)]; omega)
          · refine vw_iinc (lv9 := [_, _, _, _, _]) C dX11_many_34 rfl ic_1 (by decide) rfl rfl ?_
            rw [nI_1]
            exact go (c + 1) (by rw [← he, vs_b1.mp q31, if_pos rfl]; omega)
    refine vv_iconst C dX11_many_10 ic_0 ?_
    refine vw_istore_n (lv9 := [_, _, _, _, _]) C dX11_many_11 (by decide) rfl rfl ?_
    refine vv_iload_n C dX11_many_12 rfl ?_
    refine vw_istore (lv9 := [_, _, _, _, _]) C dX11_many_13 (by decide) rfl rfl ?_
    exact loop (b + 1 - a) a 0 (by omega) (by omega)
  · refine vv_iconst C dX11_many_8 ic_m1 ?_
    exact vs_iret C F dX11_many_9 rfl ⟨by rw [show ((decide (0 ≤ xx) && decide (xx ≤ 100000)) && (decide (xx ≤ yy) && decide (yy ≤ 100000))) = false from vs_b0.mp q5]; rfl, rfl⟩
def lw_o (l : Option Nat) : Int32 := match l with
  | none => -2
  | some z => nI z
theorem lw_oN {l : Option Nat} (h : lw_o l = -2) (hl : ∀ z, l = some z → z ≤ 100000) : l = none := by
  cases l with
  | none => rfl
  | some z =>
    have h1 := hl z rfl
    exact absurd h (fun e => by
      have e2 : (nI z).toInt = (-2 : Int32).toInt := congrArg Int32.toInt e
      rw [nI_toInt (by omega)] at e2
      have : (-2 : Int32).toInt = -2 := rfl
      omega)
theorem lw_oS {l : Option Nat} (h : ¬ lw_o l = -2) : ∃ z, l = some z := by
  cases l with
  | none => exact absurd rfl h
  | some z => exact ⟨z, rfl⟩
theorem lw_gp1 {P : Nat → Bool} {f m : Nat} {l : Option Nat} {u w : Int32} : lw_gp P (f + 1) m l u w = if P m = true then (match l with
      | none => lw_gp P f (m + 1) (some m) u w
      | some z => if u < nI (m - z) then lw_gp P f (m + 1) (some m) (nI (m - z)) (nI z) else lw_gp P f (m + 1) (some m) u w) else lw_gp P f (m + 1) l u w := rfl
set_option maxRecDepth 20000 in
theorem c_X11_gap (g : vv_G) (S : vs_S) (hS : nx_ok S) (law : Nat) (hl : law ≤ 3) (hs : S.1 0 = nI law) (xx yy what : Int32) : vs_FI g yX11_gap cX11_gap 8 (some .int) 5 [vv_r g 0, .int xx, .int yy, .int what] S (if (((decide (0 ≤ xx) && decide (xx ≤ 100000)) && (decide (xx ≤ yy) && decide (yy ≤ 100000))) && vs_w what 0 1) = true then (if what = 0 then (lw_gp (np_lx law) (yy.toNatClampNeg + 1 - xx.toNatClampNeg) xx.toNatClampNeg none (-2) (-2)).1 else (lw_gp (np_lx law) (yy.toNatClampNeg + 1 - xx.toNatClampNeg) xx.toNatClampNeg none (-2) (-2)).2) else -1) S := by
  refine vs_ofI (lv := [_, _, _, _, _, _, _, _]) mb_X11_gap (Nat.le_of_ble_eq_true rfl) rfl (fun x C F => ?_)
  refine vv_iload_n C dX11_gap_0 rfl ?_
  refine vv_iload_n C dX11_gap_1 rfl ?_
  refine vs_calsiF C dX11_gap_2 (c_X11_isWalk g S _ _) mb_X11_isWalk ms_X11_isWalk lk_X11_185 rfl rfl ⟨Nat.le_of_ble_eq_true rfl, Nat.le_of_ble_eq_true rfl, Nat.le_of_ble_eq_true rfl⟩ ?_
  refine vv_if_eq (tgt := 17) C dX11_gap_5 (by decide) (fun q5 => ?_) (fun q5 => ?_)
  · have w1 : ((decide (0 ≤ xx) && decide (xx ≤ 100000)) && (decide (xx ≤ yy) && decide (yy ≤ 100000))) = false := vs_b0.mp q5
    refine vv_iconst C dX11_gap_17 ic_m1 ?_
    exact vs_iret C F dX11_gap_18 rfl ⟨by rw [w1]; first | rfl | (rw [w2]; rfl), rfl⟩
  · have w1 : ((decide (0 ≤ xx) && decide (xx ≤ 100000)) && (decide (xx ≤ yy) && decide (yy ≤ 100000))) = true := vs_b1.mp q5
    refine vv_iload_n C dX11_gap_8 rfl ?_
    refine vv_iconst C dX11_gap_9 ic_0 ?_
    refine vv_iconst C dX11_gap_10 ic_1 ?_
    refine vs_calsiF C dX11_gap_11 (c_X11_within g S _ _ _) mb_X11_within ms_X11_within lk_X11_94 rfl rfl ⟨Nat.le_of_ble_eq_true rfl, Nat.le_of_ble_eq_true rfl, Nat.le_of_ble_eq_true rfl⟩ ?_
    refine vv_if_ne (tgt := 19) C dX11_gap_14 (by decide) (fun q14 => ?_) (fun q14 => ?_)
    · have w2 : vs_w what 0 1 = true := vs_b1.mp q14
      obtain ⟨a, b, hab, hb, ea, eb⟩ := vs_end2 w1
      subst ea eb
      have hww : (((decide (0 ≤ nI a) && decide (nI a ≤ 100000)) && (decide (nI a ≤ nI b) && decide (nI b ≤ 100000))) && vs_w what 0 1) = true := by rw [w1, w2]; rfl
      have loop : ∀ (f m : Nat) (l : Option Nat) (u w : Int32), m + f = b + 1 → (∀ z, l = some z → z < m) → lw_gp (np_lx law) f m l u w = lw_gp (np_lx law) (b + 1 - a) a none (-2) (-2) → vv_V g x 8 0 0 34 [some (vv_r g 0), some (.int (nI a)), some (.int (nI b)), some (.int what), some (.int (lw_o l)), some (.int u), some (.int w), some (.int (nI m))] [] (vs_cells g S) := by
        intro f
        induction f with
        | zero =>
          intro m l u w h1 h2 he
          refine vv_iload C dX11_gap_34 rfl ?_
          refine vv_iload_n C dX11_gap_36 rfl ?_
          refine vv_icmp_gt (tgt := 91) C dX11_gap_37 (by decide) (fun q37 => ?_) (fun q37 => ?_)
          · refine vv_iload_n C dX11_gap_91 rfl ?_
            refine vv_if_ne (tgt := 100) C dX11_gap_92 (by decide) (fun q92 => ?_) (fun q92 => ?_)
            · refine vv_iload C dX11_gap_100 rfl ?_
              exact vs_iret C F dX11_gap_102 rfl ⟨by rw [if_pos hww, xn_cl (by omega), xn_cl (by omega), ← he]; (first | rw [if_pos q92] | rw [if_neg q92]); rfl, rfl⟩
            · refine vv_iload C dX11_gap_95 rfl ?_
              refine vv_goto (tgt := 102) C dX11_gap_97 (by decide) ?_
              exact vs_iret C F dX11_gap_102 rfl ⟨by rw [if_pos hww, xn_cl (by omega), xn_cl (by omega), ← he]; (first | rw [if_pos q92] | rw [if_neg q92]); rfl, rfl⟩
          · exact absurd (by rw [xn_lt (by omega) (by omega)]; omega) q37
        | succ f ih =>
          intro m l u w h1 h2 he
          have go : ∀ (l : Option Nat) (u w : Int32), (∀ z, l = some z → z < m + 1) → lw_gp (np_lx law) f (m + 1) l u w = lw_gp (np_lx law) (b + 1 - a) a none (-2) (-2) → vv_V g x 8 0 0 85 [some (vv_r g 0), some (.int (nI a)), some (.int (nI b)), some (.int what), some (.int (lw_o l)), some (.int u), some (.int w), some (.int (nI m))] [] (vs_cells g S) := by
            intro l u w h2 he
            refine vw_iinc (lv9 := [_, _, _, _, _, _, _, _]) C dX11_gap_85 rfl ic_1 (by decide) rfl rfl ?_
            refine vv_goto (tgt := 34) C dX11_gap_88 (by decide) ?_
            rw [nI_1]
            exact ih (m + 1) l u w (by omega) h2 he
          rw [lw_gp1 (f := f) (m := m)] at he
          refine vv_iload C dX11_gap_34 rfl ?_
          refine vv_iload_n C dX11_gap_36 rfl ?_
          refine vv_icmp_gt (tgt := 91) C dX11_gap_37 (by decide) (fun q37 => ?_) (fun q37 => ?_)
          · exact absurd q37 (by rw [xn_lt (by omega) (by omega)]; omega)
          · refine vv_aload_n C dX11_gap_40 rfl ?_
            refine gf_X11_laws C dX11_gap_41 fg_X11_21 ?_
            refine vv_iload C dX11_gap_44 rfl ?_
            refine vv_i2l C dX11_gap_46 ?_
            refine vs_eql (v9 := lN m) (xn_i2l (by omega)) ?_
            refine vs_caliF C dX11_gap_47 (c_X1_isLawful g S hS law hl hs m (by omega)) mb_X1_isLawful mv_X1_isLawful lk_X11_114 ce_4 rfl rfl rfl rfl ⟨Nat.le_of_ble_eq_true rfl, Nat.le_of_ble_eq_true rfl, Nat.le_of_ble_eq_true rfl⟩ ?_
            refine vv_if_eq (tgt := 85) C dX11_gap_50 (by decide) (fun q50 => ?_) (fun q50 => ?_)
            · exact go l u w (fun z hz => by have := h2 z hz; omega) (by rw [vs_b0.mp q50, if_neg (by decide)] at he; exact he)
            · rw [vs_b1.mp q50, if_pos rfl] at he
              refine vv_iload C dX11_gap_53 rfl ?_
              refine vv_bipush C dX11_gap_55 bp_m2 ?_
              refine vv_icmp_eq (tgt := 81) C dX11_gap_57 (by decide) (fun q57 => ?_) (fun q57 => ?_)
              · have hl0 := lw_oN q57 (fun z hz => by have := h2 z hz; omega)
                subst hl0
                refine vv_iload C dX11_gap_81 rfl ?_
                refine vw_istore (lv9 := [_, _, _, _, _, _, _, _]) C dX11_gap_83 (by decide) rfl rfl ?_
                exact go (some m) _ _ (fun z hz => by cases hz; omega) he
              · obtain ⟨z, hz⟩ := lw_oS q57
                subst hz
                have hzm := h2 z rfl
                refine vv_iload C dX11_gap_60 rfl ?_
                refine vv_iload C dX11_gap_62 rfl ?_
                refine vv_isub C dX11_gap_64 ?_
                refine vs_eqi (v9 := nI (m - z)) (xn_sub (by omega)) ?_
                refine vv_iload C dX11_gap_65 rfl ?_
                refine vv_icmp_le (tgt := 81) C dX11_gap_67 (by decide) (fun q67 => ?_) (fun q67 => ?_)
                · have q67 := Int32.not_lt.mpr q67
                  dsimp only at he
                  rw [if_neg q67] at he
                  refine vv_iload C dX11_gap_81 rfl ?_
                  refine vw_istore (lv9 := [_, _, _, _, _, _, _, _]) C dX11_gap_83 (by decide) rfl rfl ?_
                  exact go (some m) _ _ (fun z hz => by cases hz; omega) he
                · have q67 := Int32.not_le.mp q67
                  dsimp only at he
                  rw [if_pos q67] at he
                  refine vv_iload C dX11_gap_70 rfl ?_
                  refine vv_iload C dX11_gap_72 rfl ?_
                  refine vv_isub C dX11_gap_74 ?_
                  refine vs_eqi (v9 := nI (m - z)) (xn_sub (by omega)) ?_
                  refine vw_istore (lv9 := [_, _, _, _, _, _, _, _]) C dX11_gap_75 (by decide) rfl rfl ?_
                  refine vv_iload C dX11_gap_77 rfl ?_
                  refine vs_eqi (v9 := nI z) (rfl) ?_
                  refine vw_istore (lv9 := [_, _, _, _, _, _, _, _]) C dX11_gap_79 (by decide) rfl rfl ?_
                  refine vv_iload C dX11_gap_81 rfl ?_
                  refine vw_istore (lv9 := [_, _, _, _, _, _, _, _]) C dX11_gap_83 (by decide) rfl rfl ?_
                  exact go (some m) _ _ (fun z hz => by cases hz; omega) he
      refine vv_bipush C dX11_gap_19 bp_m2 ?_
      refine vw_istore (lv9 := [_, _, _, _, _, _, _, _]) C dX11_gap_21 (by decide) rfl rfl ?_
      refine vv_bipush C dX11_gap_23 bp_m2 ?_
      refine vw_istore (lv9 := [_, _, _, _, _, _, _, _]) C dX11_gap_25 (by decide) rfl rfl ?_
      refine vv_bipush C dX11_gap_27 bp_m2 ?_
      refine vw_istore (lv9 := [_, _, _, _, _, _, _, _]) C dX11_gap_29 (by decide) rfl rfl ?_
      refine vv_iload_n C dX11_gap_31 rfl ?_
      refine vw_istore (lv9 := [_, _, _, _, _, _, _, _]) C dX11_gap_32 (by decide) rfl rfl ?_
      exact loop (b + 1 - a) a none (-2) (-2) (by omega) (fun z hz => by cases hz) rfl
    · have w2 : vs_w what 0 1 = false := vs_b0.mp q14
      refine vv_iconst C dX11_gap_17 ic_m1 ?_
      exact vs_iret C F dX11_gap_18 rfl ⟨by rw [w1]; first | rfl | (rw [w2]; rfl), rfl⟩
set_option maxRecDepth 20000 in
theorem c_X11_force (g : vv_G) (S : vs_S) (n : Int32) : vs_FI g yX11_force cX11_force 3 (some .int) 2 [vv_r g 0, .int n] S (if vs_w n 0 3 = true then S.1 0 else -1) (if vs_w n 0 3 = true then vs_us S 0 n else S) := by
  refine vs_ofI (lv := [_, _, _]) mb_X11_force (Nat.le_of_ble_eq_true rfl) rfl (fun x C F => ?_)
  refine vv_iload_n C dX11_force_0 rfl ?_
  refine vv_iconst C dX11_force_1 ic_0 ?_
  refine vv_iconst C dX11_force_2 ic_3 ?_
  refine vs_calsiF C dX11_force_3 (c_X11_within g S _ _ _) mb_X11_within ms_X11_within lk_X11_94 rfl rfl ⟨Nat.le_of_ble_eq_true rfl, Nat.le_of_ble_eq_true rfl, Nat.le_of_ble_eq_true rfl⟩ ?_
  refine vv_if_ne (tgt := 11) C dX11_force_6 (by decide) (fun q6 => ?_) (fun q6 => ?_)
  · refine vv_aload_n C dX11_force_11 rfl ?_
    refine gf_X11_laws C dX11_force_12 fg_X11_21 ?_
    refine vs_caliF C dX11_force_15 (c_X1_inForce g S) mb_X1_inForce mv_X1_inForce lk_X11_98 ce_4 rfl rfl rfl rfl ⟨Nat.le_of_ble_eq_true rfl, Nat.le_of_ble_eq_true rfl, Nat.le_of_ble_eq_true rfl⟩ ?_
    refine vw_istore_n (lv9 := [_, _, _]) C dX11_force_18 (by decide) rfl rfl ?_
    refine vv_aload_n C dX11_force_19 rfl ?_
    refine gf_X11_laws C dX11_force_20 fg_X11_21 ?_
    refine vv_iload_n C dX11_force_23 rfl ?_
    refine vs_calvF C dX11_force_24 (c_X1_enforce g S _) mb_X1_enforce mv_X1_enforce lk_X11_102 ce_4 rfl rfl rfl rfl ⟨Nat.le_of_ble_eq_true rfl, Nat.le_of_ble_eq_true rfl, Nat.le_of_ble_eq_true rfl⟩ ?_
    refine vv_iload_n C dX11_force_27 rfl ?_
    exact vs_iret C F dX11_force_28 rfl ⟨by rw [show vs_w n 0 3 = true from vs_b1.mp q6, if_pos rfl], by rw [show vs_w n 0 3 = true from vs_b1.mp q6, if_pos rfl]⟩
  · refine vv_iconst C dX11_force_9 ic_m1 ?_
    exact vs_iret C F dX11_force_10 rfl ⟨by rw [show vs_w n 0 3 = false from vs_b0.mp q6]; rfl, by rw [show vs_w n 0 3 = false from vs_b0.mp q6]; rfl⟩
theorem vs_book {x y : Int32} (h : ((decide (0 ≤ x) && decide (x ≤ 999999)) && (decide (0 ≤ y) && decide (y ≤ 999999))) = true) : ∃ n : Nat, n < 1000000000000 ∧ x.toInt64 * 1000000 + y.toInt64 = lN n ∧ n = x.toNatClampNeg * 1000000 + y.toNatClampNeg := by
  simp only [Bool.and_eq_true, decide_eq_true_eq] at h
  obtain ⟨⟨h1, h2⟩, h3, h4⟩ := h
  obtain ⟨a, ha, ea⟩ := xn_of (n := 999999) (by omega) h1 h2
  obtain ⟨b, hb, eb⟩ := xn_of (n := 999999) (by omega) h3 h4
  subst ea eb
  refine ⟨a * 1000000 + b, by omega, ?_, by rw [xn_cl (by omega), xn_cl (by omega)]⟩
  rw [xn_i2l (by omega), xn_i2l (by omega), xn_lit64, xn_lmul, lN_add]
set_option maxRecDepth 20000 in
theorem c_X11_lawful (g : vv_G) (S : vs_S) (hS : nx_ok S) (law : Nat) (hl : law ≤ 3) (hs : S.1 0 = nI law) (xx yy : Int32) : vs_FI g yX11_lawful cX11_lawful 3 (some .int) 5 [vv_r g 0, .int xx, .int yy] S (if ((decide (0 ≤ xx) && decide (xx ≤ 999999)) && (decide (0 ≤ yy) && decide (yy ≤ 999999))) = true then vs_b (np_lx law (xx.toNatClampNeg * 1000000 + yy.toNatClampNeg)) else -1) S := by
  refine vs_ofI (lv := [_, _, _]) mb_X11_lawful (Nat.le_of_ble_eq_true rfl) rfl (fun x C F => ?_)
  refine vv_iload_n C dX11_lawful_0 rfl ?_
  refine vv_iload_n C dX11_lawful_1 rfl ?_
  refine vs_calsiF C dX11_lawful_2 (c_X11_isBookSum g S _ _) mb_X11_isBookSum ms_X11_isBookSum lk_X11_106 rfl rfl ⟨Nat.le_of_ble_eq_true rfl, Nat.le_of_ble_eq_true rfl, Nat.le_of_ble_eq_true rfl⟩ ?_
  refine vv_if_ne (tgt := 10) C dX11_lawful_5 (by decide) (fun q5 => ?_) (fun q5 => ?_)
  · have hw : ((decide (0 ≤ xx) && decide (xx ≤ 999999)) && (decide (0 ≤ yy) && decide (yy ≤ 999999))) = true := vs_b1.mp q5
    obtain ⟨n, hn, en, en2⟩ := vs_book hw
    refine vv_aload_n C dX11_lawful_10 rfl ?_
    refine gf_X11_laws C dX11_lawful_11 fg_X11_21 ?_
    refine vv_iload_n C dX11_lawful_14 rfl ?_
    refine vv_iload_n C dX11_lawful_15 rfl ?_
    refine vs_calslF C dX11_lawful_16 (c_X11_bookSum g S _ _) mb_X11_bookSum ms_X11_bookSum lk_X11_110 rfl rfl ⟨Nat.le_of_ble_eq_true rfl, Nat.le_of_ble_eq_true rfl, Nat.le_of_ble_eq_true rfl⟩ ?_
    refine vs_eql (v9 := lN n) (en) ?_
    refine vs_caliF C dX11_lawful_19 (c_X1_isLawful g S hS law hl hs n (by omega)) mb_X1_isLawful mv_X1_isLawful lk_X11_114 ce_4 rfl rfl rfl rfl ⟨Nat.le_of_ble_eq_true rfl, Nat.le_of_ble_eq_true rfl, Nat.le_of_ble_eq_true rfl⟩ ?_
    refine vv_if_eq (tgt := 29) C dX11_lawful_22 (by decide) (fun q22 => ?_) (fun q22 => ?_)
    · refine vv_iconst C dX11_lawful_29 ic_0 ?_
      exact vs_iret C F dX11_lawful_30 rfl ⟨by rw [if_pos hw, ← en2]; first | (rw [vs_b0.mp q22]; rfl) | (rw [vs_b1.mp q22]; rfl), rfl⟩
    · refine vv_iconst C dX11_lawful_25 ic_1 ?_
      refine vv_goto (tgt := 30) C dX11_lawful_26 (by decide) ?_
      exact vs_iret C F dX11_lawful_30 rfl ⟨by rw [if_pos hw, ← en2]; first | (rw [vs_b0.mp q22]; rfl) | (rw [vs_b1.mp q22]; rfl), rfl⟩
  · refine vv_iconst C dX11_lawful_8 ic_m1 ?_
    exact vs_iret C F dX11_lawful_9 rfl ⟨by rw [show ((decide (0 ≤ xx) && decide (xx ≤ 999999)) && (decide (0 ≤ yy) && decide (yy ≤ 999999))) = false from vs_b0.mp q5]; rfl, rfl⟩
set_option maxRecDepth 20000 in
theorem c_X11_part (g : vv_G) (S : vs_S) (hS : nx_ok S) (law : Nat) (hl : law ≤ 3) (hs : S.1 0 = nI law) (xx yy : Int32) : vs_FL g yX11_part cX11_part 3 (some .long) 5 [vv_r g 0, .int xx, .int yy] S (if (((decide (0 ≤ xx) && decide (xx ≤ 999999)) && (decide (0 ≤ yy) && decide (yy ≤ 999999))) && decide (2 ≤ (xx.toNatClampNeg * 1000000 + yy.toNatClampNeg))) = true then lN (np_xl (xx.toNatClampNeg * 1000000 + yy.toNatClampNeg)) else -9223372036854775808) S := by
  refine vs_ofL (lv := [_, _, _]) mb_X11_part (Nat.le_of_ble_eq_true rfl) rfl (fun x C F => ?_)
  refine vv_iload_n C dX11_part_0 rfl ?_
  refine vv_iload_n C dX11_part_1 rfl ?_
  refine vs_calsiF C dX11_part_2 (c_X11_isBookSum g S _ _) mb_X11_isBookSum ms_X11_isBookSum lk_X11_106 rfl rfl ⟨Nat.le_of_ble_eq_true rfl, Nat.le_of_ble_eq_true rfl, Nat.le_of_ble_eq_true rfl⟩ ?_
  refine vv_if_eq (tgt := 20) C dX11_part_5 (by decide) (fun q5 => ?_) (fun q5 => ?_)
  · have hw : ((decide (0 ≤ xx) && decide (xx ≤ 999999)) && (decide (0 ≤ yy) && decide (yy ≤ 999999))) = false := vs_b0.mp q5
    refine vv_ldc2 C dX11_part_20 kc_X11_122 ?_
    exact vs_lret C F dX11_part_23 rfl ⟨by rw [hw]; first | rfl | (rw [← en2, decide_eq_false h2]; rfl), rfl⟩
  · have hw : ((decide (0 ≤ xx) && decide (xx ≤ 999999)) && (decide (0 ≤ yy) && decide (yy ≤ 999999))) = true := vs_b1.mp q5
    obtain ⟨n, hn, en, en2⟩ := vs_book hw
    refine vv_iload_n C dX11_part_8 rfl ?_
    refine vv_iload_n C dX11_part_9 rfl ?_
    refine vs_calslF C dX11_part_10 (c_X11_bookSum g S _ _) mb_X11_bookSum ms_X11_bookSum lk_X11_110 rfl rfl ⟨Nat.le_of_ble_eq_true rfl, Nat.le_of_ble_eq_true rfl, Nat.le_of_ble_eq_true rfl⟩ ?_
    refine vs_eql (v9 := lN n) (en) ?_
    refine vv_ldc2 C dX11_part_13 kc_X11_118 ?_
    refine vv_lcmp C dX11_part_16 ?_
    refine vv_if_ge (tgt := 24) C dX11_part_17 (by decide) (fun q17 => ?_) (fun q17 => ?_)
    · have h2 : 2 ≤ n := by rw [lg_cmp_ge, xn_lit64, xn_lle (by omega) (by omega)] at q17; exact q17
      refine vv_aload_n C dX11_part_24 rfl ?_
      refine gf_X11_numbers C dX11_part_25 fg_X11_10 ?_
      refine vv_iload_n C dX11_part_28 rfl ?_
      refine vv_iload_n C dX11_part_29 rfl ?_
      refine vs_calslF C dX11_part_30 (c_X11_bookSum g S _ _) mb_X11_bookSum ms_X11_bookSum lk_X11_110 rfl rfl ⟨Nat.le_of_ble_eq_true rfl, Nat.le_of_ble_eq_true rfl, Nat.le_of_ble_eq_true rfl⟩ ?_
      refine vs_eql (v9 := lN n) (en) ?_
      refine vs_callF C dX11_part_33 (c_X3_leastPart g S hS n h2 (by omega)) mb_X3_leastPart mv_X3_leastPart lk_X11_124 ce_1 rfl rfl rfl rfl ⟨Nat.le_of_ble_eq_true rfl, Nat.le_of_ble_eq_true rfl, Nat.le_of_ble_eq_true rfl⟩ ?_
      exact vs_lret C F dX11_part_36 rfl ⟨by rw [hw, ← en2, decide_eq_true h2, if_pos vs_tt], rfl⟩
    · have h2 : ¬ 2 ≤ n := fun z => q17 (by rw [lg_cmp_ge, xn_lit64, xn_lle (by omega) (by omega)]; exact z)
      refine vv_ldc2 C dX11_part_20 kc_X11_122 ?_
      exact vs_lret C F dX11_part_23 rfl ⟨by rw [hw]; first | rfl | (rw [← en2, decide_eq_false h2]; rfl), rfl⟩
