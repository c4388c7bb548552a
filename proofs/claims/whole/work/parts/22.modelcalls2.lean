theorem lw_near2 {a b v : Int32} (ha : a < 0 ↔ a = -2) (hb : b < 0 ↔ b = -2) : (if a < 0 then b else if b < 0 then a else if a - v < v - b then a else b) = lw_near a b v := by
  unfold lw_near
  by_cases h1 : a = -2
  · rw [if_pos (ha.mpr h1), if_pos h1, h1]
    by_cases h2 : b < 0
    · rw [hb.mp h2]; rfl
    · rw [if_pos (Int32.lt_of_lt_of_le (by decide) (Int32.not_lt.mp h2))]
  · rw [if_neg (fun z => h1 (ha.mp z)), if_neg h1]
    by_cases h2 : b = -2
    · rw [if_pos (hb.mpr h2), if_pos h2, if_neg]
      intro z
      exact h1 (ha.mp (Int32.lt_trans z (by rw [h2]; decide)))
    · rw [if_neg (fun z => h2 (hb.mp z)), if_neg h2]
theorem xn_w2 {v : Int32} (h : vs_w v 0 2 = true) (h2 : 2 ≤ v) : v = 2 := Int32.le_antisymm (vs_wT h).2 h2
set_option maxRecDepth 20000 in
theorem c_X12_next (g : vv_G) (S : vs_S) (hfl : vv_fl g = false) (hS : nm_ok S) (law : Nat) (hl : law ≤ 3) (hs : S.1 23 = nI law) (n what : Int32) : vs_KI g yX12_next cX12_next 5 (some .int) 7 [vv_r g 65, .int n, .int what] S (fun r S1 => r = (if (vs_w n 0 1000000000 && vs_w what 0 2) = true then (if what = 2 then lw_near (lw_next (np_lm law) n.toNatClampNeg) (lw_dn (np_lm law) n.toNatClampNeg) n else if what = 0 then lw_next (np_lm law) n.toNatClampNeg else lw_dn (np_lm law) n.toNatClampNeg) else -1) ∧ nm_to S S1) := by
  have t := nm_T.rf hS hs
  refine vs_ofI (lv := [_, _, _, _, _]) mb_X12_next (Nat.le_of_ble_eq_true rfl) rfl (fun x C F => ?_)
  refine vv_iload_n C dX12_next_0 rfl ?_
  refine vv_i2l C dX12_next_1 ?_
  refine vv_lconst C dX12_next_2 lc_0 ?_
  refine vs_eql (v9 := (0 : Int32).toInt64) (by decide +kernel) ?_
  refine vv_ldc2 C dX12_next_3 kc_X12_145 ?_
  refine vs_eql (v9 := (1000000000 : Int32).toInt64) (by decide +kernel) ?_
  refine vs_calsiF C dX12_next_6 (c_X12_within g S _ _ _) mb_X12_within ms_X12_within lk_X12_123 rfl rfl ⟨Nat.le_of_ble_eq_true rfl, Nat.le_of_ble_eq_true rfl, Nat.le_of_ble_eq_true rfl⟩ ?_
  refine vv_if_eq (tgt := 24) C dX12_next_9 (by decide) (fun q9 => ?_) (fun q9 => ?_)
  · have w1 : vs_w n 0 1000000000 = false := vs_b0.mp q9
    refine vv_iconst C dX12_next_24 ic_m1 ?_
    exact vs_iret C F dX12_next_25 rfl ⟨by first | (rw [w1]; rfl) | (rw [w2, Bool.and_false]; rfl), nm_to.rf hS⟩
  · have w1 : vs_w n 0 1000000000 = true := vs_b1.mp q9
    refine vv_iload_n C dX12_next_12 rfl ?_
    refine vv_i2l C dX12_next_13 ?_
    refine vv_lconst C dX12_next_14 lc_0 ?_
    refine vs_eql (v9 := (0 : Int32).toInt64) (by decide +kernel) ?_
    refine vv_ldc2 C dX12_next_15 kc_X12_90 ?_
    refine vs_eql (v9 := (2 : Int32).toInt64) (by decide +kernel) ?_
    refine vs_calsiF C dX12_next_18 (c_X12_within g S _ _ _) mb_X12_within ms_X12_within lk_X12_123 rfl rfl ⟨Nat.le_of_ble_eq_true rfl, Nat.le_of_ble_eq_true rfl, Nat.le_of_ble_eq_true rfl⟩ ?_
    refine vv_if_ne (tgt := 26) C dX12_next_21 (by decide) (fun q21 => ?_) (fun q21 => ?_)
    · have w2 : vs_w what 0 2 = true := vs_b1.mp q21
      refine vv_iload_n C dX12_next_26 rfl ?_
      refine vv_iconst C dX12_next_27 ic_2 ?_
      refine vv_icmp_ge (tgt := 49) C dX12_next_28 (by decide) (fun q28 => ?_) (fun q28 => ?_)
      · have hw2 : what = 2 := xn_w2 w2 q28
        have hwt : (vs_w n 0 1000000000 && vs_w what 0 2) = true := by rw [w1, w2]; rfl
        refine vv_aload_n C dX12_next_49 rfl ?_
        refine vv_iload_n C dX12_next_50 rfl ?_
        refine vs_calli C dX12_next_51 (c_X12_nextOf g S hfl t.1.2 law hl t.2 _) mb_X12_nextOf mv_X12_nextOf lk_X12_197 ce_65 rfl rfl rfl rfl ⟨Nat.le_of_ble_eq_true rfl, Nat.le_of_ble_eq_true rfl, Nat.le_of_ble_eq_true rfl⟩ (fun r51 S51 p51 => ?_)
        obtain ⟨e51, u51⟩ := p51
        subst e51
        have t51 := t.go u51
        refine vw_istore_n (lv9 := [_, _, _, _, _]) C dX12_next_54 (by decide) rfl rfl ?_
        refine vv_aload_n C dX12_next_55 rfl ?_
        refine vv_iload_n C dX12_next_56 rfl ?_
        refine vs_calli C dX12_next_57 (c_X12_lastOf g S51 hfl t51.1.2 law hl t51.2 _) mb_X12_lastOf mv_X12_lastOf lk_X12_200 ce_65 rfl rfl rfl rfl ⟨Nat.le_of_ble_eq_true rfl, Nat.le_of_ble_eq_true rfl, Nat.le_of_ble_eq_true rfl⟩ (fun r57 S57 p57 => ?_)
        obtain ⟨e57, u57⟩ := p57
        subst e57
        have t57 := t51.go u57
        have hz1 := lw_nextn (P := np_lm law) (m := n.toNatClampNeg)
        have hz2 := lw_dnn (P := np_lm law) n.toNatClampNeg lw_cln
        generalize lw_next (np_lm law) n.toNatClampNeg = ca at hz1 F
        generalize lw_dn (np_lm law) n.toNatClampNeg = cb at hz2 F
        refine vw_istore (lv9 := [_, _, _, _, _]) C dX12_next_60 (by decide) rfl rfl ?_
        refine vv_iload_n C dX12_next_62 rfl ?_
        refine vv_if_lt (tgt := 71) C dX12_next_63 (by decide) (fun q63 => ?_) (fun q63 => ?_)
        · refine vv_iload_n C dX12_next_71 rfl ?_
          refine vv_if_ge (tgt := 80) C dX12_next_72 (by decide) (fun q72 => ?_) (fun q72 => ?_)
          · refine vv_iload_n C dX12_next_80 rfl ?_
            first
            | exact vs_iret C F dX12_next_81 rfl ⟨by rw [if_pos hwt, if_pos hw2, ← lw_near2 hz1 hz2, if_pos (Int32.not_le.mp q72)], t57.1⟩
            | exact vs_iret C F dX12_next_81 rfl ⟨by rw [if_pos hwt, if_pos hw2, ← lw_near2 hz1 hz2, if_neg (Int32.not_lt.mpr q72), if_pos (Int32.not_le.mp q68)], t57.1⟩
            | exact absurd q63 (Int32.not_lt.mpr q72)
          · refine vv_iload C dX12_next_75 rfl ?_
            refine vv_goto (tgt := 81) C dX12_next_77 (by decide) ?_
            first
            | exact vs_iret C F dX12_next_81 rfl ⟨by rw [if_pos hwt, if_pos hw2, ← lw_near2 hz1 hz2, if_pos (Int32.not_le.mp q72)], t57.1⟩
            | exact vs_iret C F dX12_next_81 rfl ⟨by rw [if_pos hwt, if_pos hw2, ← lw_near2 hz1 hz2, if_neg (Int32.not_lt.mpr q72), if_pos (Int32.not_le.mp q68)], t57.1⟩
            | exact absurd q63 (Int32.not_lt.mpr q72)
        · refine vv_iload C dX12_next_66 rfl ?_
          refine vv_if_ge (tgt := 82) C dX12_next_68 (by decide) (fun q68 => ?_) (fun q68 => ?_)
          · refine vv_iload_n C dX12_next_82 rfl ?_
            refine vv_iload_n C dX12_next_83 rfl ?_
            refine vv_isub C dX12_next_84 ?_
            refine vv_iload_n C dX12_next_85 rfl ?_
            refine vv_iload C dX12_next_86 rfl ?_
            refine vv_isub C dX12_next_88 ?_
            refine vv_icmp_ge (tgt := 96) C dX12_next_89 (by decide) (fun q89 => ?_) (fun q89 => ?_)
            · refine vv_iload C dX12_next_96 rfl ?_
              first
              | exact vs_iret C F dX12_next_98 rfl ⟨by rw [if_pos hwt, if_pos hw2, ← lw_near2 hz1 hz2, if_neg q63, if_neg (Int32.not_lt.mpr q68), if_pos (Int32.not_le.mp q89)], t57.1⟩
              | exact vs_iret C F dX12_next_98 rfl ⟨by rw [if_pos hwt, if_pos hw2, ← lw_near2 hz1 hz2, if_neg q63, if_neg (Int32.not_lt.mpr q68), if_neg (Int32.not_lt.mpr q89)], t57.1⟩
            · refine vv_iload_n C dX12_next_92 rfl ?_
              refine vv_goto (tgt := 98) C dX12_next_93 (by decide) ?_
              first
              | exact vs_iret C F dX12_next_98 rfl ⟨by rw [if_pos hwt, if_pos hw2, ← lw_near2 hz1 hz2, if_neg q63, if_neg (Int32.not_lt.mpr q68), if_pos (Int32.not_le.mp q89)], t57.1⟩
              | exact vs_iret C F dX12_next_98 rfl ⟨by rw [if_pos hwt, if_pos hw2, ← lw_near2 hz1 hz2, if_neg q63, if_neg (Int32.not_lt.mpr q68), if_neg (Int32.not_lt.mpr q89)], t57.1⟩
          · refine vv_iload_n C dX12_next_71 rfl ?_
            refine vv_if_ge (tgt := 80) C dX12_next_72 (by decide) (fun q72 => ?_) (fun q72 => ?_)
            · refine vv_iload_n C dX12_next_80 rfl ?_
              first
              | exact vs_iret C F dX12_next_81 rfl ⟨by rw [if_pos hwt, if_pos hw2, ← lw_near2 hz1 hz2, if_pos (Int32.not_le.mp q72)], t57.1⟩
              | exact vs_iret C F dX12_next_81 rfl ⟨by rw [if_pos hwt, if_pos hw2, ← lw_near2 hz1 hz2, if_neg (Int32.not_lt.mpr q72), if_pos (Int32.not_le.mp q68)], t57.1⟩
              | exact absurd q63 (Int32.not_lt.mpr q72)
            · refine vv_iload C dX12_next_75 rfl ?_
              refine vv_goto (tgt := 81) C dX12_next_77 (by decide) ?_
              first
              | exact vs_iret C F dX12_next_81 rfl ⟨by rw [if_pos hwt, if_pos hw2, ← lw_near2 hz1 hz2, if_pos (Int32.not_le.mp q72)], t57.1⟩
              | exact vs_iret C F dX12_next_81 rfl ⟨by rw [if_pos hwt, if_pos hw2, ← lw_near2 hz1 hz2, if_neg (Int32.not_lt.mpr q72), if_pos (Int32.not_le.mp q68)], t57.1⟩
              | exact absurd q63 (Int32.not_lt.mpr q72)
      · have hw2 : ¬ what = 2 := fun z => q28 (by rw [z]; decide)
        have hwt : (vs_w n 0 1000000000 && vs_w what 0 2) = true := by rw [w1, w2]; rfl
        refine vv_iload_n C dX12_next_31 rfl ?_
        refine vv_if_ne (tgt := 43) C dX12_next_32 (by decide) (fun q32 => ?_) (fun q32 => ?_)
        · refine vv_aload_n C dX12_next_43 rfl ?_
          refine vv_iload_n C dX12_next_44 rfl ?_
          refine vs_calli C dX12_next_45 (c_X12_lastOf g S hfl t.1.2 law hl t.2 _) mb_X12_lastOf mv_X12_lastOf lk_X12_200 ce_65 rfl rfl rfl rfl ⟨Nat.le_of_ble_eq_true rfl, Nat.le_of_ble_eq_true rfl, Nat.le_of_ble_eq_true rfl⟩ (fun r45 S45 p45 => ?_)
          obtain ⟨e45, u45⟩ := p45
          subst e45
          first
          | exact vs_iret C F dX12_next_48 rfl ⟨by rw [if_pos hwt, if_neg hw2, if_pos q32], u37⟩
          | exact vs_iret C F dX12_next_48 rfl ⟨by rw [if_pos hwt, if_neg hw2, if_neg q32], u45⟩
        · refine vv_aload_n C dX12_next_35 rfl ?_
          refine vv_iload_n C dX12_next_36 rfl ?_
          refine vs_calli C dX12_next_37 (c_X12_nextOf g S hfl t.1.2 law hl t.2 _) mb_X12_nextOf mv_X12_nextOf lk_X12_197 ce_65 rfl rfl rfl rfl ⟨Nat.le_of_ble_eq_true rfl, Nat.le_of_ble_eq_true rfl, Nat.le_of_ble_eq_true rfl⟩ (fun r37 S37 p37 => ?_)
          obtain ⟨e37, u37⟩ := p37
          subst e37
          refine vv_goto (tgt := 48) C dX12_next_40 (by decide) ?_
          first
          | exact vs_iret C F dX12_next_48 rfl ⟨by rw [if_pos hwt, if_neg hw2, if_pos q32], u37⟩
          | exact vs_iret C F dX12_next_48 rfl ⟨by rw [if_pos hwt, if_neg hw2, if_neg q32], u45⟩
    · have w2 : vs_w what 0 2 = false := vs_b0.mp q21
      refine vv_iconst C dX12_next_24 ic_m1 ?_
      exact vs_iret C F dX12_next_25 rfl ⟨by first | (rw [w1]; rfl) | (rw [w2, Bool.and_false]; rfl), nm_to.rf hS⟩
theorem vs_end3 {x y : Int32} (h : ((decide (0 ≤ x) && decide (x ≤ y)) && decide (y ≤ 100000)) = true) : ∃ a b : Nat, a ≤ b ∧ b ≤ 100000 ∧ x = nI a ∧ y = nI b := by
  rw [← vs_ends] at h
  exact vs_end2 h
set_option maxRecDepth 20000 in
theorem c_X12_many (g : vv_G) (S : vs_S) (hfl : vv_fl g = false) (hS : nm_ok S) (law : Nat) (hl : law ≤ 3) (hs : S.1 23 = nI law) (xx yy : Int32) : vs_KI g yX12_many cX12_many 5 (some .int) 5 [vv_r g 65, .int xx, .int yy] S (fun r S1 => r = (if ((decide (0 ≤ xx) && decide (xx ≤ yy)) && decide (yy ≤ 100000)) = true then nI (lw_mn (np_lm law) (yy.toNatClampNeg + 1 - xx.toNatClampNeg) xx.toNatClampNeg) else -1) ∧ nm_to S S1) := by
  refine vs_ofI (lv := [_, _, _, _, _]) mb_X12_many (Nat.le_of_ble_eq_true rfl) rfl (fun x C F => ?_)
  refine vv_iload_n C dX12_many_0 rfl ?_
  refine vv_iload_n C dX12_many_1 rfl ?_
  refine vs_calsiF C dX12_many_2 (c_X12_areEnds g S _ _) mb_X12_areEnds ms_X12_areEnds lk_X12_204 rfl rfl ⟨Nat.le_of_ble_eq_true rfl, Nat.le_of_ble_eq_true rfl, Nat.le_of_ble_eq_true rfl⟩ ?_
  refine vv_if_ne (tgt := 10) C dX12_many_5 (by decide) (fun q5 => ?_) (fun q5 => ?_)
  · have hw : ((decide (0 ≤ xx) && decide (xx ≤ yy)) && decide (yy ≤ 100000)) = true := vs_b1.mp q5
    obtain ⟨a, b, hab, hb, ea, eb⟩ := vs_end3 hw
    subst ea eb
    have loop : ∀ (f m c : Nat) (S2 : vs_S), nm_T law S S2 → m + f = b + 1 → c + lw_mn (np_lm law) f m = lw_mn (np_lm law) (b + 1 - a) a → vv_V g x 5 0 0 15 [some (vv_r g 65), some (.int (nI a)), some (.int (nI b)), some (.int (nI c)), some (.int (nI m))] [] (vs_cells g S2) := by
      intro f
      induction f with
      | zero =>
        intro m c S2 t h1 he
        refine vv_iload C dX12_many_15 rfl ?_
        refine vv_iload_n C dX12_many_17 rfl ?_
        refine vv_icmp_gt (tgt := 45) C dX12_many_18 (by decide) (fun q18 => ?_) (fun q18 => ?_)
        · refine vv_iload_n C dX12_many_45 rfl ?_
          exact vs_iret C F dX12_many_46 rfl ⟨by rw [if_pos hw, xn_cl (by omega), xn_cl (by omega), ← he]; rfl, t.1⟩
        · exact absurd (by rw [xn_lt (by omega) (by omega)]; omega) q18
      | succ f ih =>
        intro m c S2 t h1 he
        rw [lw_mn1 (f := f) (m := m)] at he
        have go : ∀ (c d : Nat) (S3 : vs_S), nm_T law S S3 → (c + d) + lw_mn (np_lm law) f (m + 1) = lw_mn (np_lm law) (b + 1 - a) a → vv_V g x 5 0 0 37 [some (vv_r g 65), some (.int (nI a)), some (.int (nI b)), some (.int (nI c)), some (.int (nI m))] [.int (nI d), .int (nI c)] (vs_cells g S3) := by
          intro c d S3 t3 he
          refine vv_iadd C dX12_many_37 ?_
          refine vs_eqi (v9 := nI (c + d)) (nI_add c d) ?_
          refine vw_istore_n (lv9 := [_, _, _, _, _]) C dX12_many_38 (by decide) rfl rfl ?_
          refine vw_iinc (lv9 := [_, _, _, _, _]) C dX12_many_39 rfl ic_1 (by decide) rfl rfl ?_
          refine vv_goto (tgt := 15) C dX12_many_42 (by decide) ?_
          rw [nI_1]
          exact ih (m + 1) (c + d) S3 t3 (by omega) he
        refine vv_iload C dX12_many_15 rfl ?_
        refine vv_iload_n C dX12_many_17 rfl ?_
        refine vv_icmp_gt (tgt := 45) C dX12_many_18 (by decide) (fun q18 => ?_) (fun q18 => ?_)
        · exact absurd q18 (by rw [xn_lt (by omega) (by omega)]; omega)
        · refine vv_iload_n C dX12_many_21 rfl ?_
          refine vv_aload_n C dX12_many_22 rfl ?_
          refine vv_iload C dX12_many_23 rfl ?_
          refine vv_i2l C dX12_many_25 ?_
          refine vs_eql (v9 := lN m) (xn_i2l (by omega)) ?_
          refine vs_calli C dX12_many_26 (c_X12_isLawful g S2 hfl t.1.2 law hl t.2 m (by omega)) mb_X12_isLawful mv_X12_isLawful lk_X12_135 ce_65 rfl rfl rfl rfl ⟨Nat.le_of_ble_eq_true rfl, Nat.le_of_ble_eq_true rfl, Nat.le_of_ble_eq_true rfl⟩ (fun r26 S26 p26 => ?_)
          obtain ⟨e26, u26⟩ := p26
          subst e26
          have t26 := t.go u26
          refine vv_if_eq (tgt := 36) C dX12_many_29 (by decide) (fun q29 => ?_) (fun q29 => ?_)
          · refine vv_iconst C dX12_many_36 ic_0 ?_
            first
            | exact go c 0 S26 t26 (by rw [← he, vs_b0.mp q29, if_neg (by decide)]; omega)
            | exact go c 1 S26 t26 (by rw [← he, vs_b1.mp q29, if_pos rfl]; omega)
          · refine vv_iconst C dX12_many_32 ic_1 ?_
            refine vv_goto (tgt := 37) C dX12_many_33 (by decide) ?_
            first
            | exact go c 0 S26 t26 (by rw [← he, vs_b0.mp q29, if_neg (by decide)]; omega)
            | exact go c 1 S26 t26 (by rw [← he, vs_b1.mp q29, if_pos rfl]; omega)
    refine vv_iconst C dX12_many_10 ic_0 ?_
    refine vw_istore_n (lv9 := [_, _, _, _, _]) C dX12_many_11 (by decide) rfl rfl ?_
    refine vv_iload_n C dX12_many_12 rfl ?_
    refine vw_istore (lv9 := [_, _, _, _, _]) C dX12_many_13 (by decide) rfl rfl ?_
    exact loop (b + 1 - a) a 0 S (nm_T.rf hS hs) (by omega) (by omega)
  · refine vv_iconst C dX12_many_8 ic_m1 ?_
    exact vs_iret C F dX12_many_9 rfl ⟨by rw [show ((decide (0 ≤ xx) && decide (xx ≤ yy)) && decide (yy ≤ 100000)) = false from vs_b0.mp q5]; rfl, nm_to.rf hS⟩
def lw_om (l : Option Nat) : Int32 := match l with
  | none => -1
  | some z => nI z
theorem lw_omN {l : Option Nat} (h : lw_om l < 0) (hl : ∀ z, l = some z → z ≤ 100000) : l = none := by
  cases l with
  | none => rfl
  | some z =>
    have h1 := hl z rfl
    exact absurd h (xn_neg (by omega))
theorem lw_omS {l : Option Nat} (h : ¬ lw_om l < 0) : ∃ z, l = some z := by
  cases l with
  | none => exact absurd (by show (-1 : Int32) < 0; decide) h
  | some z => exact ⟨z, rfl⟩
set_option maxRecDepth 20000 in
theorem c_X12_gap (g : vv_G) (S : vs_S) (hfl : vv_fl g = false) (hS : nm_ok S) (law : Nat) (hl : law ≤ 3) (hs : S.1 23 = nI law) (xx yy what : Int32) : vs_KI g yX12_gap cX12_gap 8 (some .int) 5 [vv_r g 65, .int xx, .int yy, .int what] S (fun r S1 => r = (if (((decide (0 ≤ xx) && decide (xx ≤ yy)) && decide (yy ≤ 100000)) && vs_w what 0 1) = true then (if what = 0 then (lw_gp (np_lm law) (yy.toNatClampNeg + 1 - xx.toNatClampNeg) xx.toNatClampNeg none (-2) (-2)).1 else (lw_gp (np_lm law) (yy.toNatClampNeg + 1 - xx.toNatClampNeg) xx.toNatClampNeg none (-2) (-2)).2) else -1) ∧ nm_to S S1) := by
  refine vs_ofI (lv := [_, _, _, _, _, _, _, _]) mb_X12_gap (Nat.le_of_ble_eq_true rfl) rfl (fun x C F => ?_)
  refine vv_iload_n C dX12_gap_0 rfl ?_
  refine vv_iload_n C dX12_gap_1 rfl ?_
  refine vs_calsiF C dX12_gap_2 (c_X12_areEnds g S _ _) mb_X12_areEnds ms_X12_areEnds lk_X12_204 rfl rfl ⟨Nat.le_of_ble_eq_true rfl, Nat.le_of_ble_eq_true rfl, Nat.le_of_ble_eq_true rfl⟩ ?_
  refine vv_if_eq (tgt := 18) C dX12_gap_5 (by decide) (fun q5 => ?_) (fun q5 => ?_)
  · have w1 : ((decide (0 ≤ xx) && decide (xx ≤ yy)) && decide (yy ≤ 100000)) = false := vs_b0.mp q5
    refine vv_iconst C dX12_gap_18 ic_m1 ?_
    exact vs_iret C F dX12_gap_19 rfl ⟨by first | (rw [w1]; rfl) | (rw [w2, Bool.and_false]; rfl), nm_to.rf hS⟩
  · have w1 : ((decide (0 ≤ xx) && decide (xx ≤ yy)) && decide (yy ≤ 100000)) = true := vs_b1.mp q5
    refine vv_iload_n C dX12_gap_8 rfl ?_
    refine vv_i2l C dX12_gap_9 ?_
    refine vv_lconst C dX12_gap_10 lc_0 ?_
    refine vs_eql (v9 := (0 : Int32).toInt64) (by decide +kernel) ?_
    refine vv_lconst C dX12_gap_11 lc_1 ?_
    refine vs_eql (v9 := (1 : Int32).toInt64) (by decide +kernel) ?_
    refine vs_calsiF C dX12_gap_12 (c_X12_within g S _ _ _) mb_X12_within ms_X12_within lk_X12_123 rfl rfl ⟨Nat.le_of_ble_eq_true rfl, Nat.le_of_ble_eq_true rfl, Nat.le_of_ble_eq_true rfl⟩ ?_
    refine vv_if_ne (tgt := 20) C dX12_gap_15 (by decide) (fun q15 => ?_) (fun q15 => ?_)
    · have w2 : vs_w what 0 1 = true := vs_b1.mp q15
      obtain ⟨a, b, hab, hb, ea, eb⟩ := vs_end3 w1
      subst ea eb
      have hww : (((decide (0 ≤ nI a) && decide (nI a ≤ nI b)) && decide (nI b ≤ 100000)) && vs_w what 0 1) = true := by rw [w1, w2]; rfl
      have loop : ∀ (f m : Nat) (l : Option Nat) (u w : Int32) (S2 : vs_S), nm_T law S S2 → m + f = b + 1 → (∀ z, l = some z → z < m) → lw_gp (np_lm law) f m l u w = lw_gp (np_lm law) (b + 1 - a) a none (-2) (-2) → vv_V g x 8 0 0 34 [some (vv_r g 65), some (.int (nI a)), some (.int (nI b)), some (.int what), some (.int (lw_om l)), some (.int u), some (.int w), some (.int (nI m))] [] (vs_cells g S2) := by
        intro f
        induction f with
        | zero =>
          intro m l u w S2 t h1 h2 he
          refine vv_iload C dX12_gap_34 rfl ?_
          refine vv_iload_n C dX12_gap_36 rfl ?_
          refine vv_icmp_gt (tgt := 89) C dX12_gap_37 (by decide) (fun q37 => ?_) (fun q37 => ?_)
          · refine vv_iload_n C dX12_gap_89 rfl ?_
            refine vv_if_ne (tgt := 98) C dX12_gap_90 (by decide) (fun q90 => ?_) (fun q90 => ?_)
            · refine vv_iload C dX12_gap_98 rfl ?_
              exact vs_iret C F dX12_gap_100 rfl ⟨by rw [if_pos hww, xn_cl (by omega), xn_cl (by omega), ← he]; (first | rw [if_pos q90] | rw [if_neg q90]); rfl, t.1⟩
            · refine vv_iload C dX12_gap_93 rfl ?_
              refine vv_goto (tgt := 100) C dX12_gap_95 (by decide) ?_
              exact vs_iret C F dX12_gap_100 rfl ⟨by rw [if_pos hww, xn_cl (by omega), xn_cl (by omega), ← he]; (first | rw [if_pos q90] | rw [if_neg q90]); rfl, t.1⟩
          · exact absurd (by rw [xn_lt (by omega) (by omega)]; omega) q37
        | succ f ih =>
          intro m l u w S2 t h1 h2 he
          have go : ∀ (l : Option Nat) (u w : Int32) (S3 : vs_S), nm_T law S S3 → (∀ z, l = some z → z < m + 1) → lw_gp (np_lm law) f (m + 1) l u w = lw_gp (np_lm law) (b + 1 - a) a none (-2) (-2) → vv_V g x 8 0 0 83 [some (vv_r g 65), some (.int (nI a)), some (.int (nI b)), some (.int what), some (.int (lw_om l)), some (.int u), some (.int w), some (.int (nI m))] [] (vs_cells g S3) := by
            intro l u w S3 t3 h2 he
            refine vw_iinc (lv9 := [_, _, _, _, _, _, _, _]) C dX12_gap_83 rfl ic_1 (by decide) rfl rfl ?_
            refine vv_goto (tgt := 34) C dX12_gap_86 (by decide) ?_
            rw [nI_1]
            exact ih (m + 1) l u w S3 t3 (by omega) h2 he
          rw [lw_gp1 (f := f) (m := m)] at he
          refine vv_iload C dX12_gap_34 rfl ?_
          refine vv_iload_n C dX12_gap_36 rfl ?_
          refine vv_icmp_gt (tgt := 89) C dX12_gap_37 (by decide) (fun q37 => ?_) (fun q37 => ?_)
          · exact absurd q37 (by rw [xn_lt (by omega) (by omega)]; omega)
          · refine vv_aload_n C dX12_gap_40 rfl ?_
            refine vv_iload C dX12_gap_41 rfl ?_
            refine vv_i2l C dX12_gap_43 ?_
            refine vs_eql (v9 := lN m) (xn_i2l (by omega)) ?_
            refine vs_calli C dX12_gap_44 (c_X12_isLawful g S2 hfl t.1.2 law hl t.2 m (by omega)) mb_X12_isLawful mv_X12_isLawful lk_X12_135 ce_65 rfl rfl rfl rfl ⟨Nat.le_of_ble_eq_true rfl, Nat.le_of_ble_eq_true rfl, Nat.le_of_ble_eq_true rfl⟩ (fun r44 S44 p44 => ?_)
            obtain ⟨e44, u44⟩ := p44
            subst e44
            have t44 := t.go u44
            refine vv_if_ne (tgt := 53) C dX12_gap_47 (by decide) (fun q47 => ?_) (fun q47 => ?_)
            · rw [vs_b1.mp q47, if_pos rfl] at he
              refine vv_iload C dX12_gap_53 rfl ?_
              refine vv_if_lt (tgt := 79) C dX12_gap_55 (by decide) (fun q55 => ?_) (fun q55 => ?_)
              · have hl0 := lw_omN q55 (fun z hz => by have := h2 z hz; omega)
                subst hl0
                refine vv_iload C dX12_gap_79 rfl ?_
                refine vw_istore (lv9 := [_, _, _, _, _, _, _, _]) C dX12_gap_81 (by decide) rfl rfl ?_
                exact go (some m) _ _ S44 t44 (fun z hz => by cases hz; omega) he
              · obtain ⟨z, hz⟩ := lw_omS q55
                subst hz
                have hzm := h2 z rfl
                refine vv_iload C dX12_gap_58 rfl ?_
                refine vv_iload C dX12_gap_60 rfl ?_
                refine vv_isub C dX12_gap_62 ?_
                refine vs_eqi (v9 := nI (m - z)) (xn_sub (by omega)) ?_
                refine vv_iload C dX12_gap_63 rfl ?_
                refine vv_icmp_le (tgt := 79) C dX12_gap_65 (by decide) (fun q65 => ?_) (fun q65 => ?_)
                · have q65 := Int32.not_lt.mpr q65
                  dsimp only at he
                  rw [if_neg q65] at he
                  refine vv_iload C dX12_gap_79 rfl ?_
                  refine vw_istore (lv9 := [_, _, _, _, _, _, _, _]) C dX12_gap_81 (by decide) rfl rfl ?_
                  exact go (some m) _ _ S44 t44 (fun z hz => by cases hz; omega) he
                · have q65 := Int32.not_le.mp q65
                  dsimp only at he
                  rw [if_pos q65] at he
                  refine vv_iload C dX12_gap_68 rfl ?_
                  refine vv_iload C dX12_gap_70 rfl ?_
                  refine vv_isub C dX12_gap_72 ?_
                  refine vs_eqi (v9 := nI (m - z)) (xn_sub (by omega)) ?_
                  refine vw_istore (lv9 := [_, _, _, _, _, _, _, _]) C dX12_gap_73 (by decide) rfl rfl ?_
                  refine vv_iload C dX12_gap_75 rfl ?_
                  refine vs_eqi (v9 := nI z) (rfl) ?_
                  refine vw_istore (lv9 := [_, _, _, _, _, _, _, _]) C dX12_gap_77 (by decide) rfl rfl ?_
                  refine vv_iload C dX12_gap_79 rfl ?_
                  refine vw_istore (lv9 := [_, _, _, _, _, _, _, _]) C dX12_gap_81 (by decide) rfl rfl ?_
                  exact go (some m) _ _ S44 t44 (fun z hz => by cases hz; omega) he
            · refine vv_goto (tgt := 83) C dX12_gap_50 (by decide) ?_
              exact go l u w S44 t44 (fun z hz => by have := h2 z hz; omega) (by rw [vs_b0.mp q47, if_neg (by decide)] at he; exact he)
      refine vv_iconst C dX12_gap_20 ic_m1 ?_
      refine vw_istore (lv9 := [_, _, _, _, _, _, _, _]) C dX12_gap_21 (by decide) rfl rfl ?_
      refine vv_bipush C dX12_gap_23 bp_m2 ?_
      refine vw_istore (lv9 := [_, _, _, _, _, _, _, _]) C dX12_gap_25 (by decide) rfl rfl ?_
      refine vv_bipush C dX12_gap_27 bp_m2 ?_
      refine vw_istore (lv9 := [_, _, _, _, _, _, _, _]) C dX12_gap_29 (by decide) rfl rfl ?_
      refine vv_iload_n C dX12_gap_31 rfl ?_
      refine vw_istore (lv9 := [_, _, _, _, _, _, _, _]) C dX12_gap_32 (by decide) rfl rfl ?_
      exact loop (b + 1 - a) a none (-2) (-2) S (nm_T.rf hS hs) (by omega) (fun z hz => by cases hz) rfl
    · have w2 : vs_w what 0 1 = false := vs_b0.mp q15
      refine vv_iconst C dX12_gap_18 ic_m1 ?_
      exact vs_iret C F dX12_gap_19 rfl ⟨by first | (rw [w1]; rfl) | (rw [w2, Bool.and_false]; rfl), nm_to.rf hS⟩
set_option maxRecDepth 20000 in
theorem c_X12_rent (g : vv_G) (S : vs_S) (hfl : vv_fl g = false) (hS : nm_ok S) (law : Nat) (hl : law ≤ 3) (hs : S.1 23 = nI law) (rr years : Int32) : vs_KI g yX12_rent cX12_rent 5 (some .int) 6 [vv_r g 65, .int rr, .int years] S (fun r S1 => r = (if (vs_w rr 2 10000 && vs_w years 1 30) = true then lw_rent (np_lm law) years.toNatClampNeg rr else -1) ∧ nm_to S S1) := by
  refine vs_ofI (lv := [_, _, _, _, _]) mb_X12_rent (Nat.le_of_ble_eq_true rfl) rfl (fun x C F => ?_)
  refine vv_iload_n C dX12_rent_0 rfl ?_
  refine vv_i2l C dX12_rent_1 ?_
  refine vv_ldc2 C dX12_rent_2 kc_X12_90 ?_
  refine vs_eql (v9 := (2 : Int32).toInt64) (by decide +kernel) ?_
  refine vv_ldc2 C dX12_rent_5 kc_X12_260 ?_
  refine vs_eql (v9 := (10000 : Int32).toInt64) (by decide +kernel) ?_
  refine vs_calsiF C dX12_rent_8 (c_X12_within g S _ _ _) mb_X12_within ms_X12_within lk_X12_123 rfl rfl ⟨Nat.le_of_ble_eq_true rfl, Nat.le_of_ble_eq_true rfl, Nat.le_of_ble_eq_true rfl⟩ ?_
  refine vv_if_eq (tgt := 26) C dX12_rent_11 (by decide) (fun q11 => ?_) (fun q11 => ?_)
  · have w1 : vs_w rr 2 10000 = false := vs_b0.mp q11
    refine vv_iconst C dX12_rent_26 ic_m1 ?_
    exact vs_iret C F dX12_rent_27 rfl ⟨by first | (rw [w1]; rfl) | (rw [w2, Bool.and_false]; rfl), nm_to.rf hS⟩
  · have w1 : vs_w rr 2 10000 = true := vs_b1.mp q11
    refine vv_iload_n C dX12_rent_14 rfl ?_
    refine vv_i2l C dX12_rent_15 ?_
    refine vv_lconst C dX12_rent_16 lc_1 ?_
    refine vs_eql (v9 := (1 : Int32).toInt64) (by decide +kernel) ?_
    refine vv_ldc2 C dX12_rent_17 kc_X12_262 ?_
    refine vs_eql (v9 := (30 : Int32).toInt64) (by decide +kernel) ?_
    refine vs_calsiF C dX12_rent_20 (c_X12_within g S _ _ _) mb_X12_within ms_X12_within lk_X12_123 rfl rfl ⟨Nat.le_of_ble_eq_true rfl, Nat.le_of_ble_eq_true rfl, Nat.le_of_ble_eq_true rfl⟩ ?_
    refine vv_if_ne (tgt := 28) C dX12_rent_23 (by decide) (fun q23 => ?_) (fun q23 => ?_)
    · have hw : vs_w years 1 30 = true := vs_b1.mp q23
      obtain ⟨y, y1, y2, y3⟩ := vs_wN (a := 1) (b := 30) (by omega) (by omega) hw
      have w2 : vs_w years 1 30 = true := hw
      subst y3
      have hwr : (vs_w rr 2 10000 && vs_w (nI y) 1 30) = true := by rw [w1, w2]; rfl
      have loop : ∀ (m i : Nat) (v : Int32) (S2 : vs_S), nm_T law S S2 → i + m = y → lw_rent (np_lm law) m v = lw_rent (np_lm law) y rr → vv_V g x 5 0 0 33 [some (vv_r g 65), some (.int rr), some (.int (nI y)), some (.int v), some (.int (nI i))] [] (vs_cells g S2) := by
        intro m
        induction m with
        | zero =>
          intro i v S2 t h1 he
          have hi : i = y := by omega
          subst hi
          refine vv_iload C dX12_rent_33 rfl ?_
          refine vv_iload_n C dX12_rent_35 rfl ?_
          refine vv_icmp_ge (tgt := 66) C dX12_rent_36 (by decide) (fun q36 => ?_) (fun q36 => ?_)
          · refine vv_iload_n C dX12_rent_66 rfl ?_
            exact vs_iret C F dX12_rent_67 rfl ⟨by rw [hwr, if_pos rfl, xn_cl (by omega), ← he]; rfl, t.1⟩
          · exact absurd (Int32.le_refl _) q36
        | succ m ih =>
          intro i v S2 t h1 he
          have fin : ∀ w : Int32, v + w = lw_step v → vv_V g x 5 0 0 55 [some (vv_r g 65), some (.int rr), some (.int (nI y)), some (.int v), some (.int (nI i))] [.int w, .int v, vv_r g 65] (vs_cells g S2) := by
            intro w hw9
            refine vv_iadd C dX12_rent_55 ?_
            refine vs_eqi (v9 := lw_step v) (hw9) ?_
            refine vs_calli C dX12_rent_56 (c_X12_nextOf g S2 hfl t.1.2 law hl t.2 _) mb_X12_nextOf mv_X12_nextOf lk_X12_197 ce_65 rfl rfl rfl rfl ⟨Nat.le_of_ble_eq_true rfl, Nat.le_of_ble_eq_true rfl, Nat.le_of_ble_eq_true rfl⟩ (fun r56 S56 p56 => ?_)
            obtain ⟨e56, u56⟩ := p56
            subst e56
            have t56 := t.go u56
            refine vw_istore_n (lv9 := [_, _, _, _, _]) C dX12_rent_59 (by decide) rfl rfl ?_
            refine vw_iinc (lv9 := [_, _, _, _, _]) C dX12_rent_60 rfl ic_1 (by decide) rfl rfl ?_
            refine vv_goto (tgt := 33) C dX12_rent_63 (by decide) ?_
            rw [nI_1]
            exact ih (i + 1) _ S56 t56 (by omega) he
          refine vv_iload C dX12_rent_33 rfl ?_
          refine vv_iload_n C dX12_rent_35 rfl ?_
          refine vv_icmp_ge (tgt := 66) C dX12_rent_36 (by decide) (fun q36 => ?_) (fun q36 => ?_)
          · exact absurd q36 (by rw [xn_le (by omega) (by omega)]; omega)
          · refine vv_aload_n C dX12_rent_39 rfl ?_
            refine vv_iload_n C dX12_rent_40 rfl ?_
            refine vv_iload_n C dX12_rent_41 rfl ?_
            refine vv_bipush C dX12_rent_42 bp_10 ?_
            refine vv_icmp_ge (tgt := 51) C dX12_rent_44 (by decide) (fun q44 => ?_) (fun q44 => ?_)
            · refine vv_iload_n C dX12_rent_51 rfl ?_
              refine vv_bipush C dX12_rent_52 bp_10 ?_
              refine vv_idiv C dX12_rent_54 (by decide) ?_
              first
              | exact fin 1 (by unfold lw_step; rw [if_pos (Int32.not_le.mp q44)])
              | exact fin (v / 10) (by unfold lw_step; rw [if_neg (Int32.not_lt.mpr q44)])
            · refine vv_iconst C dX12_rent_47 ic_1 ?_
              refine vv_goto (tgt := 55) C dX12_rent_48 (by decide) ?_
              first
              | exact fin 1 (by unfold lw_step; rw [if_pos (Int32.not_le.mp q44)])
              | exact fin (v / 10) (by unfold lw_step; rw [if_neg (Int32.not_lt.mpr q44)])
      refine vv_iload_n C dX12_rent_28 rfl ?_
      refine vw_istore_n (lv9 := [_, _, _, _, _]) C dX12_rent_29 (by decide) rfl rfl ?_
      refine vv_iconst C dX12_rent_30 ic_0 ?_
      refine vw_istore (lv9 := [_, _, _, _, _]) C dX12_rent_31 (by decide) rfl rfl ?_
      exact loop y 0 rr S (nm_T.rf hS hs) (by omega) rfl
    · have w2 : vs_w years 1 30 = false := vs_b0.mp q23
      refine vv_iconst C dX12_rent_26 ic_m1 ?_
      exact vs_iret C F dX12_rent_27 rfl ⟨by first | (rw [w1]; rfl) | (rw [w2, Bool.and_false]; rfl), nm_to.rf hS⟩
