set_option maxRecDepth 20000 in
theorem c_X9_tryShare0 (g : vv_G) (S : vs_S) (hfl : vv_fl g = false) (hS : nx_ok S) (law : Nat) (hl : law ≤ 3) (hs : S.1 0 = nI law) (k n : Nat) (hk2 : 2 ≤ k) (hk4 : k ≤ 4) (hn1 : 1 ≤ n) (hn : n ≤ 600) (h4 : S.1 4 = nI k) (hI : sh_I k S (1000, fun _ => 0)) : vs_KV g yX9_tryShare cX9_tryShare 5 none 9 [vv_r g 15, .int 0, .int 2, .int (nI n)] S (fun S1 => sh_I k S1 (sz (np_lx law) k n) ∧ vs_fr [5] [16, 17] [] S S1) := by
  refine vs_ofV (lv := [_, _, _, _, _]) mb_X9_tryShare (Nat.le_of_ble_eq_true rfl) rfl (fun x C F => ?_)
  have loop : ∀ (f a : Nat) (S2 : vs_S) (B2 : sh_B), n + 1 ≤ a + f → a ≤ n + 1 → 2 ≤ a → sh_I k S2 B2 → S2.1 4 = nI k → vs_fr [5] [16, 17] [] S S2 → sf (sy_t (np_lx law) k n) k n f a B2 = sz (np_lx law) k n → vv_V g x 5 0 0 19 [some (vv_r g 15), some (.int 0), some (.int 2), some (.int (nI n)), some (.int (nI a))] [] (vs_cells g S2) := by
    intro f
    induction f with
    | zero =>
      intro a S2 B2 h2 h3 h5 hI2 h42 fr2 he
      have ha : a = n + 1 := by omega
      subst ha
      have hlt : n < (n + 1) * k := by
        have := Nat.le_mul_of_pos_right (n + 1) (show 0 < k by omega)
        omega
      have hmu : (n + 1) * k ≤ 601 * 4 := Nat.mul_le_mul (by omega) (by omega)
      have hfin : B2 = sz (np_lx law) k n := he
      refine vv_iload C dX9_tryShare_19 rfl ?_
      refine vv_aload_n C dX9_tryShare_21 rfl ?_
      refine gf_X9_among C dX9_tryShare_22 fg_X9_22 ?_
      refine vs_eqi (v9 := nI k) (h42) ?_
      refine vv_iload_n C dX9_tryShare_25 rfl ?_
      refine vv_isub C dX9_tryShare_26 ?_
      refine vs_eqi (v9 := nI k) (xn_sub (a := k) (b := 0) (by omega)) ?_
      refine vv_imul C dX9_tryShare_27 ?_
      refine vs_eqi (v9 := nI ((n + 1) * k)) (xn_mul _ _) ?_
      refine vv_iload_n C dX9_tryShare_28 rfl ?_
      refine vv_icmp_gt (tgt := 83) C dX9_tryShare_29 (by decide) (fun q29 => ?_) (fun q29 => ?_)
      · exact vs_vret C F dX9_tryShare_83 rfl ⟨by rw [← hfin]; exact hI2, fr2⟩
      · exact absurd ((xn_lt (by omega) (by omega)).mpr hlt) q29
    | succ f ihf =>
      intro a S2 B2 h2 h3 h5 hI2 h42 fr2 he
      have hmu : a * k ≤ 601 * 4 := Nat.mul_le_mul (by omega) (by omega)
      refine vv_iload C dX9_tryShare_19 rfl ?_
      refine vv_aload_n C dX9_tryShare_21 rfl ?_
      refine gf_X9_among C dX9_tryShare_22 fg_X9_22 ?_
      refine vs_eqi (v9 := nI k) (h42) ?_
      refine vv_iload_n C dX9_tryShare_25 rfl ?_
      refine vv_isub C dX9_tryShare_26 ?_
      refine vs_eqi (v9 := nI k) (xn_sub (a := k) (b := 0) (by omega)) ?_
      refine vv_imul C dX9_tryShare_27 ?_
      refine vs_eqi (v9 := nI (a * k)) (xn_mul _ _) ?_
      refine vv_iload_n C dX9_tryShare_28 rfl ?_
      refine vv_icmp_gt (tgt := 83) C dX9_tryShare_29 (by decide) (fun q29 => ?_) (fun q29 => ?_)
      · have hz : ¬ a * k ≤ n := by rw [xn_lt (by omega) (by omega)] at q29; omega
        have hfin : B2 = sz (np_lx law) k n := by rw [← he, sf1, if_neg hz]
        exact vs_vret C F dX9_tryShare_83 rfl ⟨by rw [← hfin]; exact hI2, fr2⟩
      · have hz : a * k ≤ n := by rw [xn_lt (by omega) (by omega)] at q29; omega
        have hm := sh_mul (a := a) (r := k - 2) (left := n) (by rw [show k - 2 + 2 = k by omega]; exact hz)
        refine vv_aload_n C dX9_tryShare_32 rfl ?_
        refine vv_iload_n C dX9_tryShare_33 rfl ?_
        refine vv_iload C dX9_tryShare_34 rfl ?_
        refine vv_iload_n C dX9_tryShare_36 rfl ?_
        refine vs_caliF C dX9_tryShare_37 (c_X9_isNearer0 g S2 _ _) mb_X9_isNearer mv_X9_isNearer lk_X9_37 ce_15 rfl rfl rfl rfl ⟨by omega, by omega, Nat.le_of_ble_eq_true rfl⟩ ?_
        refine vv_if_eq (tgt := 83) C dX9_tryShare_40 (by decide) (fun q40 => ?_) (fun q40 => ?_)
        · exact absurd q40 (by decide)
        · refine vv_aload_n C dX9_tryShare_43 rfl ?_
          refine gf_X9_laws C dX9_tryShare_44 fg_X9_18 ?_
          refine vv_iload C dX9_tryShare_47 rfl ?_
          refine vv_i2l C dX9_tryShare_49 ?_
          refine vs_eql (v9 := lN a) (xn_i2l (by omega)) ?_
          refine vs_caliF C dX9_tryShare_50 (c_X1_isLawful g S2 (nx_fr hS fr2 (by decide)) law hl ((fr2.1 0 (by decide)).trans hs) a (by omega)) mb_X1_isLawful mv_X1_isLawful lk_X9_41 ce_4 rfl rfl rfl rfl ⟨by omega, by omega, Nat.le_of_ble_eq_true rfl⟩ ?_
          refine vv_if_eq (tgt := 77) C dX9_tryShare_53 (by decide) (fun q53 => ?_) (fun q53 => ?_)
          · have hp : np_lx law a = false := vs_b0.mp q53
            refine vw_iinc (lv9 := [_, _, _, _, _]) C dX9_tryShare_77 rfl ic_1 (by decide) rfl rfl ?_
            refine vv_goto (tgt := 19) C dX9_tryShare_80 (by decide) ?_
            first
            | (rw [nI_1]
               exact ihf (a + 1) S2 B2 (by omega) (by omega) (by omega) hI2 h42 fr2 (by rw [← he, sf1, if_pos hz]; unfold sy_t; rw [if_neg (by rw [hp]; decide)]))
            | (rw [nI_1]
               obtain ⟨p1, p2, p3⟩ := p74
               have fr3 : vs_fr [5] [16, 17] [] S S74 := (fr2.ua (by decide)).tr p3
               refine ihf (a + 1) S74 _ (by omega) (by omega) (by omega) p1 (fr3.1 4 (by decide) |>.trans h4) fr3 ?_
               rw [← he, sf1, if_pos hz]
               unfold sy_t
               rw [if_pos hp]
               rfl)
          · have hp : np_lx law a = true := vs_b1.mp q53
            refine vv_aload_n C dX9_tryShare_56 rfl ?_
            refine gf_X9_tried C dX9_tryShare_57 fg_X9_11 ?_
            refine vv_iload_n C dX9_tryShare_60 rfl ?_
            refine vv_iload C dX9_tryShare_61 rfl ?_
            refine st_16 C dX9_tryShare_63 (xn_in (n := 0) (by omega) (by omega)) ?_
            refine vv_aload_n C dX9_tryShare_64 rfl ?_
            refine vv_iload_n C dX9_tryShare_65 rfl ?_
            refine vv_iconst C dX9_tryShare_66 ic_1 ?_
            refine vv_iadd C dX9_tryShare_67 ?_
            refine vs_eqi (v9 := nI 1) (rfl) ?_
            refine vv_iload C dX9_tryShare_68 rfl ?_
            refine vv_iload_n C dX9_tryShare_70 rfl ?_
            refine vv_iload C dX9_tryShare_71 rfl ?_
            refine vv_isub C dX9_tryShare_73 ?_
            refine vs_eqi (v9 := nI (n - a)) (xn_sub (by omega)) ?_
            refine vs_callv C dX9_tryShare_74 (c_X9_tryShare g hfl law hl k hk2 hk4 (k - 2) (vs_ua S2 16 (upd (S2.2.1 16) 0 (nI a))) (va_up (fun _ => 0) 0 a) 1 a (n - a) B2 (by omega) (by omega) (nx_fr hS (fr2.ua (by decide)) (by decide)) ((fr2.1 0 (by decide)).trans hs) h42 (fun q hq => by
          show upd (S2.2.1 16) 0 (nI a) q = nI (va_up (fun _ => 0) 0 a q)
          rw [xn_upd (α := Nat), va_up1]
          rw [if_pos (by omega), if_pos (by omega)]) hI2 (by show 2 ≤ a; exact h5) (Nat.le_refl _) hm.1 (by omega)) mb_X9_tryShare mv_X9_tryShare lk_X9_29 ce_15 rfl rfl rfl rfl ⟨by omega, by omega, Nat.le_of_ble_eq_true rfl⟩ (fun S74 p74 => ?_)
            refine vw_iinc (lv9 := [_, _, _, _, _]) C dX9_tryShare_77 rfl ic_1 (by decide) rfl rfl ?_
            refine vv_goto (tgt := 19) C dX9_tryShare_80 (by decide) ?_
            first
            | (rw [nI_1]
               exact ihf (a + 1) S2 B2 (by omega) (by omega) (by omega) hI2 h42 fr2 (by rw [← he, sf1, if_pos hz]; unfold sy_t; rw [if_neg (by rw [hp]; decide)]))
            | (rw [nI_1]
               obtain ⟨p1, p2, p3⟩ := p74
               have fr3 : vs_fr [5] [16, 17] [] S S74 := (fr2.ua (by decide)).tr p3
               refine ihf (a + 1) S74 _ (by omega) (by omega) (by omega) p1 (fr3.1 4 (by decide) |>.trans h4) fr3 ?_
               rw [← he, sf1, if_pos hz]
               unfold sy_t
               rw [if_pos hp]
               rfl)
  refine vv_iload_n C dX9_tryShare_0 rfl ?_
  refine vv_aload_n C dX9_tryShare_1 rfl ?_
  refine gf_X9_among C dX9_tryShare_2 fg_X9_22 ?_
  refine vs_eqi (v9 := nI k) (h4) ?_
  refine vv_iconst C dX9_tryShare_5 ic_1 ?_
  refine vv_isub C dX9_tryShare_6 ?_
  refine vs_eqi (v9 := nI (k - 1)) (xn_sub (a := k) (b := 1) (by omega)) ?_
  refine vv_icmp_ne (tgt := 16) C dX9_tryShare_7 (by decide) (fun q7 => ?_) (fun q7 => ?_)
  · refine vv_iload_n C dX9_tryShare_16 rfl ?_
    refine vw_istore (lv9 := [_, _, _, _, _]) C dX9_tryShare_17 (by decide) rfl rfl ?_
    exact loop (n + 1) 2 S _ (by omega) (by omega) (Nat.le_refl _) hI h4 vs_fr.rf rfl
  · exact absurd ((xn_eq (a := 0) (by omega) (by omega)).mp q7) (by omega)
set_option maxRecDepth 20000 in
theorem c_X9_divide (g : vv_G) (S : vs_S) (hfl : vv_fl g = false) (hS : nx_ok S) (law : Nat) (hl : law ≤ 3) (hs : S.1 0 = nI law) (k n : Nat) (hk2 : 2 ≤ k) (hk4 : k ≤ 4) (hn1 : 1 ≤ n) (hn : n ≤ 600) : vs_KI g yX9_divide cX9_divide 3 (some .int) 10 [vv_r g 15, .int (nI n), .int (nI k)] S (fun r S1 => r = (if (sz (np_lx law) k n).1 = 1000 then -2 else nI (sz (np_lx law) k n).1) ∧ sh_I k S1 (sz (np_lx law) k n) ∧ vs_fr [4, 5] [16, 17] [] S S1) := by
  refine vs_ofI (lv := [_, _, _]) mb_X9_divide (Nat.le_of_ble_eq_true rfl) rfl (fun x C F => ?_)
  refine vv_aload_n C dX9_divide_0 rfl ?_
  refine vv_iload_n C dX9_divide_1 rfl ?_
  refine pf_X9_among C dX9_divide_2 fp_X9_22 ?_
  refine vv_aload_n C dX9_divide_5 rfl ?_
  refine vv_sipush C dX9_divide_6 sp_1000 ?_
  refine pf_X9_apart C dX9_divide_9 fp_X9_26 ?_
  refine vv_aload_n C dX9_divide_12 rfl ?_
  refine vv_iconst C dX9_divide_13 ic_0 ?_
  refine vv_iconst C dX9_divide_14 ic_2 ?_
  refine vv_iload_n C dX9_divide_15 rfl ?_
  refine vs_callv C dX9_divide_16 (c_X9_tryShare0 g (vs_us (vs_us S 4 (nI k)) 5 1000) hfl hS law hl hs k n hk2 hk4 hn1 hn rfl ⟨rfl, Nat.le_refl _, fun z => absurd z (Nat.lt_irrefl _)⟩) mb_X9_tryShare mv_X9_tryShare lk_X9_29 ce_15 rfl rfl rfl rfl ⟨Nat.le_of_ble_eq_true rfl, Nat.le_of_ble_eq_true rfl, Nat.le_of_ble_eq_true rfl⟩ (fun S16 p16 => ?_)
  obtain ⟨hI, fr⟩ := p16
  have hb := hI.2.1
  refine vv_aload_n C dX9_divide_19 rfl ?_
  refine gf_X9_apart C dX9_divide_20 fg_X9_26 ?_
  refine vs_eqi (v9 := nI (sz (np_lx law) k n).1) (hI.1) ?_
  refine vv_sipush C dX9_divide_23 sp_1000 ?_
  refine vv_icmp_ne (tgt := 34) C dX9_divide_26 (by decide) (fun q26 => ?_) (fun q26 => ?_)
  · have hz : ¬ (sz (np_lx law) k n).1 = 1000 := fun z => q26 (by rw [z]; rfl)
    refine vv_aload_n C dX9_divide_34 rfl ?_
    refine gf_X9_apart C dX9_divide_35 fg_X9_26 ?_
    have f4 : vs_fr [4, 5] [16, 17] [] S S16 := ((vs_fr.rf.us (by decide)).us (by decide)).tr (fr.wd (by decide) (by decide) (by decide))
    first
    | exact vs_iret C F dX9_divide_38 rfl ⟨by rw [if_pos hz], hI, f4⟩
    | exact vs_iret C F dX9_divide_38 rfl ⟨by rw [if_neg hz]; exact hI.1, hI, f4⟩
  · have hz : (sz (np_lx law) k n).1 = 1000 := by rw [xn_lit, xn_eq (by omega) (by omega)] at q26; exact q26
    refine vv_bipush C dX9_divide_29 bp_m2 ?_
    refine vv_goto (tgt := 38) C dX9_divide_31 (by decide) ?_
    have f4 : vs_fr [4, 5] [16, 17] [] S S16 := ((vs_fr.rf.us (by decide)).us (by decide)).tr (fr.wd (by decide) (by decide) (by decide))
    first
    | exact vs_iret C F dX9_divide_38 rfl ⟨by rw [if_pos hz], hI, f4⟩
    | exact vs_iret C F dX9_divide_38 rfl ⟨by rw [if_neg hz]; exact hI.1, hI, f4⟩
theorem sh_i {k : Nat} {i : Int32} (h1k : 1 ≤ k) (hk : k ≤ 4) (h : vs_w i (-1) (nI k - 1) = true) (h1 : ¬ i = -1) : ∃ j, j < k ∧ i = nI j := cn_i (by omega) h h1
theorem sh_m2 {b : Nat} (hb : b ≤ 1000) (h : (if b = 1000 then -2 else nI b) = (-2 : Int32)) : b = 1000 := by
  apply Decidable.byContradiction
  intro z
  rw [if_neg z] at h
  have h2 := congrArg Int32.toInt h
  rw [xn_toInt (by omega)] at h2
  have e2 : (-2 : Int32).toInt = -2 := rfl
  omega
set_option maxRecDepth 20000 in
theorem c_X11_shares (g : vv_G) (S : vs_S) (hfl : vv_fl g = false) (hS : nx_ok S) (law : Nat) (hl : law ≤ 3) (hs : S.1 0 = nI law) (n k i : Int32) : vs_KI g yX11_shares cX11_shares 5 (some .int) 11 [vv_r g 0, .int n, .int k, .int i] S (fun r S1 => r = (if ((vs_w n 1 600 && vs_w k 2 4) && vs_w i (-1) (k - 1)) = true then shv (np_lx law) n.toNatClampNeg k.toNatClampNeg i else -1) ∧ vs_fr [4, 5] [16, 17] [] S S1) := by
  refine vs_ofI (lv := [_, _, _, _, _]) mb_X11_shares (Nat.le_of_ble_eq_true rfl) rfl (fun x C F => ?_)
  refine vv_iload_n C dX11_shares_0 rfl ?_
  refine vv_iconst C dX11_shares_1 ic_1 ?_
  refine vv_sipush C dX11_shares_2 sp_600 ?_
  refine vs_calsiF C dX11_shares_5 (c_X11_within g S _ _ _) mb_X11_within ms_X11_within lk_X11_94 rfl rfl ⟨Nat.le_of_ble_eq_true rfl, Nat.le_of_ble_eq_true rfl, Nat.le_of_ble_eq_true rfl⟩ ?_
  refine vv_if_eq (tgt := 31) C dX11_shares_8 (by decide) (fun q8 => ?_) (fun q8 => ?_)
  · have hw : ¬ ((vs_w n 1 600 && vs_w k 2 4) && vs_w i (-1) (k - 1)) = true := by rw [show vs_w n 1 600 = false from vs_b0.mp q8, Bool.false_and, Bool.false_and]; decide
    refine vv_iconst C dX11_shares_31 ic_m1 ?_
    exact vs_iret C F dX11_shares_32 rfl ⟨by rw [if_neg hw], vs_fr.rf⟩
  · have w1 : vs_w n 1 600 = true := vs_b1.mp q8
    refine vv_iload_n C dX11_shares_11 rfl ?_
    refine vv_iconst C dX11_shares_12 ic_2 ?_
    refine vv_iconst C dX11_shares_13 ic_4 ?_
    refine vs_calsiF C dX11_shares_14 (c_X11_within g S _ _ _) mb_X11_within ms_X11_within lk_X11_94 rfl rfl ⟨Nat.le_of_ble_eq_true rfl, Nat.le_of_ble_eq_true rfl, Nat.le_of_ble_eq_true rfl⟩ ?_
    refine vv_if_eq (tgt := 31) C dX11_shares_17 (by decide) (fun q17 => ?_) (fun q17 => ?_)
    · have hw : ¬ ((vs_w n 1 600 && vs_w k 2 4) && vs_w i (-1) (k - 1)) = true := by rw [show vs_w k 2 4 = false from vs_b0.mp q17, Bool.and_false, Bool.false_and]; decide
      refine vv_iconst C dX11_shares_31 ic_m1 ?_
      exact vs_iret C F dX11_shares_32 rfl ⟨by rw [if_neg hw], vs_fr.rf⟩
    · have w2 : vs_w k 2 4 = true := vs_b1.mp q17
      refine vv_iload_n C dX11_shares_20 rfl ?_
      refine vv_iconst C dX11_shares_21 ic_m1 ?_
      refine vv_iload_n C dX11_shares_22 rfl ?_
      refine vv_iconst C dX11_shares_23 ic_1 ?_
      refine vv_isub C dX11_shares_24 ?_
      refine vs_calsiF C dX11_shares_25 (c_X11_within g S _ _ _) mb_X11_within ms_X11_within lk_X11_94 rfl rfl ⟨Nat.le_of_ble_eq_true rfl, Nat.le_of_ble_eq_true rfl, Nat.le_of_ble_eq_true rfl⟩ ?_
      refine vv_if_ne (tgt := 33) C dX11_shares_28 (by decide) (fun q28 => ?_) (fun q28 => ?_)
      · have w3 : vs_w i (-1) (k - 1) = true := vs_b1.mp q28
        have hw : ((vs_w n 1 600 && vs_w k 2 4) && vs_w i (-1) (k - 1)) = true := by rw [w1, w2, w3]; rfl
        obtain ⟨n1, hn1, hn2, en1⟩ := vs_wN (a := 1) (b := 600) (by omega) (by omega) w1
        obtain ⟨k1, hk1, hk2, ek1⟩ := vs_wN (a := 2) (b := 4) (by omega) (by omega) w2
        subst en1
        subst ek1
        refine vv_aload_n C dX11_shares_33 rfl ?_
        refine gf_X11_split C dX11_shares_34 fg_X11_37 ?_
        refine vv_iload_n C dX11_shares_37 rfl ?_
        refine vv_iload_n C dX11_shares_38 rfl ?_
        refine vs_calli C dX11_shares_39 (c_X9_divide g S hfl hS law hl hs k1 n1 hk1 hk2 hn1 hn2) mb_X9_divide mv_X9_divide lk_X11_216 ce_15 rfl rfl rfl rfl ⟨Nat.le_of_ble_eq_true rfl, Nat.le_of_ble_eq_true rfl, Nat.le_of_ble_eq_true rfl⟩ (fun r39 S39 p39 => ?_)
        obtain ⟨er, hI, fr⟩ := p39
        subst er
        have hb := hI.2.1
        refine vw_istore (lv9 := [_, _, _, _, _]) C dX11_shares_42 (by decide) rfl rfl ?_
        refine vv_iload C dX11_shares_44 rfl ?_
        refine vv_bipush C dX11_shares_46 bp_m2 ?_
        refine vv_icmp_eq (tgt := 56) C dX11_shares_48 (by decide) (fun q48 => ?_) (fun q48 => ?_)
        · have hz := sh_m2 hb q48
          refine vv_iload C dX11_shares_56 rfl ?_
          refine vv_goto (tgt := 69) C dX11_shares_58 (by decide) ?_
          refine vs_iret C F dX11_shares_69 rfl ⟨?_, fr⟩
          rw [if_pos hw, xn_cl (n := n1) (by omega), xn_cl (n := k1) (by omega)]
          unfold shv
          first
          | rw [if_pos hz, if_pos hz]
          | rw [if_neg hz, if_neg hz, if_pos q53]
          | (rw [if_neg hz, if_neg q53, xn_cl (n := j) (by omega)]; exact hI.2.2 (by omega) j hj)
        · have hz : ¬ (sz (np_lx law) k1 n1).1 = 1000 := fun z => q48 (by rw [if_pos z])
          refine vv_iload_n C dX11_shares_51 rfl ?_
          refine vv_iconst C dX11_shares_52 ic_m1 ?_
          refine vv_icmp_ne (tgt := 61) C dX11_shares_53 (by decide) (fun q53 => ?_) (fun q53 => ?_)
          · obtain ⟨j, hj, ej⟩ := sh_i (by omega) (by omega) w3 q53
            subst ej
            refine vv_aload_n C dX11_shares_61 rfl ?_
            refine gf_X11_split C dX11_shares_62 fg_X11_37 ?_
            refine vv_iload_n C dX11_shares_65 rfl ?_
            refine vs_caliF C dX11_shares_66 (c_X9_share g S39 (nI j) (xn_in (by omega) (by omega))) mb_X9_share mv_X9_share lk_X11_219 ce_15 rfl rfl rfl rfl ⟨Nat.le_of_ble_eq_true rfl, Nat.le_of_ble_eq_true rfl, Nat.le_of_ble_eq_true rfl⟩ ?_
            refine vs_iret C F dX11_shares_69 rfl ⟨?_, fr⟩
            rw [if_pos hw, xn_cl (n := n1) (by omega), xn_cl (n := k1) (by omega)]
            unfold shv
            first
            | rw [if_pos hz, if_pos hz]
            | rw [if_neg hz, if_neg hz, if_pos q53]
            | (rw [if_neg hz, if_neg q53, xn_cl (n := j) (by omega)]; exact hI.2.2 (by omega) j hj)
          · refine vv_iload C dX11_shares_56 rfl ?_
            refine vv_goto (tgt := 69) C dX11_shares_58 (by decide) ?_
            refine vs_iret C F dX11_shares_69 rfl ⟨?_, fr⟩
            rw [if_pos hw, xn_cl (n := n1) (by omega), xn_cl (n := k1) (by omega)]
            unfold shv
            first
            | rw [if_pos hz, if_pos hz]
            | rw [if_neg hz, if_neg hz, if_pos q53]
            | (rw [if_neg hz, if_neg q53, xn_cl (n := j) (by omega)]; exact hI.2.2 (by omega) j hj)
      · have hw : ¬ ((vs_w n 1 600 && vs_w k 2 4) && vs_w i (-1) (k - 1)) = true := by rw [show vs_w i (-1) (k - 1) = false from vs_b0.mp q28, Bool.and_false]; decide
        refine vv_iconst C dX11_shares_31 ic_m1 ?_
        exact vs_iret C F dX11_shares_32 rfl ⟨by rw [if_neg hw], vs_fr.rf⟩
