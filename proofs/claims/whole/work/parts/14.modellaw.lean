theorem np_g20 {n f a : Nat} (h : n < 2 * a) : np_g2 n f a = false := by
  cases f with
  | zero => rfl
  | succ f =>
    unfold np_g2
    rw [if_neg (by omega)]
theorem nm_n01 : ∀ b : Bool, narrow .boolean (.int (vs_b b)) = .int (vs_b b) := fun _ => vs_bz
set_option maxRecDepth 20000 in
theorem c_X12_isWhole (g : vv_G) (S : vs_S) (hfl : vv_fl g = false) (hS : nm_ok S) (n : Nat) (hn : n ≤ 1000000000002) : vs_KI g yX12_isWhole cX12_isWhole 3 (some .boolean) 2 [vv_r g 65, .long (lN n)] S (fun r S1 => r = vs_b (np_pr n) ∧ nm_to S S1) := by
  refine vs_ofI (lv := [_, _, _]) mb_X12_isWhole (Nat.le_of_ble_eq_true rfl) rfl (fun x C F => ?_)
  refine vv_lload_n C dX12_isWhole_0 rfl ?_
  refine vv_ldc2 C dX12_isWhole_1 kc_X12_102 ?_
  refine vv_lcmp C dX12_isWhole_4 ?_
  refine vv_if_lt (tgt := 23) C dX12_isWhole_5 (by decide) (fun q5 => ?_) (fun q5 => ?_)
  · have hlt : n < 102100 := by rw [lg_cmp_lt, xn_lit64, xn_llt (by omega) (by omega)] at q5; exact q5
    have low : ∀ S2 : vs_S, nm_to S S2 → (∀ v, 2 ≤ v → v < 102100 → S2.2.1 70 v = if np_pr v = true then 0 else 1) → vv_V g x 3 0 0 34 [some (vv_r g 65), some (.long (lN n)), none] [] (vs_cells g S2) := by
      intro S2 h2 hA
      refine vv_lload_n C dX12_isWhole_34 rfl ?_
      refine vv_ldc2 C dX12_isWhole_35 kc_X12_90 ?_
      refine vv_lcmp C dX12_isWhole_38 ?_
      refine vv_if_lt (tgt := 56) C dX12_isWhole_39 (by decide) (fun q39 => ?_) (fun q39 => ?_)
      · have hp : np_pr n = false := by
          unfold np_pr
          rw [decide_eq_false (by rw [lg_cmp_lt, xn_lit64, xn_llt (by omega) (by omega)] at q39; omega)]
          rfl
        refine vv_iconst C dX12_isWhole_56 ic_0 ?_
        exact vs_zret C F dX12_isWhole_57 rfl rfl ⟨by rw [hp]; rfl, h2⟩
      · have hge2 : 2 ≤ n := by
          have q := lg_cmp_lt (lN n) 2
          rw [xn_lit64, xn_llt (by omega) (by omega)] at q
          exact Nat.le_of_not_lt (fun z => q39 (q.mpr z))
        refine vv_aload_n C dX12_isWhole_42 rfl ?_
        refine gf_X12_parts1 C dX12_isWhole_43 fg_X12_23 ?_
        refine vv_lload_n C dX12_isWhole_46 rfl ?_
        refine vv_l2i C dX12_isWhole_47 ?_
        refine vs_eqi (v9 := nI n) (xn_l2i n) ?_
        refine ld_70 C dX12_isWhole_48 (xn_in (by omega) (by omega)) ?_
        refine vs_eqi (v9 := if np_pr n = true then 0 else 1) (by rw [xn_cl (by omega)]; exact hA n hge2 hlt) ?_
        refine vv_if_ne (tgt := 56) C dX12_isWhole_49 (by decide) (fun q49 => ?_) (fun q49 => ?_)
        · have hp : np_pr n = false := by
            cases h : np_pr n with
            | false => rfl
            | true => rw [if_pos h] at q49; exact absurd rfl q49
          refine vv_iconst C dX12_isWhole_56 ic_0 ?_
          exact vs_zret C F dX12_isWhole_57 rfl rfl ⟨by rw [hp]; rfl, h2⟩
        · have hp : np_pr n = true := by
            cases h : np_pr n with
            | true => rfl
            | false => rw [if_neg (by rw [h]; decide)] at q49; exact absurd q49 (by decide)
          refine vv_iconst C dX12_isWhole_52 ic_1 ?_
          refine vv_goto (tgt := 57) C dX12_isWhole_53 (by decide) ?_
          exact vs_zret C F dX12_isWhole_57 rfl rfl ⟨by rw [hp]; rfl, h2⟩
    refine vv_aload_n C dX12_isWhole_23 rfl ?_
    refine gf_X12_isStruck C dX12_isWhole_24 fg_X12_98 ?_
    refine vv_if_ne (tgt := 34) C dX12_isWhole_27 (by decide) (fun q27 => ?_) (fun q27 => ?_)
    · rcases hS with ⟨z, _⟩ | ⟨z, hA⟩
      · exact absurd z q27
      · exact low S (nm_to.rf (Or.inr ⟨z, hA⟩)) hA
    · rcases hS with ⟨z, hA⟩ | ⟨z, hA⟩
      · refine vv_aload_n C dX12_isWhole_30 rfl ?_
        refine vs_callv C dX12_isWhole_31 (c_X12_strikes g S hfl hA) mb_X12_strikes mv_X12_strikes lk_X12_108 ce_65 rfl rfl rfl rfl ⟨Nat.le_of_ble_eq_true rfl, Nat.le_of_ble_eq_true rfl, Nat.le_of_ble_eq_true rfl⟩ (fun S1 p1 => ?_)
        exact low S1 ⟨p1.1, Or.inr p1.2⟩ p1.2.2
      · exact absurd q27 (by rw [z]; decide)
  · have hge : 102100 ≤ n := by
      have q := lg_cmp_lt (lN n) 102100
      rw [xn_lit64, xn_llt (by omega) (by omega)] at q
      exact Nat.le_of_not_lt (fun z => q5 (q.mpr z))
    refine vv_lload_n C dX12_isWhole_8 rfl ?_
    refine vs_calslF C dX12_isWhole_9 (c_X12_leastPart g S n (by omega) hn) mb_X12_leastPart ms_X12_leastPart lk_X12_104 rfl rfl ⟨Nat.le_of_ble_eq_true rfl, Nat.le_of_ble_eq_true rfl, Nat.le_of_ble_eq_true rfl⟩ ?_
    refine vv_lload_n C dX12_isWhole_12 rfl ?_
    refine vv_lcmp C dX12_isWhole_13 ?_
    refine vv_if_ne (tgt := 21) C dX12_isWhole_14 (by decide) (fun q14 => ?_) (fun q14 => ?_)
    · have hp : np_pr n = false := by
        cases h : np_pr n with
        | false => rfl
        | true => exact absurd ((lg_cmp_eq _ _).mpr (by rw [(np_pr_iff.mp h).2])) q14
      refine vv_iconst C dX12_isWhole_21 ic_0 ?_
      exact vs_zret C F dX12_isWhole_22 rfl rfl ⟨by rw [hp]; rfl, nm_to.rf hS⟩
    · have hp : np_pr n = true := np_pr_iff.mpr ⟨by omega, by rw [lg_cmp_eq, xn_leq (by have := np_lp_le (n := n) (by omega); omega) (by omega)] at q14; exact q14⟩
      refine vv_iconst C dX12_isWhole_17 ic_1 ?_
      refine vv_goto (tgt := 22) C dX12_isWhole_18 (by decide) ?_
      exact vs_zret C F dX12_isWhole_22 rfl rfl ⟨by rw [hp]; rfl, nm_to.rf hS⟩
set_option maxRecDepth 20000 in
theorem c_X12_isOfTwo (g : vv_G) (S : vs_S) (hfl : vv_fl g = false) (hS : nm_ok S) (n : Nat) (h2 : 2 ≤ n) (hn : n ≤ 1000000000000) : vs_KI g yX12_isOfTwo cX12_isOfTwo 5 (some .boolean) 3 [vv_r g 65, .long (lN n)] S (fun r S1 => r = vs_b (np_go n) ∧ nm_to S S1) := by
  refine vs_ofI (lv := [_, _, _, _, _]) mb_X12_isOfTwo (Nat.le_of_ble_eq_true rfl) rfl (fun x C F => ?_)
  have e0 : lg_cmp (lN n % lN 2) 1 = 0 ↔ n % 2 = 1 := by rw [xn_lmod (by omega) (by omega), xn_lit64, lg_cmp_eq, xn_leq (by omega) (by omega)]
  have e4 : lg_cmp (lN n) 4 = 0 ↔ n = 4 := by rw [xn_lit64, lg_cmp_eq, xn_leq (by omega) (by omega)]
  have loop : ∀ (f a : Nat) (S2 : vs_S), nm_to S S2 → n + 1 ≤ a + f → a ≤ n + 2 → 3 ≤ a → np_go n = np_g2 n f a → vv_V g x 5 0 0 34 [some (vv_r g 65), some (.long (lN n)), none, some (.long (lN a)), none] [] (vs_cells g S2) := by
    intro f
    induction f with
    | zero =>
      intro a S2 hS2 h1 h4 h3 he
      have e1 : lg_cmp (2 * lN a) (lN n) ≤ 0 ↔ 2 * a ≤ n := by rw [xn_lit64, xn_lmul, lg_cmp_le, xn_lle (by omega) (by omega)]
      refine vv_ldc2 C dX12_isOfTwo_34 kc_X12_90 ?_
      refine vv_lload_n C dX12_isOfTwo_37 rfl ?_
      refine vv_lmul C dX12_isOfTwo_38 ?_
      refine vv_lload_n C dX12_isOfTwo_39 rfl ?_
      refine vv_lcmp C dX12_isOfTwo_40 ?_
      refine vv_if_gt (tgt := 73) C dX12_isOfTwo_41 (by decide) (fun q41 => ?_) (fun q41 => ?_)
      · refine vv_iconst C dX12_isOfTwo_73 ic_0 ?_
        exact vs_zret C F dX12_isOfTwo_74 rfl rfl ⟨by rw [he]; rfl, hS2⟩
      · exact absurd (e1.mp (Int32.not_lt.mp q41)) (by omega)
    | succ f ih =>
      intro a S2 hS2 h1 h4 h3 he
      have e1 : lg_cmp (2 * lN a) (lN n) ≤ 0 ↔ 2 * a ≤ n := by rw [xn_lit64, xn_lmul, lg_cmp_le, xn_lle (by omega) (by omega)]
      have goon : 2 * a ≤ n → np_go n = np_g2 n f (a + 2) → ∀ S3 : vs_S, nm_to S S3 → vv_V g x 5 0 0 64 [some (vv_r g 65), some (.long (lN n)), none, some (.long (lN a)), none] [] (vs_cells g S3) := by
        intro hle he S3 hS3
        refine vv_lload_n C dX12_isOfTwo_64 rfl ?_
        refine vv_ldc2 C dX12_isOfTwo_65 kc_X12_90 ?_
        refine vv_ladd C dX12_isOfTwo_68 ?_
        refine vs_eql (v9 := lN (a + 2)) (lN_add a 2) ?_
        refine vw_lstore_n (lv9 := [_, _, _, _, _]) C dX12_isOfTwo_69 (by decide) rfl rfl ?_
        refine vv_goto (tgt := 34) C dX12_isOfTwo_70 (by decide) ?_
        exact ih (a + 2) S3 hS3 (by omega) (by omega) (by omega) he
      refine vv_ldc2 C dX12_isOfTwo_34 kc_X12_90 ?_
      refine vv_lload_n C dX12_isOfTwo_37 rfl ?_
      refine vv_lmul C dX12_isOfTwo_38 ?_
      refine vv_lload_n C dX12_isOfTwo_39 rfl ?_
      refine vv_lcmp C dX12_isOfTwo_40 ?_
      refine vv_if_gt (tgt := 73) C dX12_isOfTwo_41 (by decide) (fun q41 => ?_) (fun q41 => ?_)
      · have hgt : n < 2 * a := Nat.lt_of_not_le (fun z => absurd q41 (Int32.not_lt.mpr (e1.mpr z)))
        rw [np_g20 hgt] at he
        refine vv_iconst C dX12_isOfTwo_73 ic_0 ?_
        exact vs_zret C F dX12_isOfTwo_74 rfl rfl ⟨by rw [he]; rfl, hS2⟩
      · have hle : 2 * a ≤ n := e1.mp (Int32.not_lt.mp q41)
        unfold np_g2 at he
        rw [if_pos hle] at he
        refine vv_aload_n C dX12_isOfTwo_44 rfl ?_
        refine vv_lload_n C dX12_isOfTwo_45 rfl ?_
        refine vs_calli C dX12_isOfTwo_46 (c_X12_isWhole g S2 hfl hS2.2 a (by omega)) mb_X12_isWhole mv_X12_isWhole lk_X12_111 ce_65 rfl rfl rfl rfl ⟨Nat.le_of_ble_eq_true rfl, Nat.le_of_ble_eq_true rfl, Nat.le_of_ble_eq_true rfl⟩ (fun r46 S46 p46 => ?_)
        refine vv_if_eq (tgt := 64) C dX12_isOfTwo_49 (by decide) (fun q49 => ?_) (fun q49 => ?_)
        · obtain ⟨e5, e6⟩ := p46
          rw [e5] at q49
          exact goon hle (by rw [he, vs_b0.mp q49]; rfl) S46 (hS2.tr e6)
        · obtain ⟨e5, e6⟩ := p46
          rw [e5] at q49
          have z1 := vs_b1.mp q49
          refine vv_aload_n C dX12_isOfTwo_52 rfl ?_
          refine vv_lload_n C dX12_isOfTwo_53 rfl ?_
          refine vv_lload_n C dX12_isOfTwo_54 rfl ?_
          refine vv_lsub C dX12_isOfTwo_55 ?_
          refine vs_eql (v9 := lN (n - a)) (xn_lsub (by omega)) ?_
          refine vs_calli C dX12_isOfTwo_56 (c_X12_isWhole g S46 hfl (hS2.tr e6).2 (n - a) (by omega)) mb_X12_isWhole mv_X12_isWhole lk_X12_111 ce_65 rfl rfl rfl rfl ⟨Nat.le_of_ble_eq_true rfl, Nat.le_of_ble_eq_true rfl, Nat.le_of_ble_eq_true rfl⟩ (fun r56 S56 p56 => ?_)
          refine vv_if_eq (tgt := 64) C dX12_isOfTwo_59 (by decide) (fun q59 => ?_) (fun q59 => ?_)
          · obtain ⟨e7, e8⟩ := p56
            rw [e7] at q59
            exact goon hle (by rw [he, z1, vs_b0.mp q59]; rfl) S56 ((hS2.tr e6).tr e8)
          · obtain ⟨e7, e8⟩ := p56
            rw [e7] at q59
            have z2 := vs_b1.mp q59
            refine vv_iconst C dX12_isOfTwo_62 ic_1 ?_
            exact vs_zret C F dX12_isOfTwo_63 rfl rfl ⟨by rw [he, z1, z2]; rfl, (hS2.tr e6).tr e8⟩
  refine vv_lload_n C dX12_isOfTwo_0 rfl ?_
  refine vv_ldc2 C dX12_isOfTwo_1 kc_X12_90 ?_
  refine vv_lrem C dX12_isOfTwo_4 (by decide) ?_
  refine vv_lconst C dX12_isOfTwo_5 lc_1 ?_
  refine vv_lcmp C dX12_isOfTwo_6 ?_
  refine vv_if_ne (tgt := 20) C dX12_isOfTwo_7 (by decide) (fun q7 => ?_) (fun q7 => ?_)
  · refine vv_lload_n C dX12_isOfTwo_20 rfl ?_
    refine vv_ldc2 C dX12_isOfTwo_21 kc_X12_115 ?_
    refine vv_lcmp C dX12_isOfTwo_24 ?_
    refine vv_if_ne (tgt := 30) C dX12_isOfTwo_25 (by decide) (fun q25 => ?_) (fun q25 => ?_)
    · refine vv_ldc2 C dX12_isOfTwo_30 kc_X12_92 ?_
      refine vw_lstore_n (lv9 := [_, _, _, _, _]) C dX12_isOfTwo_33 (by decide) rfl rfl ?_
      exact loop n 3 S (nm_to.rf hS) (by omega) (by omega) (by omega) (by unfold np_go; rw [if_neg (fun z => q7 (e0.mpr z)), if_neg (fun z => q25 (e4.mpr z))])
    · refine vv_iconst C dX12_isOfTwo_28 ic_1 ?_
      exact vs_zret C F dX12_isOfTwo_29 rfl rfl ⟨by unfold np_go; rw [if_neg (fun z => q7 (e0.mpr z)), if_pos (e4.mp q25)]; rfl, nm_to.rf hS⟩
  · refine vv_aload_n C dX12_isOfTwo_10 rfl ?_
    refine vv_lload_n C dX12_isOfTwo_11 rfl ?_
    refine vv_ldc2 C dX12_isOfTwo_12 kc_X12_90 ?_
    refine vv_lsub C dX12_isOfTwo_15 ?_
    refine vs_eql (v9 := lN (n - 2)) (by rw [xn_lit64, xn_lsub (by omega)]) ?_
    refine vs_calli C dX12_isOfTwo_16 (c_X12_isWhole g S hfl hS (n - 2) (by omega)) mb_X12_isWhole mv_X12_isWhole lk_X12_111 ce_65 rfl rfl rfl rfl ⟨Nat.le_of_ble_eq_true rfl, Nat.le_of_ble_eq_true rfl, Nat.le_of_ble_eq_true rfl⟩ (fun r16 S16 p16 => ?_)
    obtain ⟨e5, e6⟩ := p16
    subst e5
    exact vs_zret C F dX12_isOfTwo_19 rfl vs_bz ⟨by unfold np_go; rw [if_pos (e0.mp q7)], e6⟩
set_option maxRecDepth 20000 in
theorem c_X12_isLawful (g : vv_G) (S : vs_S) (hfl : vv_fl g = false) (hS : nm_ok S) (law : Nat) (hl : law ≤ 3) (hs : S.1 23 = nI law) (n : Nat) (hn : n ≤ 1000000000000) : vs_KI g yX12_isLawful cX12_isLawful 5 (some .boolean) 4 [vv_r g 65, .long (lN n)] S (fun r S1 => r = vs_b (np_lm law n) ∧ nm_to S S1) := by
  refine vs_ofI (lv := [_, _, _, _, _]) mb_X12_isLawful (Nat.le_of_ble_eq_true rfl) rfl (fun x C F => ?_)
  refine vv_lload_n C dX12_isLawful_0 rfl ?_
  refine vv_ldc2 C dX12_isLawful_1 kc_X12_90 ?_
  refine vv_lcmp C dX12_isLawful_4 ?_
  refine vv_if_ge (tgt := 10) C dX12_isLawful_5 (by decide) (fun q5 => ?_) (fun q5 => ?_)
  · have h2 : 2 ≤ n := by rw [lg_cmp_ge, xn_lit64, xn_lle (by omega) (by omega)] at q5; exact q5
    have hlp := np_lp_le h2
    have hlp2 := (np_lp_spec h2).1
    have hdv : n / np_lp n ≤ n := Nat.div_le_self _ _
    have e1 : lg_cmp (lN (np_lp n)) (lN n) < 0 ↔ np_lp n < n := by rw [lg_cmp_lt, xn_llt (by omega) (by omega)]
    refine vv_aload_n C dX12_isLawful_10 rfl ?_
    refine gf_X12_law1 C dX12_isLawful_11 fg_X12_117 ?_
    refine vv_if_ne (tgt := 23) C dX12_isLawful_14 (by decide) (fun q14 => ?_) (fun q14 => ?_)
    · have e9 : ¬ law = 0 := fun z => q14 (by rw [hs, z]; rfl)
      refine vv_aload_n C dX12_isLawful_23 rfl ?_
      refine gf_X12_law1 C dX12_isLawful_24 fg_X12_117 ?_
      refine vv_iconst C dX12_isLawful_27 ic_1 ?_
      refine vv_icmp_ne (tgt := 58) C dX12_isLawful_28 (by decide) (fun q28 => ?_) (fun q28 => ?_)
      · have e8 : ¬ law = 1 := fun z => q28 (by rw [hs, z]; rfl)
        refine vv_aload_n C dX12_isLawful_58 rfl ?_
        refine gf_X12_law1 C dX12_isLawful_59 fg_X12_117 ?_
        refine vv_iconst C dX12_isLawful_62 ic_2 ?_
        refine vv_icmp_ne (tgt := 74) C dX12_isLawful_63 (by decide) (fun q63 => ?_) (fun q63 => ?_)
        · have e7 : ¬ law = 2 := fun z => q63 (by rw [hs, z]; rfl)
          refine vv_aload_n C dX12_isLawful_74 rfl ?_
          refine vv_lload_n C dX12_isLawful_75 rfl ?_
          refine vs_calli C dX12_isLawful_76 (c_X12_isWhole g S hfl hS n (by omega)) mb_X12_isWhole mv_X12_isWhole lk_X12_111 ce_65 rfl rfl rfl rfl ⟨Nat.le_of_ble_eq_true rfl, Nat.le_of_ble_eq_true rfl, Nat.le_of_ble_eq_true rfl⟩ (fun r76 S76 p76 => ?_)
          obtain ⟨e5, t76⟩ := p76
          subst e5
          refine vv_if_eq (tgt := 110) C dX12_isLawful_79 (by decide) (fun q79 => ?_) (fun q79 => ?_)
          · refine vv_iconst C dX12_isLawful_110 ic_0 ?_
            first
            | exact vs_zret C F dX12_isLawful_111 rfl vs_bz ⟨by unfold np_lm; rw [if_neg (by omega), if_neg (by omega), if_neg (by omega), if_pos rfl], t68⟩
            | exact vs_zret C F dX12_isLawful_111 rfl rfl ⟨by unfold np_lm; rw [if_neg (by omega), if_neg e9, if_neg e8, if_neg e7]; simp only [vs_b0, vs_b1] at *; simp [*, vs_b], by first | exact t100 | exact t88 | exact t76⟩
          · refine vv_aload_n C dX12_isLawful_82 rfl ?_
            refine vv_lload_n C dX12_isLawful_83 rfl ?_
            refine vv_ldc2 C dX12_isLawful_84 kc_X12_90 ?_
            refine vv_ladd C dX12_isLawful_87 ?_
            refine vs_eql (v9 := lN (n + 2)) (lN_add n 2) ?_
            refine vs_calli C dX12_isLawful_88 (c_X12_isWhole g S76 hfl t76.2 _ (by omega)) mb_X12_isWhole mv_X12_isWhole lk_X12_111 ce_65 rfl rfl rfl rfl ⟨Nat.le_of_ble_eq_true rfl, Nat.le_of_ble_eq_true rfl, Nat.le_of_ble_eq_true rfl⟩ (fun r88 S88 p88 => ?_)
            obtain ⟨e6, p88⟩ := p88
            subst e6
            have t88 := t76.tr p88
            refine vv_if_ne (tgt := 106) C dX12_isLawful_91 (by decide) (fun q91 => ?_) (fun q91 => ?_)
            · refine vv_iconst C dX12_isLawful_106 ic_1 ?_
              refine vv_goto (tgt := 111) C dX12_isLawful_107 (by decide) ?_
              first
              | exact vs_zret C F dX12_isLawful_111 rfl vs_bz ⟨by unfold np_lm; rw [if_neg (by omega), if_neg (by omega), if_neg (by omega), if_pos rfl], t68⟩
              | exact vs_zret C F dX12_isLawful_111 rfl rfl ⟨by unfold np_lm; rw [if_neg (by omega), if_neg e9, if_neg e8, if_neg e7]; simp only [vs_b0, vs_b1] at *; simp [*, vs_b], by first | exact t100 | exact t88 | exact t76⟩
            · refine vv_aload_n C dX12_isLawful_94 rfl ?_
              refine vv_lload_n C dX12_isLawful_95 rfl ?_
              refine vv_ldc2 C dX12_isLawful_96 kc_X12_90 ?_
              refine vv_lsub C dX12_isLawful_99 ?_
              refine vs_eql (v9 := lN (n - 2)) (by rw [xn_lit64, xn_lsub (by omega)]) ?_
              refine vs_calli C dX12_isLawful_100 (c_X12_isWhole g S88 hfl t88.2 _ (by omega)) mb_X12_isWhole mv_X12_isWhole lk_X12_111 ce_65 rfl rfl rfl rfl ⟨Nat.le_of_ble_eq_true rfl, Nat.le_of_ble_eq_true rfl, Nat.le_of_ble_eq_true rfl⟩ (fun r100 S100 p100 => ?_)
              obtain ⟨e6, p100⟩ := p100
              subst e6
              have t100 := t88.tr p100
              refine vv_if_eq (tgt := 110) C dX12_isLawful_103 (by decide) (fun q103 => ?_) (fun q103 => ?_)
              · refine vv_iconst C dX12_isLawful_110 ic_0 ?_
                first
                | exact vs_zret C F dX12_isLawful_111 rfl vs_bz ⟨by unfold np_lm; rw [if_neg (by omega), if_neg (by omega), if_neg (by omega), if_pos rfl], t68⟩
                | exact vs_zret C F dX12_isLawful_111 rfl rfl ⟨by unfold np_lm; rw [if_neg (by omega), if_neg e9, if_neg e8, if_neg e7]; simp only [vs_b0, vs_b1] at *; simp [*, vs_b], by first | exact t100 | exact t88 | exact t76⟩
              · refine vv_iconst C dX12_isLawful_106 ic_1 ?_
                refine vv_goto (tgt := 111) C dX12_isLawful_107 (by decide) ?_
                first
                | exact vs_zret C F dX12_isLawful_111 rfl vs_bz ⟨by unfold np_lm; rw [if_neg (by omega), if_neg (by omega), if_neg (by omega), if_pos rfl], t68⟩
                | exact vs_zret C F dX12_isLawful_111 rfl rfl ⟨by unfold np_lm; rw [if_neg (by omega), if_neg e9, if_neg e8, if_neg e7]; simp only [vs_b0, vs_b1] at *; simp [*, vs_b], by first | exact t100 | exact t88 | exact t76⟩
        · have e : law = 2 := by rw [hs, xn_lit] at q63; exact (xn_eq (by omega) (by omega)).mp q63
          subst e
          refine vv_aload_n C dX12_isLawful_66 rfl ?_
          refine vv_lload_n C dX12_isLawful_67 rfl ?_
          refine vs_calli C dX12_isLawful_68 (c_X12_isOfTwo g S hfl hS n h2 hn) mb_X12_isOfTwo mv_X12_isOfTwo lk_X12_120 ce_65 rfl rfl rfl rfl ⟨Nat.le_of_ble_eq_true rfl, Nat.le_of_ble_eq_true rfl, Nat.le_of_ble_eq_true rfl⟩ (fun r68 S68 p68 => ?_)
          obtain ⟨e5, t68⟩ := p68
          subst e5
          refine vv_goto (tgt := 111) C dX12_isLawful_71 (by decide) ?_
          first
          | exact vs_zret C F dX12_isLawful_111 rfl vs_bz ⟨by unfold np_lm; rw [if_neg (by omega), if_neg (by omega), if_neg (by omega), if_pos rfl], t68⟩
          | exact vs_zret C F dX12_isLawful_111 rfl rfl ⟨by unfold np_lm; rw [if_neg (by omega), if_neg e9, if_neg e8, if_neg e7]; simp only [vs_b0, vs_b1] at *; simp [*, vs_b], by first | exact t100 | exact t88 | exact t76⟩
      · have e : law = 1 := by rw [hs, xn_lit] at q28; exact (xn_eq (by omega) (by omega)).mp q28
        subst e
        refine vv_lload_n C dX12_isLawful_31 rfl ?_
        refine vs_calslF C dX12_isLawful_32 (c_X12_leastPart g S n h2 (by omega)) mb_X12_leastPart ms_X12_leastPart lk_X12_104 rfl rfl ⟨Nat.le_of_ble_eq_true rfl, Nat.le_of_ble_eq_true rfl, Nat.le_of_ble_eq_true rfl⟩ ?_
        refine vw_lstore_n (lv9 := [_, _, _, _, _]) C dX12_isLawful_35 (by decide) rfl rfl ?_
        refine vv_lload_n C dX12_isLawful_36 rfl ?_
        refine vv_lload_n C dX12_isLawful_37 rfl ?_
        refine vv_lcmp C dX12_isLawful_38 ?_
        refine vv_if_ge (tgt := 56) C dX12_isLawful_39 (by decide) (fun q39 => ?_) (fun q39 => ?_)
        · have z9 : ¬ np_lp n < n := fun z => absurd (e1.mpr z) (Int32.not_lt.mpr q39)
          refine vv_iconst C dX12_isLawful_56 ic_0 ?_
          exact vs_zret C F dX12_isLawful_57 rfl rfl ⟨by unfold np_lm; rw [if_neg (by omega), if_neg (by omega), if_pos rfl]; (try simp only [vs_b0, vs_b1] at *); simp [*, vs_b], by first | exact t46 | exact nm_to.rf hS⟩
        · have z9 : np_lp n < n := e1.mp (Int32.not_le.mp q39)
          refine vv_aload_n C dX12_isLawful_42 rfl ?_
          refine vv_lload_n C dX12_isLawful_43 rfl ?_
          refine vv_lload_n C dX12_isLawful_44 rfl ?_
          refine vv_ldiv C dX12_isLawful_45 (np_lne (by omega) (by omega)) ?_
          refine vs_eql (v9 := lN (n / np_lp n)) (xn_ldiv (by omega) (by omega)) ?_
          refine vs_calli C dX12_isLawful_46 (c_X12_isWhole g S hfl hS _ (by omega)) mb_X12_isWhole mv_X12_isWhole lk_X12_111 ce_65 rfl rfl rfl rfl ⟨Nat.le_of_ble_eq_true rfl, Nat.le_of_ble_eq_true rfl, Nat.le_of_ble_eq_true rfl⟩ (fun r46 S46 p46 => ?_)
          obtain ⟨e5, t46⟩ := p46
          subst e5
          refine vv_if_eq (tgt := 56) C dX12_isLawful_49 (by decide) (fun q49 => ?_) (fun q49 => ?_)
          · refine vv_iconst C dX12_isLawful_56 ic_0 ?_
            exact vs_zret C F dX12_isLawful_57 rfl rfl ⟨by unfold np_lm; rw [if_neg (by omega), if_neg (by omega), if_pos rfl]; (try simp only [vs_b0, vs_b1] at *); simp [*, vs_b], by first | exact t46 | exact nm_to.rf hS⟩
          · refine vv_iconst C dX12_isLawful_52 ic_1 ?_
            refine vv_goto (tgt := 57) C dX12_isLawful_53 (by decide) ?_
            exact vs_zret C F dX12_isLawful_57 rfl rfl ⟨by unfold np_lm; rw [if_neg (by omega), if_neg (by omega), if_pos rfl]; (try simp only [vs_b0, vs_b1] at *); simp [*, vs_b], by first | exact t46 | exact nm_to.rf hS⟩
    · have e : law = 0 := by rw [hs] at q14; exact (xn_eq (by omega) (by omega)).mp q14
      subst e
      refine vv_aload_n C dX12_isLawful_17 rfl ?_
      refine vv_lload_n C dX12_isLawful_18 rfl ?_
      refine vs_calli C dX12_isLawful_19 (c_X12_isWhole g S hfl hS n (by omega)) mb_X12_isWhole mv_X12_isWhole lk_X12_111 ce_65 rfl rfl rfl rfl ⟨Nat.le_of_ble_eq_true rfl, Nat.le_of_ble_eq_true rfl, Nat.le_of_ble_eq_true rfl⟩ (fun r19 S19 p19 => ?_)
      obtain ⟨e5, t19⟩ := p19
      subst e5
      exact vs_zret C F dX12_isLawful_22 rfl vs_bz ⟨by unfold np_lm; rw [if_neg (by omega), if_pos rfl], t19⟩
  · have h2 : n < 2 := by rw [lg_cmp_ge, xn_lit64, xn_lle (by omega) (by omega)] at q5; omega
    refine vv_iconst C dX12_isLawful_8 ic_0 ?_
    exact vs_zret C F dX12_isLawful_9 rfl rfl ⟨by unfold np_lm; rw [if_pos h2]; rfl, nm_to.rf hS⟩
