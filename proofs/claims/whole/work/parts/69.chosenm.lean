def cs_n (S : vs_S) (x p n : Int32) : vs_S := vs_ua (vs_ua (vs_ua (vs_ua (vs_ua S 78 (upd (S.2.1 78) (0 : Int32).toNatClampNeg x)) 78 (upd ((upd (S.2.1 78) (0 : Int32).toNatClampNeg x)) (1 : Int32).toNatClampNeg p)) 78 (upd (upd ((upd (S.2.1 78) (0 : Int32).toNatClampNeg x)) (1 : Int32).toNatClampNeg p) (2 : Int32).toNatClampNeg n)) 78 (upd (upd (upd ((upd (S.2.1 78) (0 : Int32).toNatClampNeg x)) (1 : Int32).toNatClampNeg p) (2 : Int32).toNatClampNeg n) (3 : Int32).toNatClampNeg (x % 10))) 78 (upd (upd (upd (upd ((upd (S.2.1 78) (0 : Int32).toNatClampNeg x)) (1 : Int32).toNatClampNeg p) (2 : Int32).toNatClampNeg n) (3 : Int32).toNatClampNeg (x % 10)) (4 : Int32).toNatClampNeg (x / 100))
theorem cs_v (S : vs_S) (x p n : Int32) : ∀ k, k < 5 → (cs_n S x p n).2.1 78 k = nmF x p n k := by
  intro k hk
  have h : k = 0 ∨ k = 1 ∨ k = 2 ∨ k = 3 ∨ k = 4 := by omega
  rcases h with e | e | e | e | e <;> subst e <;> rfl
theorem cs_fr (S : vs_S) (x p n : Int32) : vs_fr [24, 29, 30, 31, 32, 33] [70, 78] [] S (cs_n S x p n) := ((((vs_fr.rf.ua (by decide)).ua (by decide)).ua (by decide)).ua (by decide)).ua (by decide)
set_option maxRecDepth 20000 in
theorem c_X12_chosen (g : vv_G) (S : vs_S) (hfl : vv_fl g = false) (hS : nm_ok S) (law : Nat) (hl : law ≤ 3) (hs0 : S.1 23 = nI law) (q : qT) (hq : slM S q) (a b w : Int32) : vs_KI g yX12_chosen cX12_chosen 10 (some .int) 46 [vv_r g 65, .int a, .int b, .int w] S (fun r S1 => r = k_chosen (np_lm law) (sv q) a b w ∧ vs_fr [24, 29, 30, 31, 32, 33] [70, 78] [] S S1 ∧ nm_ok S1) := by
  refine vs_ofI (lv := [_, _, _, _, _, _, _, _, _, _]) mb_X12_chosen (Nat.le_of_ble_eq_true rfl) rfl (fun x C F => ?_)
  refine vv_iload_n C dX12_chosen_0 rfl ?_
  refine vv_iload_n C dX12_chosen_1 rfl ?_
  refine vs_calsiF C dX12_chosen_2 (c_X12_areEnds g S a b) mb_X12_areEnds ms_X12_areEnds lk_X12_204 rfl rfl ⟨by omega, by omega, Nat.le_of_ble_eq_true rfl⟩ ?_
  refine vv_if_eq (tgt := 27) C dX12_chosen_5 (by decide) (fun q5 => ?_) (fun q5 => ?_)
  · have w1 := vs_b0.mp q5
    have hv : k_chosen (np_lm law) (sv q) a b w = -2000000000 := if_neg (by rw [w1, Bool.false_and]; decide)
    refine vv_ldcw C dX12_chosen_27 kc_X12_259 ?_
    exact vs_iret C F dX12_chosen_30 rfl ⟨hv.symm, vs_fr.rf, hS⟩
  · have w1 := vs_b1.mp q5
    refine vv_iload_n C dX12_chosen_8 rfl ?_
    refine vv_iload_n C dX12_chosen_9 rfl ?_
    refine vv_isub C dX12_chosen_10 ?_
    refine vv_sipush C dX12_chosen_11 sp_2000 ?_
    refine vv_icmp_gt (tgt := 27) C dX12_chosen_14 (by decide) (fun q14 => ?_) (fun q14 => ?_)
    · have hv : k_chosen (np_lm law) (sv q) a b w = -2000000000 := if_neg (by rw [w1, decide_eq_false (p := b - a ≤ 2000) (Int32.not_le.mpr q14), Bool.false_and, Bool.and_false]; decide)
      refine vv_ldcw C dX12_chosen_27 kc_X12_259 ?_
      exact vs_iret C F dX12_chosen_30 rfl ⟨hv.symm, vs_fr.rf, hS⟩
    · have w2 : decide (b - a ≤ 2000) = true := decide_eq_true (Int32.not_lt.mp q14)
      refine vv_iload_n C dX12_chosen_17 rfl ?_
      refine vv_i2l C dX12_chosen_18 ?_
      refine vv_lconst C dX12_chosen_19 lc_0 ?_
      refine vs_eql (v9 := (0 : Int32).toInt64) (by decide +kernel) ?_
      refine vv_lconst C dX12_chosen_20 lc_1 ?_
      refine vs_eql (v9 := (1 : Int32).toInt64) (by decide +kernel) ?_
      refine vs_calsiF C dX12_chosen_21 (c_X12_within g S _ _ _) mb_X12_within ms_X12_within lk_X12_123 rfl rfl ⟨by omega, by omega, Nat.le_of_ble_eq_true rfl⟩ ?_
      refine vv_if_ne (tgt := 31) C dX12_chosen_24 (by decide) (fun q24 => ?_) (fun q24 => ?_)
      · have w3 : vs_w w 0 1 = true := vs_b1.mp q24
        obtain ⟨a1, b1, hxy, hy1, ea, eb⟩ := ch_ab w1
        subst ea eb
        have hval : k_chosen (np_lm law) (sv q) (nI a1) (nI b1) w = if (k_ch (np_lm law) (sv q) a1 b1).1 = 0 then -2000000000 else if w = 0 then (k_ch (np_lm law) (sv q) a1 b1).2.1 else (k_ch (np_lm law) (sv q) a1 b1).2.2 := by
          unfold k_chosen
          rw [w1, w2, w3, xn_cl (n := a1) (by omega), xn_cl (n := b1) (by omega)]
          rfl
        refine vv_iconst C dX12_chosen_31 ic_m1 ?_
        refine vw_istore (lv9 := [_, _, _, _, _, _, _, _, _, _]) C dX12_chosen_32 (by decide) rfl rfl ?_
        refine vv_iconst C dX12_chosen_34 ic_0 ?_
        refine vw_istore (lv9 := [_, _, _, _, _, _, _, _, _, _]) C dX12_chosen_35 (by decide) rfl rfl ?_
        refine vv_iconst C dX12_chosen_37 ic_0 ?_
        refine vw_istore (lv9 := [_, _, _, _, _, _, _, _, _, _]) C dX12_chosen_38 (by decide) rfl rfl ?_
        refine vv_aload_n C dX12_chosen_40 rfl ?_
        refine vv_iload_n C dX12_chosen_41 rfl ?_
        refine vv_iconst C dX12_chosen_42 ic_1 ?_
        refine vv_isub C dX12_chosen_43 ?_
        refine vs_calli C dX12_chosen_44 (c_X12_lastOf g S hfl hS law hl hs0 _) mb_X12_lastOf mv_X12_lastOf lk_X12_200 ce_65 rfl rfl rfl rfl ⟨by omega, by omega, Nat.le_of_ble_eq_true rfl⟩ (fun r44 S44 p44 => ?_)
        obtain ⟨e44, t44⟩ := p44
        subst e44
        refine vw_istore (lv9 := [_, _, _, _, _, _, _, _, _, _]) C dX12_chosen_47 (by decide) rfl rfl ?_
        refine vv_iload_n C dX12_chosen_49 rfl ?_
        refine vw_istore (lv9 := [_, _, _, _, _, _, _, _, _, _]) C dX12_chosen_50 (by decide) rfl rfl ?_
        have loop : ∀ (f y : Nat) (pv : Int32) (c : Nat) (bb : Int32 × Int32) (w9 : Option Value) (S1 : vs_S), y + f = b1 + 1 → c ≤ y → (vs_fr [24, 29, 30, 31, 32, 33] [70, 78] [] S S1 ∧ nm_ok S1) → (pv < 0 ↔ pv = -2) → ((c = 0 → bb = (0, 0)) ∧ 0 ≤ bb.1) → k_cs (np_lm law) (sv q) f y pv c bb = (k_ch (np_lm law) (sv q) a1 b1) → vv_V g x 10 0 0 52 [some (vv_r g 65), some (.int (nI a1)), some (.int (nI b1)), some (.int w), some (.int (if c = 0 then -1 else bb.1)), some (.int bb.2), some (.int (nI c)), some (.int pv), some (.int (nI y)), w9] [] (vs_cells g S1) := by
          intro f
          induction f with
          | zero =>
            intro y pv c bb w9 S1 hi hcy hJ hpv hbb he
            refine vv_iload C dX12_chosen_52 rfl ?_
            refine vv_iload_n C dX12_chosen_54 rfl ?_
            refine vv_icmp_gt (tgt := 185) C dX12_chosen_55 (by decide) (fun q55 => ?_) (fun q55 => ?_)
            · skip
              refine vv_iload C dX12_chosen_185 rfl ?_
              refine vv_if_ge (tgt := 196) C dX12_chosen_187 (by decide) (fun q187 => ?_) (fun q187 => ?_)
              · have hc0 : ¬ c = 0 := fun z => by
                  rw [if_pos z] at q187
                  exact absurd q187 (by decide)
                refine vv_iload_n C dX12_chosen_196 rfl ?_
                refine vv_if_ne (tgt := 205) C dX12_chosen_197 (by decide) (fun q197 => ?_) (fun q197 => ?_)
                · skip
                  refine vv_iload C dX12_chosen_205 rfl ?_
                  first
                  | exact vs_iret C F dX12_chosen_207 rfl ⟨by rw [hval, ← he, if_pos (show (k_cs (np_lm law) (sv q) 0 y pv c bb).1 = 0 from hc0)], hJ⟩
                  | exact vs_iret C F dX12_chosen_207 rfl ⟨by rw [hval, ← he, if_neg (show ¬ (k_cs (np_lm law) (sv q) 0 y pv c bb).1 = 0 from hc0), if_neg q197]; rfl, hJ⟩
                  | exact vs_iret C F dX12_chosen_207 rfl ⟨by rw [hval, ← he, if_neg (show ¬ (k_cs (np_lm law) (sv q) 0 y pv c bb).1 = 0 from hc0), if_pos q197, if_neg hc0]; rfl, hJ⟩
                · skip
                  refine vv_iload C dX12_chosen_200 rfl ?_
                  refine vv_goto (tgt := 207) C dX12_chosen_202 (by decide) ?_
                  first
                  | exact vs_iret C F dX12_chosen_207 rfl ⟨by rw [hval, ← he, if_pos (show (k_cs (np_lm law) (sv q) 0 y pv c bb).1 = 0 from hc0)], hJ⟩
                  | exact vs_iret C F dX12_chosen_207 rfl ⟨by rw [hval, ← he, if_neg (show ¬ (k_cs (np_lm law) (sv q) 0 y pv c bb).1 = 0 from hc0), if_neg q197]; rfl, hJ⟩
                  | exact vs_iret C F dX12_chosen_207 rfl ⟨by rw [hval, ← he, if_neg (show ¬ (k_cs (np_lm law) (sv q) 0 y pv c bb).1 = 0 from hc0), if_pos q197, if_neg hc0]; rfl, hJ⟩
              · have hc0 : c = 0 := by
                  apply Decidable.byContradiction
                  intro z
                  rw [if_neg z] at q187
                  exact q187 hbb.2
                refine vv_ldcw C dX12_chosen_190 kc_X12_259 ?_
                refine vv_goto (tgt := 207) C dX12_chosen_193 (by decide) ?_
                first
                | exact vs_iret C F dX12_chosen_207 rfl ⟨by rw [hval, ← he, if_pos (show (k_cs (np_lm law) (sv q) 0 y pv c bb).1 = 0 from hc0)], hJ⟩
                | exact vs_iret C F dX12_chosen_207 rfl ⟨by rw [hval, ← he, if_neg (show ¬ (k_cs (np_lm law) (sv q) 0 y pv c bb).1 = 0 from hc0), if_neg q197]; rfl, hJ⟩
                | exact vs_iret C F dX12_chosen_207 rfl ⟨by rw [hval, ← he, if_neg (show ¬ (k_cs (np_lm law) (sv q) 0 y pv c bb).1 = 0 from hc0), if_pos q197, if_neg hc0]; rfl, hJ⟩
            · exact absurd (show nI b1 < nI y by rw [xn_lt (by omega) (by omega)]; omega) q55
          | succ f ih =>
            intro y pv c bb w9 S1 hi hcy hJ hpv hbb he
            rw [k_csS f] at he
            refine vv_iload C dX12_chosen_52 rfl ?_
            refine vv_iload_n C dX12_chosen_54 rfl ?_
            refine vv_icmp_gt (tgt := 185) C dX12_chosen_55 (by decide) (fun q55 => ?_) (fun q55 => ?_)
            · exact absurd q55 (by rw [xn_lt (by omega) (by omega)]; omega)
            · skip
              refine vv_aload_n C dX12_chosen_58 rfl ?_
              refine vv_iload C dX12_chosen_59 rfl ?_
              refine vv_i2l C dX12_chosen_61 ?_
              refine vs_eql (v9 := lN y) (xn_i2l (by omega)) ?_
              refine vs_calli C dX12_chosen_62 (c_X12_isLawful g S1 hfl hJ.2 law hl ((hJ.1.1 23 (by decide)).trans hs0) y (by omega)) mb_X12_isLawful mv_X12_isLawful lk_X12_135 ce_65 rfl rfl rfl rfl ⟨by omega, by omega, Nat.le_of_ble_eq_true rfl⟩ (fun r62 S62 p62 => ?_)
              obtain ⟨e62, t62⟩ := p62
              subst e62
              have hJ2 : vs_fr [24, 29, 30, 31, 32, 33] [70, 78] [] S S62 ∧ nm_ok S62 := ⟨hJ.1.tr (t62.1.wd (by decide) (by decide) (by decide)), t62.2⟩
              refine vv_if_ne (tgt := 71) C dX12_chosen_65 (by decide) (fun q65 => ?_) (fun q65 => ?_)
              · rw [vs_b1.mp q65, if_pos rfl] at he
                have hq2 : slM S62 q := hq.fr hJ2.1 (by decide) (by decide)
                refine vw_iinc (lv9 := [_, _, _, _, _, _, _, _, _, _]) C dX12_chosen_71 rfl ic_1 (by decide) rfl rfl ?_
                rw [nI_1]
                have tail : ∀ (v : Int32) (Sx : vs_S), v = (sv q (nmF (nI y) (if pv = -2 then 0 else nI y - pv) (nI (c + 1)))) → (vs_fr [24, 29, 30, 31, 32, 33] [70, 78] [] S Sx ∧ nm_ok Sx) → vv_V g x 10 0 0 153 [some (vv_r g 65), some (.int (nI a1)), some (.int (nI b1)), some (.int w), some (.int (if c = 0 then -1 else bb.1)), some (.int bb.2), some (.int (nI (c + 1))), some (.int pv), some (.int (nI y)), w9] [.int v] (vs_cells g Sx) := by
                  intro v Sx hv hJx
                  subst hv
                  refine vw_istore (lv9 := [_, _, _, _, _, _, _, _, _, _]) C dX12_chosen_153 (by decide) rfl rfl ?_
                  refine vv_iload C dX12_chosen_155 rfl ?_
                  refine vv_if_lt (tgt := 167) C dX12_chosen_157 (by decide) (fun q157 => ?_) (fun q157 => ?_)
                  · have hc0 : c = 0 := by
                      apply Decidable.byContradiction
                      intro z
                      rw [if_neg z] at q157
                      exact Int32.not_lt.mpr hbb.2 q157
                    rw [if_pos (Or.inl hc0)] at he
                    refine vv_iload C dX12_chosen_167 rfl ?_
                    refine vw_istore (lv9 := [_, _, _, _, _, _, _, _, _, _]) C dX12_chosen_169 (by decide) rfl rfl ?_
                    refine vv_iload C dX12_chosen_171 rfl ?_
                    refine vw_istore (lv9 := [_, _, _, _, _, _, _, _, _, _]) C dX12_chosen_173 (by decide) rfl rfl ?_
                    refine vv_iload C dX12_chosen_175 rfl ?_
                    refine vw_istore (lv9 := [_, _, _, _, _, _, _, _, _, _]) C dX12_chosen_177 (by decide) rfl rfl ?_
                    refine vw_iinc (lv9 := [_, _, _, _, _, _, _, _, _, _]) C dX12_chosen_179 rfl ic_1 (by decide) rfl rfl ?_
                    refine vv_goto (tgt := 52) C dX12_chosen_182 (by decide) ?_
                    rw [nI_1]
                    first
                    | (have k := ih (y + 1) (nI y) (c + 1) (nI y, (sv q (nmF (nI y) (if pv = -2 then 0 else nI y - pv) (nI (c + 1))))) (some (.int (sv q (nmF (nI y) (if pv = -2 then 0 else nI y - pv) (nI (c + 1)))))) Sx (by omega) (by omega) hJx ⟨fun z => absurd z (xn_neg (by omega)), fun z => absurd (show nI y < 0 by rw [z]; decide) (xn_neg (by omega))⟩ ⟨fun z => absurd z (Nat.succ_ne_zero c), nI_pos' (by omega)⟩ he
                       rw [if_neg (Nat.succ_ne_zero c)] at k
                       exact k)
                    | (have k := ih (y + 1) (nI y) (c + 1) bb (some (.int (sv q (nmF (nI y) (if pv = -2 then 0 else nI y - pv) (nI (c + 1)))))) Sx (by omega) (by omega) hJx ⟨fun z => absurd z (xn_neg (by omega)), fun z => absurd (show nI y < 0 by rw [z]; decide) (xn_neg (by omega))⟩ ⟨fun z => absurd z (Nat.succ_ne_zero c), hbb.2⟩ he
                       rw [if_neg (Nat.succ_ne_zero c)] at k
                       rw [if_neg hc0]
                       exact k)
                  · have hc0 : ¬ c = 0 := fun z => by
                      rw [if_pos z] at q157
                      exact q157 (by decide)
                    refine vv_iload C dX12_chosen_160 rfl ?_
                    refine vv_iload C dX12_chosen_162 rfl ?_
                    refine vv_icmp_le (tgt := 175) C dX12_chosen_164 (by decide) (fun q164 => ?_) (fun q164 => ?_)
                    · rw [if_neg (fun z => z.elim hc0 (fun z => Int32.not_lt.mpr q164 z))] at he
                      refine vv_iload C dX12_chosen_175 rfl ?_
                      refine vw_istore (lv9 := [_, _, _, _, _, _, _, _, _, _]) C dX12_chosen_177 (by decide) rfl rfl ?_
                      refine vw_iinc (lv9 := [_, _, _, _, _, _, _, _, _, _]) C dX12_chosen_179 rfl ic_1 (by decide) rfl rfl ?_
                      refine vv_goto (tgt := 52) C dX12_chosen_182 (by decide) ?_
                      rw [nI_1]
                      first
                      | (have k := ih (y + 1) (nI y) (c + 1) (nI y, (sv q (nmF (nI y) (if pv = -2 then 0 else nI y - pv) (nI (c + 1))))) (some (.int (sv q (nmF (nI y) (if pv = -2 then 0 else nI y - pv) (nI (c + 1)))))) Sx (by omega) (by omega) hJx ⟨fun z => absurd z (xn_neg (by omega)), fun z => absurd (show nI y < 0 by rw [z]; decide) (xn_neg (by omega))⟩ ⟨fun z => absurd z (Nat.succ_ne_zero c), nI_pos' (by omega)⟩ he
                         rw [if_neg (Nat.succ_ne_zero c)] at k
                         exact k)
                      | (have k := ih (y + 1) (nI y) (c + 1) bb (some (.int (sv q (nmF (nI y) (if pv = -2 then 0 else nI y - pv) (nI (c + 1)))))) Sx (by omega) (by omega) hJx ⟨fun z => absurd z (xn_neg (by omega)), fun z => absurd (show nI y < 0 by rw [z]; decide) (xn_neg (by omega))⟩ ⟨fun z => absurd z (Nat.succ_ne_zero c), hbb.2⟩ he
                         rw [if_neg (Nat.succ_ne_zero c)] at k
                         rw [if_neg hc0]
                         exact k)
                    · rw [if_pos (Or.inr (Int32.not_le.mp q164))] at he
                      refine vv_iload C dX12_chosen_167 rfl ?_
                      refine vw_istore (lv9 := [_, _, _, _, _, _, _, _, _, _]) C dX12_chosen_169 (by decide) rfl rfl ?_
                      refine vv_iload C dX12_chosen_171 rfl ?_
                      refine vw_istore (lv9 := [_, _, _, _, _, _, _, _, _, _]) C dX12_chosen_173 (by decide) rfl rfl ?_
                      refine vv_iload C dX12_chosen_175 rfl ?_
                      refine vw_istore (lv9 := [_, _, _, _, _, _, _, _, _, _]) C dX12_chosen_177 (by decide) rfl rfl ?_
                      refine vw_iinc (lv9 := [_, _, _, _, _, _, _, _, _, _]) C dX12_chosen_179 rfl ic_1 (by decide) rfl rfl ?_
                      refine vv_goto (tgt := 52) C dX12_chosen_182 (by decide) ?_
                      rw [nI_1]
                      first
                      | (have k := ih (y + 1) (nI y) (c + 1) (nI y, (sv q (nmF (nI y) (if pv = -2 then 0 else nI y - pv) (nI (c + 1))))) (some (.int (sv q (nmF (nI y) (if pv = -2 then 0 else nI y - pv) (nI (c + 1)))))) Sx (by omega) (by omega) hJx ⟨fun z => absurd z (xn_neg (by omega)), fun z => absurd (show nI y < 0 by rw [z]; decide) (xn_neg (by omega))⟩ ⟨fun z => absurd z (Nat.succ_ne_zero c), nI_pos' (by omega)⟩ he
                         rw [if_neg (Nat.succ_ne_zero c)] at k
                         exact k)
                      | (have k := ih (y + 1) (nI y) (c + 1) bb (some (.int (sv q (nmF (nI y) (if pv = -2 then 0 else nI y - pv) (nI (c + 1)))))) Sx (by omega) (by omega) hJx ⟨fun z => absurd z (xn_neg (by omega)), fun z => absurd (show nI y < 0 by rw [z]; decide) (xn_neg (by omega))⟩ ⟨fun z => absurd z (Nat.succ_ne_zero c), hbb.2⟩ he
                         rw [if_neg (Nat.succ_ne_zero c)] at k
                         rw [if_neg hc0]
                         exact k)
                refine vv_aload_n C dX12_chosen_74 rfl ?_
                refine gf_X12_names C dX12_chosen_75 fg_X12_50 ?_
                refine vv_iconst C dX12_chosen_78 ic_0 ?_
                refine vv_iload C dX12_chosen_79 rfl ?_
                refine st_78 C dX12_chosen_81 (xn_in (n := 0) (by omega) (by omega)) ?_
                refine vv_aload_n C dX12_chosen_82 rfl ?_
                refine gf_X12_names C dX12_chosen_83 fg_X12_50 ?_
                refine vv_iconst C dX12_chosen_86 ic_1 ?_
                refine vv_iload C dX12_chosen_87 rfl ?_
                refine vv_if_ge (tgt := 96) C dX12_chosen_89 (by decide) (fun q89 => ?_) (fun q89 => ?_)
                · skip
                  refine vv_iload C dX12_chosen_96 rfl ?_
                  refine vv_iload C dX12_chosen_98 rfl ?_
                  refine vv_isub C dX12_chosen_100 ?_
                  refine vs_eqi (v9 := (if pv = -2 then 0 else nI y - pv)) (by first | rw [if_pos (hpv.mp (Int32.not_le.mp q89))] | rw [if_neg (fun z => Int32.not_lt.mpr q89 (hpv.mpr z))]) ?_
                  refine st_78 C dX12_chosen_101 (xn_in (n := 1) (by omega) (by omega)) ?_
                  refine vv_aload_n C dX12_chosen_102 rfl ?_
                  refine gf_X12_names C dX12_chosen_103 fg_X12_50 ?_
                  refine vv_iconst C dX12_chosen_106 ic_2 ?_
                  refine vv_iload C dX12_chosen_107 rfl ?_
                  refine st_78 C dX12_chosen_109 (xn_in (n := 2) (by omega) (by omega)) ?_
                  refine vv_aload_n C dX12_chosen_110 rfl ?_
                  refine gf_X12_names C dX12_chosen_111 fg_X12_50 ?_
                  refine vv_iconst C dX12_chosen_114 ic_3 ?_
                  refine vv_iload C dX12_chosen_115 rfl ?_
                  refine vv_bipush C dX12_chosen_117 bp_10 ?_
                  refine vv_irem C dX12_chosen_119 (by decide) ?_
                  refine st_78 C dX12_chosen_120 (xn_in (n := 3) (by omega) (by omega)) ?_
                  refine vv_aload_n C dX12_chosen_121 rfl ?_
                  refine gf_X12_names C dX12_chosen_122 fg_X12_50 ?_
                  refine vv_iconst C dX12_chosen_125 ic_4 ?_
                  refine vv_iload C dX12_chosen_126 rfl ?_
                  refine vv_bipush C dX12_chosen_128 bp_100 ?_
                  refine vv_idiv C dX12_chosen_130 (by decide) ?_
                  refine st_78 C dX12_chosen_131 (xn_in (n := 4) (by omega) (by omega)) ?_
                  refine vs_eqS (S9 := (cs_n S62 (nI y) (if pv = -2 then 0 else nI y - pv) (nI (c + 1)))) (rfl) ?_
                  refine vv_aload_n C dX12_chosen_132 rfl ?_
                  refine gf_X12_textMany C dX12_chosen_133 fg_X12_80 ?_
                  refine vv_if_ge (tgt := 144) C dX12_chosen_136 (by decide) (fun q136 => ?_) (fun q136 => ?_)
                  · obtain ⟨L, B, eqs, h28, hL120, hB, hok⟩ := slM_ge (S := S62) hq2 q136
                    refine vv_aload_n C dX12_chosen_144 rfl ?_
                    refine vv_iconst C dX12_chosen_145 ic_0 ?_
                    refine vv_aload_n C dX12_chosen_146 rfl ?_
                    refine gf_X12_textMany C dX12_chosen_147 fg_X12_80 ?_
                    refine vs_calli C dX12_chosen_150 (c_X12_workOut g (cs_n S62 (nI y) (if pv = -2 then 0 else nI y - pv) (nI (c + 1))) L B _ hL120 0 _ h28 (Or.inr ⟨rfl, hB⟩) rfl) mb_X12_workOut mv_X12_workOut lk_X12_256 ce_65 rfl rfl rfl rfl ⟨by omega, by omega, Nat.le_of_ble_eq_true rfl⟩ (fun r150 S150 p150 => ?_)
                    first
                    | exact tail _ _ (by rw [eq0]; rfl) ⟨hJ2.1.tr (cs_fr _ _ _ _), nm_ok_of hJ2.2 rfl rfl⟩
                    | exact tail _ _ (by
                        rw [(p150.2.1 hok).1, ← sv_N hq2.ok (cs_v S62 (nI y) (if pv = -2 then 0 else nI y - pv) (nI (c + 1))), eqs]
                        rfl) ⟨(hJ2.1.tr (cs_fr _ _ _ _)).tr (p150.1.wd (by decide) (by decide) (by decide)), nm_ok_of hJ2.2 (p150.1.1 24 (by decide)) (p150.1.2.1 70 (by decide))⟩
                  · have eq0 := slM_lt (S := S62) hq2 (Int32.not_le.mp q136)
                    refine vv_iload C dX12_chosen_139 rfl ?_
                    refine vv_goto (tgt := 153) C dX12_chosen_141 (by decide) ?_
                    first
                    | exact tail _ _ (by rw [eq0]; rfl) ⟨hJ2.1.tr (cs_fr _ _ _ _), nm_ok_of hJ2.2 rfl rfl⟩
                    | exact tail _ _ (by
                        rw [(p150.2.1 hok).1, ← sv_N hq2.ok (cs_v S62 (nI y) (if pv = -2 then 0 else nI y - pv) (nI (c + 1))), eqs]
                        rfl) ⟨(hJ2.1.tr (cs_fr _ _ _ _)).tr (p150.1.wd (by decide) (by decide) (by decide)), nm_ok_of hJ2.2 (p150.1.1 24 (by decide)) (p150.1.2.1 70 (by decide))⟩
                · skip
                  refine vv_iconst C dX12_chosen_92 ic_0 ?_
                  refine vv_goto (tgt := 101) C dX12_chosen_93 (by decide) ?_
                  refine vs_eqi (v9 := (if pv = -2 then 0 else nI y - pv)) (by first | rw [if_pos (hpv.mp (Int32.not_le.mp q89))] | rw [if_neg (fun z => Int32.not_lt.mpr q89 (hpv.mpr z))]) ?_
                  refine st_78 C dX12_chosen_101 (xn_in (n := 1) (by omega) (by omega)) ?_
                  refine vv_aload_n C dX12_chosen_102 rfl ?_
                  refine gf_X12_names C dX12_chosen_103 fg_X12_50 ?_
                  refine vv_iconst C dX12_chosen_106 ic_2 ?_
                  refine vv_iload C dX12_chosen_107 rfl ?_
                  refine st_78 C dX12_chosen_109 (xn_in (n := 2) (by omega) (by omega)) ?_
                  refine vv_aload_n C dX12_chosen_110 rfl ?_
                  refine gf_X12_names C dX12_chosen_111 fg_X12_50 ?_
                  refine vv_iconst C dX12_chosen_114 ic_3 ?_
                  refine vv_iload C dX12_chosen_115 rfl ?_
                  refine vv_bipush C dX12_chosen_117 bp_10 ?_
                  refine vv_irem C dX12_chosen_119 (by decide) ?_
                  refine st_78 C dX12_chosen_120 (xn_in (n := 3) (by omega) (by omega)) ?_
                  refine vv_aload_n C dX12_chosen_121 rfl ?_
                  refine gf_X12_names C dX12_chosen_122 fg_X12_50 ?_
                  refine vv_iconst C dX12_chosen_125 ic_4 ?_
                  refine vv_iload C dX12_chosen_126 rfl ?_
                  refine vv_bipush C dX12_chosen_128 bp_100 ?_
                  refine vv_idiv C dX12_chosen_130 (by decide) ?_
                  refine st_78 C dX12_chosen_131 (xn_in (n := 4) (by omega) (by omega)) ?_
                  refine vs_eqS (S9 := (cs_n S62 (nI y) (if pv = -2 then 0 else nI y - pv) (nI (c + 1)))) (rfl) ?_
                  refine vv_aload_n C dX12_chosen_132 rfl ?_
                  refine gf_X12_textMany C dX12_chosen_133 fg_X12_80 ?_
                  refine vv_if_ge (tgt := 144) C dX12_chosen_136 (by decide) (fun q136 => ?_) (fun q136 => ?_)
                  · obtain ⟨L, B, eqs, h28, hL120, hB, hok⟩ := slM_ge (S := S62) hq2 q136
                    refine vv_aload_n C dX12_chosen_144 rfl ?_
                    refine vv_iconst C dX12_chosen_145 ic_0 ?_
                    refine vv_aload_n C dX12_chosen_146 rfl ?_
                    refine gf_X12_textMany C dX12_chosen_147 fg_X12_80 ?_
                    refine vs_calli C dX12_chosen_150 (c_X12_workOut g (cs_n S62 (nI y) (if pv = -2 then 0 else nI y - pv) (nI (c + 1))) L B _ hL120 0 _ h28 (Or.inr ⟨rfl, hB⟩) rfl) mb_X12_workOut mv_X12_workOut lk_X12_256 ce_65 rfl rfl rfl rfl ⟨by omega, by omega, Nat.le_of_ble_eq_true rfl⟩ (fun r150 S150 p150 => ?_)
                    first
                    | exact tail _ _ (by rw [eq0]; rfl) ⟨hJ2.1.tr (cs_fr _ _ _ _), nm_ok_of hJ2.2 rfl rfl⟩
                    | exact tail _ _ (by
                        rw [(p150.2.1 hok).1, ← sv_N hq2.ok (cs_v S62 (nI y) (if pv = -2 then 0 else nI y - pv) (nI (c + 1))), eqs]
                        rfl) ⟨(hJ2.1.tr (cs_fr _ _ _ _)).tr (p150.1.wd (by decide) (by decide) (by decide)), nm_ok_of hJ2.2 (p150.1.1 24 (by decide)) (p150.1.2.1 70 (by decide))⟩
                  · have eq0 := slM_lt (S := S62) hq2 (Int32.not_le.mp q136)
                    refine vv_iload C dX12_chosen_139 rfl ?_
                    refine vv_goto (tgt := 153) C dX12_chosen_141 (by decide) ?_
                    first
                    | exact tail _ _ (by rw [eq0]; rfl) ⟨hJ2.1.tr (cs_fr _ _ _ _), nm_ok_of hJ2.2 rfl rfl⟩
                    | exact tail _ _ (by
                        rw [(p150.2.1 hok).1, ← sv_N hq2.ok (cs_v S62 (nI y) (if pv = -2 then 0 else nI y - pv) (nI (c + 1))), eqs]
                        rfl) ⟨(hJ2.1.tr (cs_fr _ _ _ _)).tr (p150.1.wd (by decide) (by decide) (by decide)), nm_ok_of hJ2.2 (p150.1.1 24 (by decide)) (p150.1.2.1 70 (by decide))⟩
              · rw [vs_b0.mp q65, if_neg (by decide)] at he
                refine vv_goto (tgt := 179) C dX12_chosen_68 (by decide) ?_
                refine vw_iinc (lv9 := [_, _, _, _, _, _, _, _, _, _]) C dX12_chosen_179 rfl ic_1 (by decide) rfl rfl ?_
                refine vv_goto (tgt := 52) C dX12_chosen_182 (by decide) ?_
                rw [nI_1]
                exact ih (y + 1) pv c bb _ S62 (by omega) (by omega) hJ2 hpv hbb he
        have k := loop (b1 + 1 - a1) a1 (lw_dn (np_lm law) (nI a1 - 1).toNatClampNeg) 0 (0, 0) none S44 (by omega) (Nat.zero_le _) ⟨t44.1.wd (by decide) (by decide) (by decide), t44.2⟩ (lw_dlt _ _) ⟨fun _ => rfl, Int32.le_refl _⟩ rfl
        rw [if_pos rfl] at k
        exact k
      · have hv : k_chosen (np_lm law) (sv q) a b w = -2000000000 := if_neg (by rw [w1, w2, show vs_w w 0 1 = false from vs_b0.mp q24]; decide)
        refine vv_ldcw C dX12_chosen_27 kc_X12_259 ?_
        exact vs_iret C F dX12_chosen_30 rfl ⟨hv.symm, vs_fr.rf, hS⟩
