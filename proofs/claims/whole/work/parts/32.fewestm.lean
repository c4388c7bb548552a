theorem nm_nz (b : Bool) : vp_nar .boolean (vs_b b) = vs_b b := by cases b <;> decide +kernel
def fj (law : Nat) (S S2 : vs_S) : Prop := vs_fr [24] [70, 72, 73] [] S S2 ∧ nm_ok S2 ∧ S2.1 23 = nI law
theorem fj.ua {law : Nat} {S S2 : vs_S} (h : fj law S S2) {i : Nat} (hi : i = 72 ∨ i = 73) (f : Nat → Int32) : fj law S (vs_ua S2 i f) := by
  rcases hi with e | e
  · subst e; exact ⟨h.1.ua (by decide), nm_ok_of h.2.1 rfl rfl, h.2.2⟩
  · subst e; exact ⟨h.1.ua (by decide), nm_ok_of h.2.1 rfl rfl, h.2.2⟩
theorem fj.go {law : Nat} {S S2 S3 : vs_S} (h : fj law S S2) (h2 : nm_to S2 S3) : fj law S S3 := ⟨h.1.tr (h2.1.wd (by decide) (by decide) (by decide)), h2.2, by rw [h2.1.1 23 (by decide)]; exact h.2.2⟩
theorem fj.tr {law : Nat} {S S2 S3 : vs_S} (h : fj law S S2) (h2 : fj law S2 S3) : fj law S S3 := ⟨h.1.tr h2.1, h2.2⟩
theorem upd_ne {f : Nat → Int32} {i j : Nat} {v : Int32} (h : j ≠ i) : upd f i v j = f j := by
  rw [xn_upd (α := Nat), if_neg h]
theorem upd_eq {f : Nat → Int32} {i : Nat} {v : Int32} : upd f i v i = v := by
  rw [xn_upd (α := Nat), if_pos rfl]

set_option maxRecDepth 20000 in
theorem c_X12_findLawful (g : vv_G) (S : vs_S) (hfl : vv_fl g = false) (hS : nm_ok S) (law : Nat) (hl : law ≤ 3) (hs : S.1 23 = nI law) (n : Nat) (hn : n ≤ 2000) : vs_KV g yX12_findLawful cX12_findLawful 3 none 5 [vv_r g 65, .int (nI n)] S (fun S1 => fj law S S1 ∧ ∀ u, u ≤ n → S1.2.1 72 u = vs_b (np_lm law u)) := by
  refine vs_ofV (lv := [_, _, _]) mb_X12_findLawful (Nat.le_of_ble_eq_true rfl) rfl (fun x C F => ?_)
  have loop : ∀ (f v : Nat) (S2 : vs_S), v + f = n + 1 → fj law S S2 → (∀ u, u < v → S2.2.1 72 u = vs_b (np_lm law u)) → vv_V g x 3 0 0 2 [some (vv_r g 65), some (.int (nI n)), some (.int (nI v))] [] (vs_cells g S2) := by
    intro f
    induction f with
    | zero =>
      intro v S2 h1 t hv
      have ho : v = n + 1 := by omega
      subst ho
      refine vv_iload_n C dX12_findLawful_2 rfl ?_
      refine vv_iload_n C dX12_findLawful_3 rfl ?_
      refine vv_icmp_gt (tgt := 25) C dX12_findLawful_4 (by decide) (fun q4 => ?_) (fun q4 => ?_)
      · exact vs_vret C F dX12_findLawful_25 rfl ⟨t, fun u hu => hv u (by omega)⟩
      · exact absurd ((xn_lt (by omega) (by omega)).mpr (Nat.lt_succ_self n)) q4
    | succ f ih =>
      intro v S2 h1 t hv
      refine vv_iload_n C dX12_findLawful_2 rfl ?_
      refine vv_iload_n C dX12_findLawful_3 rfl ?_
      refine vv_icmp_gt (tgt := 25) C dX12_findLawful_4 (by decide) (fun q4 => ?_) (fun q4 => ?_)
      · exact absurd q4 (by rw [xn_lt (by omega) (by omega)]; omega)
      · refine vv_aload_n C dX12_findLawful_7 rfl ?_
        refine gf_X12_lawfulTo C dX12_findLawful_8 fg_X12_30 ?_
        refine vv_iload_n C dX12_findLawful_11 rfl ?_
        refine vv_aload_n C dX12_findLawful_12 rfl ?_
        refine vv_iload_n C dX12_findLawful_13 rfl ?_
        refine vv_i2l C dX12_findLawful_14 ?_
        refine vs_eql (v9 := lN v) (xn_i2l (by omega)) ?_
        refine vs_calli C dX12_findLawful_15 (c_X12_isLawful g S2 hfl t.2.1 law hl t.2.2 v (by omega)) mb_X12_isLawful mv_X12_isLawful lk_X12_135 ce_65 rfl rfl rfl rfl ⟨Nat.le_of_ble_eq_true rfl, Nat.le_of_ble_eq_true rfl, Nat.le_of_ble_eq_true rfl⟩ (fun r15 S15 p15 => ?_)
        obtain ⟨e15, u15⟩ := p15
        subst e15
        refine st_72 hfl C dX12_findLawful_18 (xn_in (by omega) (by omega)) ?_
        refine vw_iinc (lv9 := [_, _, _]) C dX12_findLawful_19 rfl ic_1 (by decide) rfl rfl ?_
        refine vv_goto (tgt := 2) C dX12_findLawful_22 (by decide) ?_
        rw [nI_1]
        refine ih (v + 1) _ (by omega) ((t.go u15).ua (Or.inl rfl) _) (fun u hu => ?_)
        show upd (S15.2.1 72) (nI v).toNatClampNeg _ u = _
        rw [xn_cl (by omega), nm_nz, xn_upd (α := Nat), u15.1.2.1 72 (by decide)]
        split
        · next z => rw [z]
        · exact hv u (by omega)
  refine vv_iconst C dX12_findLawful_0 ic_0 ?_
  refine vw_istore_n (lv9 := [_, _, _]) C dX12_findLawful_1 (by decide) rfl rfl ?_
  exact loop (n + 1) 0 S (by omega) ⟨vs_fr.rf, hS, hs⟩ (fun u hu => by omega)
set_option maxRecDepth 20000 in
theorem c_X12_findFewest (g : vv_G) (S : vs_S) (hfl : vv_fl g = false) (hS : nm_ok S) (law : Nat) (hl : law ≤ 3) (hs : S.1 23 = nI law) (n : Nat) (hn1 : 1 ≤ n) (hn : n ≤ 2000) : vs_KV g yX12_findFewest cX12_findFewest 4 none 6 [vv_r g 65, .int (nI n)] S (fun S1 => fj law S S1 ∧ (∀ u, u ≤ n → S1.2.1 72 u = vs_b (np_lm law u)) ∧ ∃ Y, fw_T (np_lm law) Y n ∧ ∀ u, u ≤ n → S1.2.1 73 u = nI (Y u)) := by
  refine vs_ofV (lv := [_, _, _, _]) mb_X12_findFewest (Nat.le_of_ble_eq_true rfl) rfl (fun x C F => ?_)
  have outer : ∀ (f v : Nat) (S2 : vs_S) (Y : Nat → Nat) (w3 : Option Value), v + f = n + 1 → 1 ≤ v → fj law S S2 → (∀ u, u ≤ n → S2.2.1 72 u = vs_b (np_lm law u)) → (∀ u, u < v → S2.2.1 73 u = nI (Y u)) → fw_T (np_lm law) Y (v - 1) → vv_V g x 4 0 0 14 [some (vv_r g 65), some (.int (nI n)), some (.int (nI v)), w3] [] (vs_cells g S2) := by
    intro f
    induction f with
    | zero =>
      intro v S2 Y w3 h1 hv1 t hA hY hT
      have ho : v = n + 1 := by omega
      subst ho
      refine vv_iload_n C dX12_findFewest_14 rfl ?_
      refine vv_iload_n C dX12_findFewest_15 rfl ?_
      refine vv_icmp_gt (tgt := 90) C dX12_findFewest_16 (by decide) (fun q16 => ?_) (fun q16 => ?_)
      · exact vs_vret C F dX12_findFewest_90 rfl ⟨t, hA, Y, hT, fun u hu => hY u (by omega)⟩
      · exact absurd ((xn_lt (by omega) (by omega)).mpr (Nat.lt_succ_self n)) q16
    | succ f ih =>
      intro v S2 Y w3 h1 hv1 t hA hY hT
      have done : ∀ (x9 : Nat) (S3 : vs_S), fj law S S3 → (∀ u, u ≤ n → S3.2.1 72 u = vs_b (np_lm law u)) → (∀ u, u < v → S3.2.1 73 u = nI (Y u)) → S3.2.1 73 v = nI x9 → fw_p (np_lm law) Y v (v + 1) x9 → vv_V g x 4 0 0 14 [some (vv_r g 65), some (.int (nI n)), some (.int (nI (v + 1))), some (.int (nI (v + 1)))] [] (vs_cells g S3) := by
        intro x9 S3 t3 hA3 hY3 hx hp
        obtain ⟨N, rfl⟩ : ∃ N, v = N + 1 := ⟨v - 1, by omega⟩
        refine ih (N + 1 + 1) S3 (fun u => if u = N + 1 then x9 else Y u) _ (by omega) (by omega) t3 hA3 (fun u hu => ?_) (fw_ext hT hp)
        show _ = nI (if u = N + 1 then x9 else Y u)
        split
        · next z => rw [z]; exact hx
        · exact hY3 u (by omega)
      have inner : ∀ (k a x9 : Nat) (S2 : vs_S), a + k = v + 1 → 2 ≤ a → fj law S S2 → (∀ u, u ≤ n → S2.2.1 72 u = vs_b (np_lm law u)) → (∀ u, u < v → S2.2.1 73 u = nI (Y u)) → S2.2.1 73 v = nI x9 → fw_p (np_lm law) Y v a x9 → vv_V g x 4 0 0 29 [some (vv_r g 65), some (.int (nI n)), some (.int (nI v)), some (.int (nI a))] [] (vs_cells g S2) := by
        intro k
        induction k with
        | zero =>
          intro a x9 S2 h1 h2 t hA hY hx hp
          have ho : a = v + 1 := by omega
          subst ho
          refine vv_iload_n C dX12_findFewest_29 rfl ?_
          refine vv_iload_n C dX12_findFewest_30 rfl ?_
          refine vv_icmp_gt (tgt := 84) C dX12_findFewest_31 (by decide) (fun q31 => ?_) (fun q31 => ?_)
          · refine vw_iinc (lv9 := [_, _, _, _]) C dX12_findFewest_84 rfl ic_1 (by decide) rfl rfl ?_
            refine vv_goto (tgt := 14) C dX12_findFewest_87 (by decide) ?_
            rw [nI_1]
            exact done x9 S2 t hA hY hx hp
          · exact absurd ((xn_lt (by omega) (by omega)).mpr (Nat.lt_succ_self v)) q31
        | succ k ih2 =>
          intro a x9 S2 h1 h2 t hA hY hx hp
          have hYa := fw_le hT (v := v - a) (by omega)
          have hx9 := hp.1
          refine vv_iload_n C dX12_findFewest_29 rfl ?_
          refine vv_iload_n C dX12_findFewest_30 rfl ?_
          refine vv_icmp_gt (tgt := 84) C dX12_findFewest_31 (by decide) (fun q31 => ?_) (fun q31 => ?_)
          · exact absurd q31 (by rw [xn_lt (by omega) (by omega)]; omega)
          · refine vv_aload_n C dX12_findFewest_34 rfl ?_
            refine gf_X12_lawfulTo C dX12_findFewest_35 fg_X12_30 ?_
            refine vv_iload_n C dX12_findFewest_38 rfl ?_
            refine ld_72 C dX12_findFewest_39 (xn_in (by omega) (by omega)) ?_
            refine vs_eqi (v9 := vs_b (np_lm law a)) (by rw [xn_cl (by omega)]; exact hA a (by omega)) ?_
            refine vv_if_eq (tgt := 78) C dX12_findFewest_40 (by decide) (fun q40 => ?_) (fun q40 => ?_)
            · have hz : ¬ (np_lm law a = true ∧ Y (v - a) + 1 < x9) := fun z => by rw [vs_b0.mp q40] at z; cases z.1
              refine vw_iinc (lv9 := [_, _, _, _]) C dX12_findFewest_78 rfl ic_1 (by decide) rfl rfl ?_
              refine vv_goto (tgt := 29) C dX12_findFewest_81 (by decide) ?_
              rw [nI_1]
              first
              | exact ih2 (a + 1) x9 S2 (by omega) (by omega) t hA hY hx (fw_pn hp hz)
              | (refine ih2 (a + 1) (Y (v - a) + 1) _ (by omega) (by omega) (t.ua (Or.inr rfl) _) hA (fun u hu => ?_) ?_ (fw_py hp h2 (by omega) hz.1 hz.2)
                 · show upd (S2.2.1 73) (nI v).toNatClampNeg _ u = _
                   rw [xn_cl (by omega), upd_ne (by omega)]
                   exact hY u hu
                 · show upd (S2.2.1 73) (nI v).toNatClampNeg _ v = _
                   rw [xn_cl (by omega), upd_eq])
            · have hpa := vs_b1.mp q40
              refine vv_aload_n C dX12_findFewest_43 rfl ?_
              refine gf_X12_fewestOf C dX12_findFewest_44 fg_X12_33 ?_
              refine vv_iload_n C dX12_findFewest_47 rfl ?_
              refine vv_iload_n C dX12_findFewest_48 rfl ?_
              refine vv_isub C dX12_findFewest_49 ?_
              refine vs_eqi (v9 := nI (v - a)) (xn_sub (by omega)) ?_
              refine ld_73 C dX12_findFewest_50 (xn_in (by omega) (by omega)) ?_
              refine vs_eqi (v9 := nI (Y (v - a))) (by rw [xn_cl (by omega)]; exact hY _ (by omega)) ?_
              refine vv_iconst C dX12_findFewest_51 ic_1 ?_
              refine vv_iadd C dX12_findFewest_52 ?_
              refine vs_eqi (v9 := nI (Y (v - a) + 1)) (nI_1 _) ?_
              refine vv_aload_n C dX12_findFewest_53 rfl ?_
              refine gf_X12_fewestOf C dX12_findFewest_54 fg_X12_33 ?_
              refine vv_iload_n C dX12_findFewest_57 rfl ?_
              refine ld_73 C dX12_findFewest_58 (xn_in (by omega) (by omega)) ?_
              refine vs_eqi (v9 := nI x9) (by rw [xn_cl (by omega)]; exact hx) ?_
              refine vv_icmp_ge (tgt := 78) C dX12_findFewest_59 (by decide) (fun q59 => ?_) (fun q59 => ?_)
              · have hz : ¬ (np_lm law a = true ∧ Y (v - a) + 1 < x9) := fun z => by rw [xn_le (by omega) (by omega)] at q59; omega
                refine vw_iinc (lv9 := [_, _, _, _]) C dX12_findFewest_78 rfl ic_1 (by decide) rfl rfl ?_
                refine vv_goto (tgt := 29) C dX12_findFewest_81 (by decide) ?_
                rw [nI_1]
                first
                | exact ih2 (a + 1) x9 S2 (by omega) (by omega) t hA hY hx (fw_pn hp hz)
                | (refine ih2 (a + 1) (Y (v - a) + 1) _ (by omega) (by omega) (t.ua (Or.inr rfl) _) hA (fun u hu => ?_) ?_ (fw_py hp h2 (by omega) hz.1 hz.2)
                   · show upd (S2.2.1 73) (nI v).toNatClampNeg _ u = _
                     rw [xn_cl (by omega), upd_ne (by omega)]
                     exact hY u hu
                   · show upd (S2.2.1 73) (nI v).toNatClampNeg _ v = _
                     rw [xn_cl (by omega), upd_eq])
              · have hz : np_lm law a = true ∧ Y (v - a) + 1 < x9 := ⟨hpa, by rw [xn_le (by omega) (by omega)] at q59; omega⟩
                refine vv_aload_n C dX12_findFewest_62 rfl ?_
                refine gf_X12_fewestOf C dX12_findFewest_63 fg_X12_33 ?_
                refine vv_iload_n C dX12_findFewest_66 rfl ?_
                refine vv_aload_n C dX12_findFewest_67 rfl ?_
                refine gf_X12_fewestOf C dX12_findFewest_68 fg_X12_33 ?_
                refine vv_iload_n C dX12_findFewest_71 rfl ?_
                refine vv_iload_n C dX12_findFewest_72 rfl ?_
                refine vv_isub C dX12_findFewest_73 ?_
                refine vs_eqi (v9 := nI (v - a)) (xn_sub (by omega)) ?_
                refine ld_73 C dX12_findFewest_74 (xn_in (by omega) (by omega)) ?_
                refine vs_eqi (v9 := nI (Y (v - a))) (by rw [xn_cl (by omega)]; exact hY _ (by omega)) ?_
                refine vv_iconst C dX12_findFewest_75 ic_1 ?_
                refine vv_iadd C dX12_findFewest_76 ?_
                refine vs_eqi (v9 := nI (Y (v - a) + 1)) (nI_1 _) ?_
                refine st_73 C dX12_findFewest_77 (xn_in (by omega) (by omega)) ?_
                refine vw_iinc (lv9 := [_, _, _, _]) C dX12_findFewest_78 rfl ic_1 (by decide) rfl rfl ?_
                refine vv_goto (tgt := 29) C dX12_findFewest_81 (by decide) ?_
                rw [nI_1]
                first
                | exact ih2 (a + 1) x9 S2 (by omega) (by omega) t hA hY hx (fw_pn hp hz)
                | (refine ih2 (a + 1) (Y (v - a) + 1) _ (by omega) (by omega) (t.ua (Or.inr rfl) _) hA (fun u hu => ?_) ?_ (fw_py hp h2 (by omega) hz.1 hz.2)
                   · show upd (S2.2.1 73) (nI v).toNatClampNeg _ u = _
                     rw [xn_cl (by omega), upd_ne (by omega)]
                     exact hY u hu
                   · show upd (S2.2.1 73) (nI v).toNatClampNeg _ v = _
                     rw [xn_cl (by omega), upd_eq])
      refine vv_iload_n C dX12_findFewest_14 rfl ?_
      refine vv_iload_n C dX12_findFewest_15 rfl ?_
      refine vv_icmp_gt (tgt := 90) C dX12_findFewest_16 (by decide) (fun q16 => ?_) (fun q16 => ?_)
      · exact absurd q16 (by rw [xn_lt (by omega) (by omega)]; omega)
      · refine vv_aload_n C dX12_findFewest_19 rfl ?_
        refine gf_X12_fewestOf C dX12_findFewest_20 fg_X12_33 ?_
        refine vv_iload_n C dX12_findFewest_23 rfl ?_
        refine vv_bipush C dX12_findFewest_24 bp_10 ?_
        refine st_73 C dX12_findFewest_26 (xn_in (by omega) (by omega)) ?_
        refine vv_iconst C dX12_findFewest_27 ic_2 ?_
        refine vw_istore_n (lv9 := [_, _, _, _]) C dX12_findFewest_28 (by decide) rfl rfl ?_
        by_cases z : 2 ≤ v + 1
        · refine inner (v - 1) 2 10 _ (by omega) (by omega) (t.ua (Or.inr rfl) _) hA (fun u hu => ?_) ?_ fw_p1
          · show upd (S2.2.1 73) (nI v).toNatClampNeg _ u = _
            rw [xn_cl (by omega), upd_ne (by omega)]
            exact hY u hu
          · show upd (S2.2.1 73) (nI v).toNatClampNeg _ v = _
            rw [xn_cl (by omega), upd_eq]
            rfl
        · omega
  refine vv_aload_n C dX12_findFewest_0 rfl ?_
  refine vv_iload_n C dX12_findFewest_1 rfl ?_
  refine vs_callv C dX12_findFewest_2 (c_X12_findLawful g S hfl hS law hl hs n hn) mb_X12_findLawful mv_X12_findLawful lk_X12_159 ce_65 rfl rfl rfl rfl ⟨Nat.le_of_ble_eq_true rfl, Nat.le_of_ble_eq_true rfl, Nat.le_of_ble_eq_true rfl⟩ (fun S2 p2 => ?_)
  obtain ⟨t2, hA2⟩ := p2
  refine vv_aload_n C dX12_findFewest_5 rfl ?_
  refine gf_X12_fewestOf C dX12_findFewest_6 fg_X12_33 ?_
  refine vv_iconst C dX12_findFewest_9 ic_0 ?_
  refine vv_iconst C dX12_findFewest_10 ic_0 ?_
  refine st_73 C dX12_findFewest_11 (xn_in (n := 0) (by omega) (by omega)) ?_
  refine vv_iconst C dX12_findFewest_12 ic_1 ?_
  refine vw_istore_n (lv9 := [_, _, _, _]) C dX12_findFewest_13 (by decide) rfl rfl ?_
  refine outer n 1 _ (fun _ => 0) none (by omega) (by omega) (t2.ua (Or.inr rfl) _) hA2 (fun u hu => ?_) ⟨rfl, fun v v1 v2 => by omega⟩
  show upd (S2.2.1 73) 0 0 u = _
  rw [show u = 0 by omega, upd_eq]
  rfl
set_option maxRecDepth 20000 in
theorem c_X12_fewest (g : vv_G) (S : vs_S) (hfl : vv_fl g = false) (hS : nm_ok S) (law : Nat) (hl : law ≤ 3) (hs : S.1 23 = nI law) (n i : Int32) : vs_KI g yX12_fewest cX12_fewest 6 (some .int) 7 [vv_r g 65, .int n, .int i] S (fun r S1 => ∃ Y, ((vs_w n 1 2000 && decide (-1 ≤ i)) = true → fw_T (np_lm law) Y n.toNatClampNeg) ∧ r = (if (vs_w n 1 2000 && decide (-1 ≤ i)) = true then fwv (np_lm law) Y n.toNatClampNeg i else -1) ∧ fj law S S1) := by
  refine vs_ofI (lv := [_, _, _, _, _, _]) mb_X12_fewest (Nat.le_of_ble_eq_true rfl) rfl (fun x C F => ?_)
  refine vv_iload_n C dX12_fewest_0 rfl ?_
  refine vv_i2l C dX12_fewest_1 ?_
  refine vv_lconst C dX12_fewest_2 lc_1 ?_
  refine vs_eql (v9 := (1 : Int32).toInt64) (by decide +kernel) ?_
  refine vv_ldc2 C dX12_fewest_3 kc_X12_162 ?_
  refine vs_eql (v9 := (2000 : Int32).toInt64) (by decide +kernel) ?_
  refine vs_calsiF C dX12_fewest_6 (c_X12_within g S _ _ _) mb_X12_within ms_X12_within lk_X12_123 rfl rfl ⟨Nat.le_of_ble_eq_true rfl, Nat.le_of_ble_eq_true rfl, Nat.le_of_ble_eq_true rfl⟩ ?_
  refine vv_if_eq (tgt := 17) C dX12_fewest_9 (by decide) (fun q9 => ?_) (fun q9 => ?_)
  · have w1 : vs_w n 1 2000 = false := vs_b0.mp q9
    have hw : ¬ (vs_w n 1 2000 && decide (-1 ≤ i)) = true := by rw [w1, Bool.false_and]; decide
    refine vv_iconst C dX12_fewest_17 ic_m1 ?_
    exact vs_iret C F dX12_fewest_18 rfl ⟨fun _ => 0, fun z => absurd z hw, by rw [if_neg hw], vs_fr.rf, hS, hs⟩
  · have w1 : vs_w n 1 2000 = true := vs_b1.mp q9
    obtain ⟨k, hk1, hk2, ek⟩ := vs_wN (a := 1) (b := 2000) (by omega) (by omega) w1
    subst ek
    refine vv_iload_n C dX12_fewest_12 rfl ?_
    refine vv_iconst C dX12_fewest_13 ic_m1 ?_
    refine vv_icmp_ge (tgt := 19) C dX12_fewest_14 (by decide) (fun q14 => ?_) (fun q14 => ?_)
    · have hw : (vs_w (nI k) 1 2000 && decide (-1 ≤ i)) = true := by rw [w1, decide_eq_true q14]; rfl
      refine vv_aload_n C dX12_fewest_19 rfl ?_
      refine vv_iload_n C dX12_fewest_20 rfl ?_
      refine vs_callv C dX12_fewest_21 (c_X12_findFewest g S hfl hS law hl hs k hk1 hk2) mb_X12_findFewest mv_X12_findFewest lk_X12_164 ce_65 rfl rfl rfl rfl ⟨Nat.le_of_ble_eq_true rfl, Nat.le_of_ble_eq_true rfl, Nat.le_of_ble_eq_true rfl⟩ (fun S21 p21 => ?_)
      obtain ⟨t, hA, Y1, hT, hY⟩ := p21
      have hYk := fw_le hT (Nat.le_refl k)
      refine vv_aload_n C dX12_fewest_24 rfl ?_
      refine gf_X12_fewestOf C dX12_fewest_25 fg_X12_33 ?_
      refine vv_iload_n C dX12_fewest_28 rfl ?_
      refine ld_73 C dX12_fewest_29 (xn_in (by omega) (by omega)) ?_
      refine vs_eqi (v9 := nI (Y1 k)) (by rw [xn_cl (by omega)]; exact hY _ (by omega)) ?_
      refine vv_bipush C dX12_fewest_30 bp_9 ?_
      refine vv_icmp_le (tgt := 38) C dX12_fewest_32 (by decide) (fun q32 => ?_) (fun q32 => ?_)
      · have hz : Y1 k ≤ 9 := by rw [xn_lit, xn_le (by omega) (by omega)] at q32; exact q32
        refine vv_iload_n C dX12_fewest_38 rfl ?_
        refine vv_iconst C dX12_fewest_39 ic_m1 ?_
        refine vv_icmp_eq (tgt := 53) C dX12_fewest_40 (by decide) (fun q40 => ?_) (fun q40 => ?_)
        · refine vv_iload_n C dX12_fewest_53 rfl ?_
          refine vv_iconst C dX12_fewest_54 ic_m1 ?_
          refine vv_icmp_ne (tgt := 67) C dX12_fewest_55 (by decide) (fun q55 => ?_) (fun q55 => ?_)
          · exact absurd q40 q55
          · refine vv_aload_n C dX12_fewest_58 rfl ?_
            refine gf_X12_fewestOf C dX12_fewest_59 fg_X12_33 ?_
            refine vv_iload_n C dX12_fewest_62 rfl ?_
            refine ld_73 C dX12_fewest_63 (xn_in (by omega) (by omega)) ?_
            refine vs_eqi (v9 := nI (Y1 k)) (by rw [xn_cl (by omega)]; exact hY _ (by omega)) ?_
            refine vv_goto (tgt := 68) C dX12_fewest_64 (by decide) ?_
            exact vs_iret C F dX12_fewest_68 rfl ⟨Y1, fun _ => by rw [xn_cl (by omega)]; exact hT, by rw [if_pos hw, xn_cl (by omega)]; unfold fwv; first | rw [if_neg (by omega), if_pos q40] | rw [if_neg (by omega), if_neg q40, if_neg q50], t⟩
        · refine vv_iload_n C dX12_fewest_43 rfl ?_
          refine vv_aload_n C dX12_fewest_44 rfl ?_
          refine gf_X12_fewestOf C dX12_fewest_45 fg_X12_33 ?_
          refine vv_iload_n C dX12_fewest_48 rfl ?_
          refine ld_73 C dX12_fewest_49 (xn_in (by omega) (by omega)) ?_
          refine vs_eqi (v9 := nI (Y1 k)) (by rw [xn_cl (by omega)]; exact hY _ (by omega)) ?_
          refine vv_icmp_lt (tgt := 69) C dX12_fewest_50 (by decide) (fun q50 => ?_) (fun q50 => ?_)
          · obtain ⟨j, hj, ej⟩ := xn_m1 q14 q40
            subst ej
            have hij : j < Y1 k := by rw [xn_lt (by omega) (by omega)] at q50; exact q50
            have outer : ∀ (f c q : Nat) (w4 : Int32), c + f = j → Y1 q + c = Y1 k → q ≤ k → fa (np_lm law) Y1 f q = fa (np_lm law) Y1 j k → vv_V g x 6 0 0 77 [some (vv_r g 65), some (.int (nI k)), some (.int (nI j)), some (.int (nI q)), some (.int w4), some (.int (nI c))] [] (vs_cells g S21) := by
              intro f
              induction f with
              | zero =>
                intro c q w4 h1 h2 h3 he
                have hq1 : 1 ≤ q := Nat.pos_of_ne_zero (fun z => by rw [z, hT.1] at h2; omega)
                have hg := gf_sp hT hq1 h3 (by omega)
                have fin : ∀ a, gf (np_lm law) Y1 q = a → vv_V g x 6 0 0 122 [some (vv_r g 65), some (.int (nI k)), some (.int (nI j)), some (.int (nI q)), some (.int (nI a)), some (.int (nI c))] [] (vs_cells g S21) := by
                  intro a ea
                  subst ea
                  refine vv_iload_n C dX12_fewest_122 rfl ?_
                  refine vv_iload C dX12_fewest_123 rfl ?_
                  refine vv_isub C dX12_fewest_125 ?_
                  refine vs_eqi (v9 := nI (q - gf (np_lm law) Y1 q)) (xn_sub hg.2.1) ?_
                  refine vw_istore_n (lv9 := [_, _, _, _, _, _]) C dX12_fewest_126 (by decide) rfl rfl ?_
                  refine vw_iinc (lv9 := [_, _, _, _, _, _]) C dX12_fewest_127 rfl ic_1 (by decide) rfl rfl ?_
                  refine vv_goto (tgt := 77) C dX12_fewest_130 (by decide) ?_
                  rw [nI_1]
                  have hk : c = j := by omega
                  subst hk
                  refine vv_iload C dX12_fewest_77 rfl ?_
                  refine vv_iload_n C dX12_fewest_79 rfl ?_
                  refine vv_icmp_gt (tgt := 133) C dX12_fewest_80 (by decide) (fun q80 => ?_) (fun q80 => ?_)
                  · refine vv_iload C dX12_fewest_133 rfl ?_
                    exact vs_iret C F dX12_fewest_135 rfl ⟨Y1, fun _ => by rw [xn_cl (by omega)]; exact hT, by rw [if_pos hw, xn_cl (by omega)]; unfold fwv; rw [if_neg (by omega), if_neg q40, if_pos q50, xn_cl (by omega), ← he]; rfl, t⟩
                  · exact absurd ((xn_lt (by omega) (by omega)).mpr (Nat.lt_succ_self c)) q80
                have inner : ∀ (b : Nat), gf (np_lm law) Y1 q ≤ b → b ≤ q → (∀ d, b < d → d ≤ q → ¬ ((np_lm law) d = true ∧ Y1 (q - d) + 1 = Y1 q)) → ∀ a, a = b → vv_V g x 6 0 0 86 [some (vv_r g 65), some (.int (nI k)), some (.int (nI j)), some (.int (nI q)), some (.int (nI a)), some (.int (nI c))] [] (vs_cells g S21) := by
                  intro b
                  induction b with
                  | zero => intro z1; omega
                  | succ b ih2 =>
                    intro z1 z2 z3 a ea
                    subst ea
                    have hYb := fw_le hT (v := q - (b + 1)) (by omega)
                    refine vv_aload_n C dX12_fewest_86 rfl ?_
                    refine gf_X12_lawfulTo C dX12_fewest_87 fg_X12_30 ?_
                    refine vv_iload C dX12_fewest_90 rfl ?_
                    refine ld_72 C dX12_fewest_92 (xn_in (by omega) (by omega)) ?_
                    refine vs_eqi (v9 := vs_b (np_lm law (b + 1))) (by rw [xn_cl (by omega)]; exact hA _ (by omega)) ?_
                    refine vv_if_eq (tgt := 116) C dX12_fewest_93 (by decide) (fun q93 => ?_) (fun q93 => ?_)
                    · have hz : ¬ (np_lm law (b + 1) = true ∧ Y1 (q - (b + 1)) + 1 = Y1 q) := fun z => by rw [vs_b0.mp q93] at z; cases z.1
                      refine vw_iinc (lv9 := [_, _, _, _, _, _]) C dX12_fewest_116 rfl ic_m1 (by decide) rfl rfl ?_
                      refine vv_goto (tgt := 86) C dX12_fewest_119 (by decide) ?_
                      show vv_V g x 6 0 0 86 [_, _, _, _, some (.int (nI (b + 1) + -1)), _] _ _
                      rw [xm1, nI_pred]
                      have hne : gf (np_lm law) Y1 q ≠ b + 1 := fun z => hz (by rw [← z]; exact ⟨hg.2.2.1, hg.2.2.2.1⟩)
                      exact ih2 (by omega) (by omega) (fun d d1 d2 => by
                        by_cases y : d = b + 1
                        · rw [y]; exact hz
                        · exact z3 d (by omega) d2) b rfl
                    · have hpa := vs_b1.mp q93
                      refine vv_aload_n C dX12_fewest_96 rfl ?_
                      refine gf_X12_fewestOf C dX12_fewest_97 fg_X12_33 ?_
                      refine vv_iload_n C dX12_fewest_100 rfl ?_
                      refine vv_iload C dX12_fewest_101 rfl ?_
                      refine vv_isub C dX12_fewest_103 ?_
                      refine vs_eqi (v9 := nI (q - (b + 1))) (xn_sub (by omega)) ?_
                      refine ld_73 C dX12_fewest_104 (xn_in (by omega) (by omega)) ?_
                      refine vs_eqi (v9 := nI (Y1 (q - (b + 1)))) (by rw [xn_cl (by omega)]; exact hY _ (by omega)) ?_
                      refine vv_aload_n C dX12_fewest_105 rfl ?_
                      refine gf_X12_fewestOf C dX12_fewest_106 fg_X12_33 ?_
                      refine vv_iload_n C dX12_fewest_109 rfl ?_
                      refine ld_73 C dX12_fewest_110 (xn_in (by omega) (by omega)) ?_
                      refine vs_eqi (v9 := nI (Y1 q)) (by rw [xn_cl (by omega)]; exact hY _ (by omega)) ?_
                      refine vv_iconst C dX12_fewest_111 ic_1 ?_
                      refine vv_isub C dX12_fewest_112 ?_
                      refine vs_eqi (v9 := nI (Y1 q - 1)) (xn_sub (a := Y1 q) (b := 1) (by omega)) ?_
                      refine vv_icmp_eq (tgt := 122) C dX12_fewest_113 (by decide) (fun q113 => ?_) (fun q113 => ?_)
                      · have hz : np_lm law (b + 1) = true ∧ Y1 (q - (b + 1)) + 1 = Y1 q := ⟨hpa, by rw [xn_eq (by omega) (by omega)] at q113; omega⟩
                        have eg : gf (np_lm law) Y1 q = b + 1 := by
                          apply Nat.le_antisymm z1
                          apply Nat.le_of_not_lt
                          intro z
                          exact hg.2.2.2.2 _ z z2 hz
                        refine fin (b + 1) eg
                      · have hz : ¬ (np_lm law (b + 1) = true ∧ Y1 (q - (b + 1)) + 1 = Y1 q) := fun z => q113 (by rw [xn_eq (by omega) (by omega)]; omega)
                        refine vw_iinc (lv9 := [_, _, _, _, _, _]) C dX12_fewest_116 rfl ic_m1 (by decide) rfl rfl ?_
                        refine vv_goto (tgt := 86) C dX12_fewest_119 (by decide) ?_
                        show vv_V g x 6 0 0 86 [_, _, _, _, some (.int (nI (b + 1) + -1)), _] _ _
                        rw [xm1, nI_pred]
                        have hne : gf (np_lm law) Y1 q ≠ b + 1 := fun z => hz (by rw [← z]; exact ⟨hg.2.2.1, hg.2.2.2.1⟩)
                        exact ih2 (by omega) (by omega) (fun d d1 d2 => by
                          by_cases y : d = b + 1
                          · rw [y]; exact hz
                          · exact z3 d (by omega) d2) b rfl
                refine vv_iload C dX12_fewest_77 rfl ?_
                refine vv_iload_n C dX12_fewest_79 rfl ?_
                refine vv_icmp_gt (tgt := 133) C dX12_fewest_80 (by decide) (fun q80 => ?_) (fun q80 => ?_)
                · exact absurd q80 (by rw [xn_lt (by omega) (by omega)]; omega)
                · refine vv_iload_n C dX12_fewest_83 rfl ?_
                  refine vw_istore (lv9 := [_, _, _, _, _, _]) C dX12_fewest_84 (by decide) rfl rfl ?_
                  exact inner q hg.2.1 (Nat.le_refl _) (fun d d1 d2 => by omega) q rfl
              | succ f ih =>
                intro c q w4 h1 h2 h3 he
                have hq1 : 1 ≤ q := Nat.pos_of_ne_zero (fun z => by rw [z, hT.1] at h2; omega)
                have hg := gf_sp hT hq1 h3 (by omega)
                have fin : ∀ a, gf (np_lm law) Y1 q = a → vv_V g x 6 0 0 122 [some (vv_r g 65), some (.int (nI k)), some (.int (nI j)), some (.int (nI q)), some (.int (nI a)), some (.int (nI c))] [] (vs_cells g S21) := by
                  intro a ea
                  subst ea
                  refine vv_iload_n C dX12_fewest_122 rfl ?_
                  refine vv_iload C dX12_fewest_123 rfl ?_
                  refine vv_isub C dX12_fewest_125 ?_
                  refine vs_eqi (v9 := nI (q - gf (np_lm law) Y1 q)) (xn_sub hg.2.1) ?_
                  refine vw_istore_n (lv9 := [_, _, _, _, _, _]) C dX12_fewest_126 (by decide) rfl rfl ?_
                  refine vw_iinc (lv9 := [_, _, _, _, _, _]) C dX12_fewest_127 rfl ic_1 (by decide) rfl rfl ?_
                  refine vv_goto (tgt := 77) C dX12_fewest_130 (by decide) ?_
                  rw [nI_1]
                  exact ih (c + 1) _ _ (by omega) (by omega) (by omega) he
                have inner : ∀ (b : Nat), gf (np_lm law) Y1 q ≤ b → b ≤ q → (∀ d, b < d → d ≤ q → ¬ ((np_lm law) d = true ∧ Y1 (q - d) + 1 = Y1 q)) → ∀ a, a = b → vv_V g x 6 0 0 86 [some (vv_r g 65), some (.int (nI k)), some (.int (nI j)), some (.int (nI q)), some (.int (nI a)), some (.int (nI c))] [] (vs_cells g S21) := by
                  intro b
                  induction b with
                  | zero => intro z1; omega
                  | succ b ih2 =>
                    intro z1 z2 z3 a ea
                    subst ea
                    have hYb := fw_le hT (v := q - (b + 1)) (by omega)
                    refine vv_aload_n C dX12_fewest_86 rfl ?_
                    refine gf_X12_lawfulTo C dX12_fewest_87 fg_X12_30 ?_
                    refine vv_iload C dX12_fewest_90 rfl ?_
                    refine ld_72 C dX12_fewest_92 (xn_in (by omega) (by omega)) ?_
                    refine vs_eqi (v9 := vs_b (np_lm law (b + 1))) (by rw [xn_cl (by omega)]; exact hA _ (by omega)) ?_
                    refine vv_if_eq (tgt := 116) C dX12_fewest_93 (by decide) (fun q93 => ?_) (fun q93 => ?_)
                    · have hz : ¬ (np_lm law (b + 1) = true ∧ Y1 (q - (b + 1)) + 1 = Y1 q) := fun z => by rw [vs_b0.mp q93] at z; cases z.1
                      refine vw_iinc (lv9 := [_, _, _, _, _, _]) C dX12_fewest_116 rfl ic_m1 (by decide) rfl rfl ?_
                      refine vv_goto (tgt := 86) C dX12_fewest_119 (by decide) ?_
                      show vv_V g x 6 0 0 86 [_, _, _, _, some (.int (nI (b + 1) + -1)), _] _ _
                      rw [xm1, nI_pred]
                      have hne : gf (np_lm law) Y1 q ≠ b + 1 := fun z => hz (by rw [← z]; exact ⟨hg.2.2.1, hg.2.2.2.1⟩)
                      exact ih2 (by omega) (by omega) (fun d d1 d2 => by
                        by_cases y : d = b + 1
                        · rw [y]; exact hz
                        · exact z3 d (by omega) d2) b rfl
                    · have hpa := vs_b1.mp q93
                      refine vv_aload_n C dX12_fewest_96 rfl ?_
                      refine gf_X12_fewestOf C dX12_fewest_97 fg_X12_33 ?_
                      refine vv_iload_n C dX12_fewest_100 rfl ?_
                      refine vv_iload C dX12_fewest_101 rfl ?_
                      refine vv_isub C dX12_fewest_103 ?_
                      refine vs_eqi (v9 := nI (q - (b + 1))) (xn_sub (by omega)) ?_
                      refine ld_73 C dX12_fewest_104 (xn_in (by omega) (by omega)) ?_
                      refine vs_eqi (v9 := nI (Y1 (q - (b + 1)))) (by rw [xn_cl (by omega)]; exact hY _ (by omega)) ?_
                      refine vv_aload_n C dX12_fewest_105 rfl ?_
                      refine gf_X12_fewestOf C dX12_fewest_106 fg_X12_33 ?_
                      refine vv_iload_n C dX12_fewest_109 rfl ?_
                      refine ld_73 C dX12_fewest_110 (xn_in (by omega) (by omega)) ?_
                      refine vs_eqi (v9 := nI (Y1 q)) (by rw [xn_cl (by omega)]; exact hY _ (by omega)) ?_
                      refine vv_iconst C dX12_fewest_111 ic_1 ?_
                      refine vv_isub C dX12_fewest_112 ?_
                      refine vs_eqi (v9 := nI (Y1 q - 1)) (xn_sub (a := Y1 q) (b := 1) (by omega)) ?_
                      refine vv_icmp_eq (tgt := 122) C dX12_fewest_113 (by decide) (fun q113 => ?_) (fun q113 => ?_)
                      · have hz : np_lm law (b + 1) = true ∧ Y1 (q - (b + 1)) + 1 = Y1 q := ⟨hpa, by rw [xn_eq (by omega) (by omega)] at q113; omega⟩
                        have eg : gf (np_lm law) Y1 q = b + 1 := by
                          apply Nat.le_antisymm z1
                          apply Nat.le_of_not_lt
                          intro z
                          exact hg.2.2.2.2 _ z z2 hz
                        refine fin (b + 1) eg
                      · have hz : ¬ (np_lm law (b + 1) = true ∧ Y1 (q - (b + 1)) + 1 = Y1 q) := fun z => q113 (by rw [xn_eq (by omega) (by omega)]; omega)
                        refine vw_iinc (lv9 := [_, _, _, _, _, _]) C dX12_fewest_116 rfl ic_m1 (by decide) rfl rfl ?_
                        refine vv_goto (tgt := 86) C dX12_fewest_119 (by decide) ?_
                        show vv_V g x 6 0 0 86 [_, _, _, _, some (.int (nI (b + 1) + -1)), _] _ _
                        rw [xm1, nI_pred]
                        have hne : gf (np_lm law) Y1 q ≠ b + 1 := fun z => hz (by rw [← z]; exact ⟨hg.2.2.1, hg.2.2.2.1⟩)
                        exact ih2 (by omega) (by omega) (fun d d1 d2 => by
                          by_cases y : d = b + 1
                          · rw [y]; exact hz
                          · exact z3 d (by omega) d2) b rfl
                refine vv_iload C dX12_fewest_77 rfl ?_
                refine vv_iload_n C dX12_fewest_79 rfl ?_
                refine vv_icmp_gt (tgt := 133) C dX12_fewest_80 (by decide) (fun q80 => ?_) (fun q80 => ?_)
                · exact absurd q80 (by rw [xn_lt (by omega) (by omega)]; omega)
                · refine vv_iload_n C dX12_fewest_83 rfl ?_
                  refine vw_istore (lv9 := [_, _, _, _, _, _]) C dX12_fewest_84 (by decide) rfl rfl ?_
                  exact inner q hg.2.1 (Nat.le_refl _) (fun d d1 d2 => by omega) q rfl
            refine vv_iload_n C dX12_fewest_69 rfl ?_
            refine vw_istore_n (lv9 := [_, _, _, _, _, _]) C dX12_fewest_70 (by decide) rfl rfl ?_
            refine vv_iconst C dX12_fewest_71 ic_0 ?_
            refine vw_istore (lv9 := [_, _, _, _, _, _]) C dX12_fewest_72 (by decide) rfl rfl ?_
            refine vv_iconst C dX12_fewest_74 ic_0 ?_
            refine vw_istore (lv9 := [_, _, _, _, _, _]) C dX12_fewest_75 (by decide) rfl rfl ?_
            exact outer j 0 k 0 (by omega) (by omega) (Nat.le_refl _) rfl
          · refine vv_iload_n C dX12_fewest_53 rfl ?_
            refine vv_iconst C dX12_fewest_54 ic_m1 ?_
            refine vv_icmp_ne (tgt := 67) C dX12_fewest_55 (by decide) (fun q55 => ?_) (fun q55 => ?_)
            · refine vv_iconst C dX12_fewest_67 ic_m1 ?_
              exact vs_iret C F dX12_fewest_68 rfl ⟨Y1, fun _ => by rw [xn_cl (by omega)]; exact hT, by rw [if_pos hw, xn_cl (by omega)]; unfold fwv; first | rw [if_neg (by omega), if_pos q40] | rw [if_neg (by omega), if_neg q40, if_neg q50], t⟩
            · exact absurd q55 q40
      · have hz : 9 < Y1 k := by rw [xn_lit, xn_le (by omega) (by omega)] at q32; omega
        refine vv_bipush C dX12_fewest_35 bp_m2 ?_
        exact vs_iret C F dX12_fewest_37 rfl ⟨Y1, fun _ => by rw [xn_cl (by omega)]; exact hT, by rw [if_pos hw, xn_cl (by omega)]; unfold fwv; rw [if_pos hz], t⟩
    · have hw : ¬ (vs_w (nI k) 1 2000 && decide (-1 ≤ i)) = true := by rw [w1, decide_eq_false q14]; decide
      refine vv_iconst C dX12_fewest_17 ic_m1 ?_
      exact vs_iret C F dX12_fewest_18 rfl ⟨fun _ => 0, fun z => absurd z hw, by rw [if_neg hw], vs_fr.rf, hS, hs⟩
