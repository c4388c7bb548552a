theorem sa_w {v : Int32} (h : vs_w v 0 1 = true) : v = 0 ∨ v = 1 := by
  obtain ⟨k, h1, h2, h3⟩ := vs_wN (a := 0) (b := 1) (by omega) (by omega) h
  have h4 : k = 0 ∨ k = 1 := by omega
  rcases h4 with e | e
  · subst e; exact Or.inl h3
  · subst e; exact Or.inr h3
theorem sa_vI {e : Nat → Int} (hB : sa_ok e) : (if xz (e (sa_j e)) < xz (-e (sa_i e)) then xz (e (sa_j e)) else xz (-e (sa_i e))) = xz (sa_v e) := by
  have h2 := hB.2 _ (sa_iI e).1
  have h3 := hB.2 _ (sa_jI e).1
  unfold sa_v
  by_cases h : e (sa_j e) < -e (sa_i e)
  · rw [if_pos h, if_pos ((xz_lt (by omega) (by omega)).mpr h)]
  · rw [if_neg h, if_neg (fun z => h ((xz_lt (by omega) (by omega)).mp z))]
theorem sa_upI {N : Nat → Int32} {e : Nat → Int} (hN : ∀ p, p < 8 → N p = xz (e p)) (i : Nat) (x : Int) : ∀ p, p < 8 → upd N i (xz x) p = xz (sa_up e i x p) := by
  intro p hp
  rw [xn_upd (α := Nat)]
  unfold sa_up
  split
  · rfl
  · exact hN p hp
theorem sa_eI {N : Nat → Int32} {e : Nat → Int} (hN : ∀ p, p < 8 → N p = xz (e p)) (hB : sa_ok e) (hi : e (sa_i e) < 0) : ∀ p, p < 8 → upd (upd N (sa_i e) (xz (e (sa_i e) + sa_v e))) (sa_j e) (xz (sa_up e (sa_i e) (e (sa_i e) + sa_v e) (sa_j e) - sa_v e)) p = xz (sa_e e p) := by
  intro p hp
  have h1 := sa_upI (sa_upI hN (sa_i e) (e (sa_i e) + sa_v e)) (sa_j e) (sa_up e (sa_i e) (e (sa_i e) + sa_v e) (sa_j e) - sa_v e) p hp
  rw [h1]
  have h2 : sa_up e (sa_i e) (e (sa_i e) + sa_v e) (sa_j e) = e (sa_j e) := by
    unfold sa_up
    rw [if_neg (Ne.symm (sa_ne hB hi))]
  rw [h2]
  rfl
theorem sa_r64 {z : Int} (h : 0 ≤ z) (h2 : z ≤ 100000) : (xz z).toInt64 = lN z.toNat := by
  rw [xz_nat h, xn_i2l (by omega)]
theorem nx_fr {ks is js : List Nat} {S S1 : vs_S} (h : nx_ok S) (f : vs_fr ks is js S S1) (d : 2 ∉ is) : nx_ok S1 := by
  unfold nx_ok
  rw [f.2.1 2 d]
  exact h

set_option maxRecDepth 20000 in
theorem c_X0_pay (g : vv_G) (S : vs_S) (e : Nat → Int) (hN : ∀ p, p < 8 → S.2.1 44 p = xz (e p)) (hB : sa_ok e) : vs_KI g yX0_pay cX0_pay 4 (some .int) 2 [vv_r g 43] S (fun r S1 => r = xz (sa_v e) ∧ vs_fr [] [44] [] S S1 ∧ (e (sa_i e) < 0 → ∀ p, p < 8 → S1.2.1 44 p = xz (sa_e e p))) := by
  refine vs_ofI (lv := [_, _, _, _]) mb_X0_pay (Nat.le_of_ble_eq_true rfl) rfl (fun x C F => ?_)
  have hb : ∀ p, p < 8 → -2147483648 ≤ e p ∧ e p < 2147483648 := fun p hp => by
    have := hB.2 p hp
    omega
  have hi8 := (sa_iI e).1
  have hj8 := (sa_jI e).1
  have loop : ∀ (f p i j : Nat), p + f = 8 → i < 8 → j < 8 → sa_m e f p i = sa_i e → sa_x e f p j = sa_j e → vv_V g x 4 0 0 6 [some (vv_r g 43), some (.int (nI i)), some (.int (nI j)), some (.int (nI p))] [] (vs_cells g S) := by
    intro f
    induction f with
    | zero =>
      intro p i j h1 h2 h3 hm hx
      have ho : p = 8 := by omega
      subst ho
      have hi0 : i = sa_i e := hm
      have hj0 : j = sa_j e := hx
      subst hi0
      subst hj0
      refine vv_iload_n C dX0_pay_6 rfl ?_
      refine vv_bipush C dX0_pay_7 bp_8 ?_
      refine vv_icmp_ge (tgt := 52) C dX0_pay_9 (by decide) (fun q9 => ?_) (fun q9 => ?_)
      · refine vv_aload_n C dX0_pay_52 rfl ?_
        refine gf_X0_nets C dX0_pay_53 fg_X0_11 ?_
        refine vv_iload_n C dX0_pay_56 rfl ?_
        refine ld_44 C dX0_pay_57 (xn_in (by omega) (by omega)) ?_
        refine vs_eqi (v9 := xz (e (sa_i e))) (by rw [xn_cl (by omega)]; exact hN _ (by omega)) ?_
        refine vv_ineg C dX0_pay_58 ?_
        refine vs_eqi (v9 := xz (-e (sa_i e))) (xz_neg _) ?_
        refine vv_aload_n C dX0_pay_59 rfl ?_
        refine gf_X0_nets C dX0_pay_60 fg_X0_11 ?_
        refine vv_iload_n C dX0_pay_63 rfl ?_
        refine ld_44 C dX0_pay_64 (xn_in (by omega) (by omega)) ?_
        refine vs_eqi (v9 := xz (e (sa_j e))) (by rw [xn_cl (by omega)]; exact hN _ (by omega)) ?_
        refine vv_mmin C dX0_pay_65 lk_X0_53 ⟨Nat.le_of_ble_eq_true rfl, Nat.le_of_ble_eq_true rfl, Nat.zero_le _, Nat.zero_le _⟩ ?_
        refine vs_eqi (v9 := xz (sa_v e)) (sa_vI hB) ?_
        refine vw_istore_n (lv9 := [_, _, _, _]) C dX0_pay_68 (by decide) rfl rfl ?_
        refine vv_aload_n C dX0_pay_69 rfl ?_
        refine gf_X0_nets C dX0_pay_70 fg_X0_11 ?_
        refine vv_iload_n C dX0_pay_73 rfl ?_
        refine vv_dup2 C dX0_pay_74 rfl rfl ?_
        refine ld_44 C dX0_pay_75 (xn_in (by omega) (by omega)) ?_
        refine vs_eqi (v9 := xz (e (sa_i e))) (by rw [xn_cl (by omega)]; exact hN _ (by omega)) ?_
        refine vv_iload_n C dX0_pay_76 rfl ?_
        refine vv_iadd C dX0_pay_77 ?_
        refine vs_eqi (v9 := xz (e (sa_i e) + sa_v e)) (xz_add _ _) ?_
        refine st_44 C dX0_pay_78 (xn_in (by omega) (by omega)) ?_
        refine vs_eqS (S9 := vs_ua S 44 (upd (S.2.1 44) (sa_i e) (xz (e (sa_i e) + sa_v e)))) (by rw [xn_cl (by omega)]) ?_
        refine vv_aload_n C dX0_pay_79 rfl ?_
        refine gf_X0_nets C dX0_pay_80 fg_X0_11 ?_
        refine vv_iload_n C dX0_pay_83 rfl ?_
        refine vv_dup2 C dX0_pay_84 rfl rfl ?_
        refine ld_44 C dX0_pay_85 (xn_in (by omega) (by omega)) ?_
        refine vs_eqi (v9 := xz (sa_up e (sa_i e) (e (sa_i e) + sa_v e) (sa_j e))) (by rw [xn_cl (by omega)]; exact sa_upI hN _ _ _ (by omega)) ?_
        refine vv_iload_n C dX0_pay_86 rfl ?_
        refine vv_isub C dX0_pay_87 ?_
        refine vs_eqi (v9 := xz (sa_up e (sa_i e) (e (sa_i e) + sa_v e) (sa_j e) - sa_v e)) (xz_sub _ _) ?_
        refine st_44 C dX0_pay_88 (xn_in (by omega) (by omega)) ?_
        refine vs_eqS (S9 := vs_ua S 44 (upd (upd (S.2.1 44) (sa_i e) (xz (e (sa_i e) + sa_v e))) (sa_j e) (xz (sa_up e (sa_i e) (e (sa_i e) + sa_v e) (sa_j e) - sa_v e)))) (by rw [xn_cl (by omega), vs_uaa]; rfl) ?_
        refine vv_iload_n C dX0_pay_89 rfl ?_
        exact vs_iret C F dX0_pay_90 rfl ⟨rfl, vs_fr.rf.ua (by decide), fun hi => sa_eI hN hB hi⟩
      · exact absurd (by decide +kernel) q9
    | succ f ih =>
      intro p i j h1 h2 h3 hm hx
      unfold sa_m at hm
      unfold sa_x at hx
      refine vv_iload_n C dX0_pay_6 rfl ?_
      refine vv_bipush C dX0_pay_7 bp_8 ?_
      refine vv_icmp_ge (tgt := 52) C dX0_pay_9 (by decide) (fun q9 => ?_) (fun q9 => ?_)
      · exact absurd q9 (by rw [xn_lit, xn_le (by omega) (by omega)]; omega)
      · refine vv_aload_n C dX0_pay_12 rfl ?_
        refine gf_X0_nets C dX0_pay_13 fg_X0_11 ?_
        refine vv_iload_n C dX0_pay_16 rfl ?_
        refine ld_44 C dX0_pay_17 (xn_in (by omega) (by omega)) ?_
        refine vs_eqi (v9 := xz (e p)) (by rw [xn_cl (by omega)]; exact hN _ (by omega)) ?_
        refine vv_aload_n C dX0_pay_18 rfl ?_
        refine gf_X0_nets C dX0_pay_19 fg_X0_11 ?_
        refine vv_iload_n C dX0_pay_22 rfl ?_
        refine ld_44 C dX0_pay_23 (xn_in (by omega) (by omega)) ?_
        refine vs_eqi (v9 := xz (e i)) (by rw [xn_cl (by omega)]; exact hN _ (by omega)) ?_
        refine vv_icmp_ge (tgt := 29) C dX0_pay_24 (by decide) (fun q24 => ?_) (fun q24 => ?_)
        · have a1 : ¬ e p < e i := Int.not_lt.mpr ((xz_le (hb _ (by omega)) (hb _ (by omega))).mp q24)
          rw [if_neg a1] at hm
          refine vv_aload_n C dX0_pay_29 rfl ?_
          refine gf_X0_nets C dX0_pay_30 fg_X0_11 ?_
          refine vv_iload_n C dX0_pay_33 rfl ?_
          refine ld_44 C dX0_pay_34 (xn_in (by omega) (by omega)) ?_
          refine vs_eqi (v9 := xz (e p)) (by rw [xn_cl (by omega)]; exact hN _ (by omega)) ?_
          refine vv_aload_n C dX0_pay_35 rfl ?_
          refine gf_X0_nets C dX0_pay_36 fg_X0_11 ?_
          refine vv_iload_n C dX0_pay_39 rfl ?_
          refine ld_44 C dX0_pay_40 (xn_in (by omega) (by omega)) ?_
          refine vs_eqi (v9 := xz (e j)) (by rw [xn_cl (by omega)]; exact hN _ (by omega)) ?_
          refine vv_icmp_le (tgt := 46) C dX0_pay_41 (by decide) (fun q41 => ?_) (fun q41 => ?_)
          · have a2 : ¬ e j < e p := Int.not_lt.mpr ((xz_le (hb _ (by omega)) (hb _ (by omega))).mp q41)
            rw [if_neg a2] at hx
            refine vw_iinc (lv9 := [_, _, _, _]) C dX0_pay_46 rfl ic_1 (by decide) rfl rfl ?_
            refine vv_goto (tgt := 6) C dX0_pay_49 (by decide) ?_
            rw [nI_1]
            exact ih (p + 1) _ _ (by omega) (by omega) (by omega) hm hx
          · have a2 : e j < e p := Int.not_le.mp (fun y => q41 ((xz_le (hb _ (by omega)) (hb _ (by omega))).mpr y))
            rw [if_pos a2] at hx
            refine vv_iload_n C dX0_pay_44 rfl ?_
            refine vw_istore_n (lv9 := [_, _, _, _]) C dX0_pay_45 (by decide) rfl rfl ?_
            refine vw_iinc (lv9 := [_, _, _, _]) C dX0_pay_46 rfl ic_1 (by decide) rfl rfl ?_
            refine vv_goto (tgt := 6) C dX0_pay_49 (by decide) ?_
            rw [nI_1]
            exact ih (p + 1) _ _ (by omega) (by omega) (by omega) hm hx
        · have a1 : e p < e i := Int.not_le.mp (fun y => q24 ((xz_le (hb _ (by omega)) (hb _ (by omega))).mpr y))
          rw [if_pos a1] at hm
          refine vv_iload_n C dX0_pay_27 rfl ?_
          refine vw_istore_n (lv9 := [_, _, _, _]) C dX0_pay_28 (by decide) rfl rfl ?_
          refine vv_aload_n C dX0_pay_29 rfl ?_
          refine gf_X0_nets C dX0_pay_30 fg_X0_11 ?_
          refine vv_iload_n C dX0_pay_33 rfl ?_
          refine ld_44 C dX0_pay_34 (xn_in (by omega) (by omega)) ?_
          refine vs_eqi (v9 := xz (e p)) (by rw [xn_cl (by omega)]; exact hN _ (by omega)) ?_
          refine vv_aload_n C dX0_pay_35 rfl ?_
          refine gf_X0_nets C dX0_pay_36 fg_X0_11 ?_
          refine vv_iload_n C dX0_pay_39 rfl ?_
          refine ld_44 C dX0_pay_40 (xn_in (by omega) (by omega)) ?_
          refine vs_eqi (v9 := xz (e j)) (by rw [xn_cl (by omega)]; exact hN _ (by omega)) ?_
          refine vv_icmp_le (tgt := 46) C dX0_pay_41 (by decide) (fun q41 => ?_) (fun q41 => ?_)
          · have a2 : ¬ e j < e p := Int.not_lt.mpr ((xz_le (hb _ (by omega)) (hb _ (by omega))).mp q41)
            rw [if_neg a2] at hx
            refine vw_iinc (lv9 := [_, _, _, _]) C dX0_pay_46 rfl ic_1 (by decide) rfl rfl ?_
            refine vv_goto (tgt := 6) C dX0_pay_49 (by decide) ?_
            rw [nI_1]
            exact ih (p + 1) _ _ (by omega) (by omega) (by omega) hm hx
          · have a2 : e j < e p := Int.not_le.mp (fun y => q41 ((xz_le (hb _ (by omega)) (hb _ (by omega))).mpr y))
            rw [if_pos a2] at hx
            refine vv_iload_n C dX0_pay_44 rfl ?_
            refine vw_istore_n (lv9 := [_, _, _, _]) C dX0_pay_45 (by decide) rfl rfl ?_
            refine vw_iinc (lv9 := [_, _, _, _]) C dX0_pay_46 rfl ic_1 (by decide) rfl rfl ?_
            refine vv_goto (tgt := 6) C dX0_pay_49 (by decide) ?_
            rw [nI_1]
            exact ih (p + 1) _ _ (by omega) (by omega) (by omega) hm hx
  refine vv_iconst C dX0_pay_0 ic_0 ?_
  refine vw_istore_n (lv9 := [_, _, _, _]) C dX0_pay_1 (by decide) rfl rfl ?_
  refine vv_iconst C dX0_pay_2 ic_0 ?_
  refine vw_istore_n (lv9 := [_, _, _, _]) C dX0_pay_3 (by decide) rfl rfl ?_
  refine vv_iconst C dX0_pay_4 ic_1 ?_
  refine vw_istore_n (lv9 := [_, _, _, _]) C dX0_pay_5 (by decide) rfl rfl ?_
  exact loop 7 1 0 0 rfl (by omega) (by omega) rfl rfl
set_option maxRecDepth 20000 in
theorem c_X0_payments (g : vv_G) (S : vs_S) (hS : nx_ok S) (law : Nat) (hl : law ≤ 3) (hs : S.1 0 = nI law) (L : lg_L) (hL : lg_X S L) (hi : lg_in L) (fl : Bool) : vs_KI g yX0_payments cX0_payments 5 (some .int) 5 [vv_r g 43, .int (vs_b fl)] S (fun r S1 => r = (if fl = true then nI (sa_r (np_lx law) 8 (sa_E L)).2 else nI (sa_r (np_lx law) 8 (sa_E L)).1) ∧ vs_fr [] [44] [] S S1) := by
  refine vs_ofI (lv := [_, _, _, _, _]) mb_X0_payments (Nat.le_of_ble_eq_true rfl) rfl (fun x C F => ?_)
  have hnet : ∀ p, p < 8 → dn_net (S.2.1 19) p 8 0 0 = xz (sa_E L p) := by
    intro p hp
    rw [← lg_H hL]
    exact sa_netI hp (fun q hq => (lg_inD hi (p := q) (by omega)).1) 8 0 0 (by omega)
  have loop2 : ∀ (f t m : Nat) (e : Nat → Int) (S2 : vs_S) (w4 : Option Value), t + f = 8 → sa_n e 8 ≤ f → sa_ok e → vs_fr [] [44] [] S S2 → (∀ p, p < 8 → S2.2.1 44 p = xz (e p)) → t + (sa_r (np_lx law) f e).1 = (sa_r (np_lx law) 8 (sa_E L)).1 → m + (sa_r (np_lx law) f e).2 = (sa_r (np_lx law) 8 (sa_E L)).2 → vv_V g x 5 0 0 29 [some (vv_r g 43), some (.int (vs_b fl)), some (.int (nI t)), some (.int (nI m)), w4] [] (vs_cells g S2) := by
    intro f
    induction f with
    | zero =>
      intro t m e S2 w4 h1 hn hB fr2 hN g1 g2
      have ho : t = 8 := by omega
      subst ho
      refine vv_iload_n C dX0_payments_29 rfl ?_
      refine vv_bipush C dX0_payments_30 bp_8 ?_
      refine vv_icmp_ge (tgt := 71) C dX0_payments_32 (by decide) (fun q32 => ?_) (fun q32 => ?_)
      · refine vv_iload_n C dX0_payments_71 rfl ?_
        refine vv_if_eq (tgt := 79) C dX0_payments_72 (by decide) (fun q72 => ?_) (fun q72 => ?_)
        · skip
          refine vv_iload_n C dX0_payments_79 rfl ?_
          cases fl
          · first
            | exact vs_iret C F dX0_payments_80 rfl ⟨by rw [← g1]; rfl, fr2⟩
            | exact absurd rfl q72
          · first
            | exact vs_iret C F dX0_payments_80 rfl ⟨by rw [← g2]; rfl, fr2⟩
            | exact absurd q72 (by decide)
        · refine vv_iload_n C dX0_payments_75 rfl ?_
          refine vv_goto (tgt := 80) C dX0_payments_76 (by decide) ?_
          cases fl
          · first
            | exact vs_iret C F dX0_payments_80 rfl ⟨by rw [← g1]; rfl, fr2⟩
            | exact absurd rfl q72
          · first
            | exact vs_iret C F dX0_payments_80 rfl ⟨by rw [← g2]; rfl, fr2⟩
            | exact absurd q72 (by decide)
      · exact absurd (by decide +kernel) q32
    | succ f ih =>
      intro t m e S2 w4 h1 hn hB fr2 hN g1 g2
      have hm8 := (sa_rle (P := np_lx law) 8 (sa_E L)).2
      refine vv_iload_n C dX0_payments_29 rfl ?_
      refine vv_bipush C dX0_payments_30 bp_8 ?_
      refine vv_icmp_ge (tgt := 71) C dX0_payments_32 (by decide) (fun q32 => ?_) (fun q32 => ?_)
      · exact absurd q32 (by rw [xn_lit, xn_le (by omega) (by omega)]; omega)
      · refine vv_aload_n C dX0_payments_35 rfl ?_
        refine vs_calli C dX0_payments_36 (c_X0_pay g S2 e hN hB) mb_X0_pay mv_X0_pay lk_X0_68 ce_43 rfl rfl rfl rfl ⟨Nat.le_of_ble_eq_true rfl, Nat.le_of_ble_eq_true rfl, Nat.le_of_ble_eq_true rfl⟩ (fun r36 S36 p36 => ?_)
        obtain ⟨e36, f36, n36⟩ := p36
        subst e36
        replace fr2 := fr2.tr f36
        refine vw_istore (lv9 := [_, _, _, _, _]) C dX0_payments_39 (by decide) rfl rfl ?_
        refine vv_iload C dX0_payments_41 rfl ?_
        refine vv_if_ne (tgt := 49) C dX0_payments_43 (by decide) (fun q43 => ?_) (fun q43 => ?_)
        · have hz : e (sa_i e) < 0 := by
            apply Decidable.byContradiction
            intro z
            exact q43 (by rw [sa_vz hB z]; rfl)
          have h9 := sa_vp hB hz
          have hnd := sa_nde hB hz
          rw [sa_r1, if_pos hz] at g1 g2
          dsimp only at g1 g2
          refine vv_aload_n C dX0_payments_49 rfl ?_
          refine gf_X0_laws C dX0_payments_50 fg_X0_15 ?_
          refine vv_iload C dX0_payments_53 rfl ?_
          refine vv_i2l C dX0_payments_55 ?_
          refine vs_eql (v9 := lN (sa_v e).toNat) (sa_r64 (by omega) (by omega)) ?_
          refine vs_caliF C dX0_payments_56 (c_X1_isLawful g S36 (nx_fr hS fr2 (by decide)) law hl ((fr2.1 0 (by decide)).trans hs) (sa_v e).toNat (by omega)) mb_X1_isLawful mv_X1_isLawful lk_X0_36 ce_4 rfl rfl rfl rfl ⟨Nat.le_of_ble_eq_true rfl, Nat.le_of_ble_eq_true rfl, Nat.le_of_ble_eq_true rfl⟩ ?_
          refine vv_if_eq (tgt := 65) C dX0_payments_59 (by decide) (fun q59 => ?_) (fun q59 => ?_)
          · rw [vs_b0.mp q59, if_neg (by decide)] at g2
            refine vw_iinc (lv9 := [_, _, _, _, _]) C dX0_payments_65 rfl ic_1 (by decide) rfl rfl ?_
            refine vv_goto (tgt := 29) C dX0_payments_68 (by decide) ?_
            first
            | (rw [nI_1, nI_1]; exact ih (t + 1) (m + 1) _ S36 _ (by omega) (by omega) (sa_eok hB hz) fr2 (n36 hz) (by omega) (by omega))
            | (rw [nI_1]; exact ih (t + 1) m _ S36 _ (by omega) (by omega) (sa_eok hB hz) fr2 (n36 hz) (by omega) (by omega))
          · rw [vs_b1.mp q59, if_pos rfl] at g2
            refine vw_iinc (lv9 := [_, _, _, _, _]) C dX0_payments_62 rfl ic_1 (by decide) rfl rfl ?_
            refine vw_iinc (lv9 := [_, _, _, _, _]) C dX0_payments_65 rfl ic_1 (by decide) rfl rfl ?_
            refine vv_goto (tgt := 29) C dX0_payments_68 (by decide) ?_
            first
            | (rw [nI_1, nI_1]; exact ih (t + 1) (m + 1) _ S36 _ (by omega) (by omega) (sa_eok hB hz) fr2 (n36 hz) (by omega) (by omega))
            | (rw [nI_1]; exact ih (t + 1) m _ S36 _ (by omega) (by omega) (sa_eok hB hz) fr2 (n36 hz) (by omega) (by omega))
        · have hz : ¬ e (sa_i e) < 0 := fun z => by
            have h9 := sa_vp hB z
            have h8 := congrArg Int32.toInt q43
            rw [xz_toInt (by omega) (by omega)] at h8
            have h7 : (0 : Int32).toInt = 0 := rfl
            omega
          rw [sa_r0 hz] at g1 g2
          refine vv_goto (tgt := 71) C dX0_payments_46 (by decide) ?_
          refine vv_iload_n C dX0_payments_71 rfl ?_
          refine vv_if_eq (tgt := 79) C dX0_payments_72 (by decide) (fun q72 => ?_) (fun q72 => ?_)
          · refine vv_iload_n C dX0_payments_79 rfl ?_
            cases fl
            · first
              | exact vs_iret C F dX0_payments_80 rfl ⟨by rw [← g1]; rfl, fr2⟩
              | exact absurd rfl q72
            · first
              | exact vs_iret C F dX0_payments_80 rfl ⟨by rw [← g2]; rfl, fr2⟩
              | exact absurd q72 (by decide)
          · refine vv_iload_n C dX0_payments_75 rfl ?_
            refine vv_goto (tgt := 80) C dX0_payments_76 (by decide) ?_
            cases fl
            · first
              | exact vs_iret C F dX0_payments_80 rfl ⟨by rw [← g1]; rfl, fr2⟩
              | exact absurd rfl q72
            · first
              | exact vs_iret C F dX0_payments_80 rfl ⟨by rw [← g2]; rfl, fr2⟩
              | exact absurd q72 (by decide)
  have loop1 : ∀ (f p : Nat) (S2 : vs_S) (w3 w4 : Option Value), p + f = 8 → vs_fr [] [44] [] S S2 → (∀ q, q < p → S2.2.1 44 q = xz (sa_E L q)) → vv_V g x 5 0 0 2 [some (vv_r g 43), some (.int (vs_b fl)), some (.int (nI p)), w3, w4] [] (vs_cells g S2) := by
    intro f
    induction f with
    | zero =>
      intro p S2 w3 w4 h1 fr2 hN
      have ho : p = 8 := by omega
      subst ho
      refine vv_iload_n C dX0_payments_2 rfl ?_
      refine vv_bipush C dX0_payments_3 bp_8 ?_
      refine vv_icmp_ge (tgt := 25) C dX0_payments_5 (by decide) (fun q5 => ?_) (fun q5 => ?_)
      · refine vv_iconst C dX0_payments_25 ic_0 ?_
        refine vw_istore_n (lv9 := [_, _, _, _, _]) C dX0_payments_26 (by decide) rfl rfl ?_
        refine vv_iconst C dX0_payments_27 ic_0 ?_
        refine vw_istore_n (lv9 := [_, _, _, _, _]) C dX0_payments_28 (by decide) rfl rfl ?_
        exact loop2 8 0 0 (sa_E L) S2 _ rfl (sa_nle 8) (sa_EI hi) fr2 hN (Nat.zero_add _) (Nat.zero_add _)
      · exact absurd (by decide +kernel) q5
    | succ f ih =>
      intro p S2 w3 w4 h1 fr2 hN
      refine vv_iload_n C dX0_payments_2 rfl ?_
      refine vv_bipush C dX0_payments_3 bp_8 ?_
      refine vv_icmp_ge (tgt := 25) C dX0_payments_5 (by decide) (fun q5 => ?_) (fun q5 => ?_)
      · exact absurd q5 (by rw [xn_lit, xn_le (by omega) (by omega)]; omega)
      · refine vv_aload_n C dX0_payments_8 rfl ?_
        refine gf_X0_nets C dX0_payments_9 fg_X0_11 ?_
        refine vv_iload_n C dX0_payments_12 rfl ?_
        refine vv_aload_n C dX0_payments_13 rfl ?_
        refine vv_iload_n C dX0_payments_14 rfl ?_
        refine vs_caliF C dX0_payments_15 (c_X0_net g S2 p (by omega)) mb_X0_net mv_X0_net lk_X0_65 ce_43 rfl rfl rfl rfl ⟨Nat.le_of_ble_eq_true rfl, Nat.le_of_ble_eq_true rfl, Nat.le_of_ble_eq_true rfl⟩ ?_
        refine vs_eqi (v9 := xz (sa_E L p)) (by rw [fr2.2.1 19 (by decide)]; exact hnet p (by omega)) ?_
        refine st_44 C dX0_payments_18 (xn_in (by omega) (by omega)) ?_
        refine vw_iinc (lv9 := [_, _, _, _, _]) C dX0_payments_19 rfl ic_1 (by decide) rfl rfl ?_
        refine vv_goto (tgt := 2) C dX0_payments_22 (by decide) ?_
        rw [nI_1]
        refine ih (p + 1) _ _ _ (by omega) (fr2.ua (by decide)) (fun q hq => ?_)
        show upd (S2.2.1 44) (nI p).toNatClampNeg _ q = _
        rw [xn_cl (by omega), xn_upd (α := Nat)]
        split
        · next z => rw [z]
        · next z => exact hN q (by omega)
  refine vv_iconst C dX0_payments_0 ic_0 ?_
  refine vw_istore_n (lv9 := [_, _, _, _, _]) C dX0_payments_1 (by decide) rfl rfl ?_
  exact loop1 8 0 S none none rfl vs_fr.rf (fun q hq => by omega)
set_option maxRecDepth 20000 in
theorem c_X11_settle (g : vv_G) (S : vs_S) (hS : nx_ok S) (law : Nat) (hl : law ≤ 3) (hs : S.1 0 = nI law) (L : lg_L) (hL : lg_X S L) (hi : lg_in L) (what : Int32) : vs_KI g yX11_settle cX11_settle 2 (some .int) 6 [vv_r g 0, .int what] S (fun r S1 => r = (if vs_w what 0 1 = true then (if what = 0 then nI (sa_r (np_lx law) 8 (sa_E L)).1 else nI (sa_r (np_lx law) 8 (sa_E L)).2) else -1) ∧ vs_fr [] [44] [] S S1) := by
  refine vs_ofI (lv := [_, _]) mb_X11_settle (Nat.le_of_ble_eq_true rfl) rfl (fun x C F => ?_)
  refine vv_iload_n C dX11_settle_0 rfl ?_
  refine vv_iconst C dX11_settle_1 ic_0 ?_
  refine vv_iconst C dX11_settle_2 ic_1 ?_
  refine vs_calsiF C dX11_settle_3 (c_X11_within g S _ _ _) mb_X11_within ms_X11_within lk_X11_94 rfl rfl ⟨Nat.le_of_ble_eq_true rfl, Nat.le_of_ble_eq_true rfl, Nat.le_of_ble_eq_true rfl⟩ ?_
  refine vv_if_ne (tgt := 11) C dX11_settle_6 (by decide) (fun q6 => ?_) (fun q6 => ?_)
  · have w1 : vs_w what 0 1 = true := vs_b1.mp q6
    refine vv_aload_n C dX11_settle_11 rfl ?_
    refine gf_X11_debts C dX11_settle_12 fg_X11_60 ?_
    refine vv_iload_n C dX11_settle_15 rfl ?_
    refine vv_iconst C dX11_settle_16 ic_1 ?_
    refine vv_icmp_ne (tgt := 24) C dX11_settle_17 (by decide) (fun q17 => ?_) (fun q17 => ?_)
    · refine vv_iconst C dX11_settle_24 ic_0 ?_
      refine vs_eqi (v9 := vs_b (decide (what = 1))) (by first | (rw [decide_eq_true q17]; rfl) | (rw [decide_eq_false q17]; rfl)) ?_
      refine vs_calli C dX11_settle_25 (c_X0_payments g S hS law hl hs L hL hi (decide (what = 1))) mb_X0_payments mv_X0_payments lk_X11_243 ce_43 rfl rfl rfl rfl ⟨Nat.le_of_ble_eq_true rfl, Nat.le_of_ble_eq_true rfl, Nat.le_of_ble_eq_true rfl⟩ (fun r25 S25 p25 => ?_)
      exact vs_iret C F dX11_settle_28 rfl ⟨by rw [p25.1, w1, if_pos rfl]; rcases sa_w w1 with z | z <;> (subst z; rfl), p25.2⟩
    · refine vv_iconst C dX11_settle_20 ic_1 ?_
      refine vv_goto (tgt := 25) C dX11_settle_21 (by decide) ?_
      refine vs_eqi (v9 := vs_b (decide (what = 1))) (by first | (rw [decide_eq_true q17]; rfl) | (rw [decide_eq_false q17]; rfl)) ?_
      refine vs_calli C dX11_settle_25 (c_X0_payments g S hS law hl hs L hL hi (decide (what = 1))) mb_X0_payments mv_X0_payments lk_X11_243 ce_43 rfl rfl rfl rfl ⟨Nat.le_of_ble_eq_true rfl, Nat.le_of_ble_eq_true rfl, Nat.le_of_ble_eq_true rfl⟩ (fun r25 S25 p25 => ?_)
      exact vs_iret C F dX11_settle_28 rfl ⟨by rw [p25.1, w1, if_pos rfl]; rcases sa_w w1 with z | z <;> (subst z; rfl), p25.2⟩
  · have w1 : vs_w what 0 1 = false := vs_b0.mp q6
    refine vv_iconst C dX11_settle_9 ic_m1 ?_
    exact vs_iret C F dX11_settle_10 rfl ⟨by rw [w1]; rfl, vs_fr.rf⟩
def sa_J (law : Nat) (S S2 : vs_S) : Prop := vs_fr [24] [70, 81] [] S S2 ∧ nm_ok S2 ∧ S2.1 23 = nI law
theorem sa_J.ua {law : Nat} {S S2 : vs_S} (h : sa_J law S S2) (f : Nat → Int32) : sa_J law S (vs_ua S2 81 f) := ⟨h.1.ua (by decide), nm_ok_of h.2.1 rfl rfl, h.2.2⟩
theorem sa_J.go {law : Nat} {S S2 S3 : vs_S} (h : sa_J law S S2) (h2 : nm_to S2 S3) : sa_J law S S3 := ⟨h.1.tr (h2.1.wd (by decide) (by decide) (by decide)), h2.2, by rw [h2.1.1 23 (by decide)]; exact h.2.2⟩
theorem sa_v1 {e : Nat → Int} (hB : sa_ok e) (h : xz (e (sa_j e)) ≤ xz (-e (sa_i e))) : xz (e (sa_j e)) = xz (sa_v e) := by
  have h2 := hB.2 _ (sa_iI e).1
  have h3 := hB.2 _ (sa_jI e).1
  have h4 := (xz_le (by omega) (by omega)).mp h
  unfold sa_v
  split
  · rfl
  · exact congrArg xz (by omega)
theorem sa_v2 {e : Nat → Int} (hB : sa_ok e) (h : ¬ xz (e (sa_j e)) ≤ xz (-e (sa_i e))) : xz (-e (sa_i e)) = xz (sa_v e) := by
  have h2 := hB.2 _ (sa_iI e).1
  have h3 := hB.2 _ (sa_jI e).1
  have h4 : ¬ e (sa_j e) ≤ -e (sa_i e) := fun y => h ((xz_le (by omega) (by omega)).mpr y)
  unfold sa_v
  rw [if_neg (by omega)]
set_option maxRecDepth 20000 in
theorem c_X12_settle (g : vv_G) (S : vs_S) (hfl : vv_fl g = false) (hS : nm_ok S) (law : Nat) (hl : law ≤ 3) (hs : S.1 23 = nI law) (L : lg_L) (hL : lg_M S L) (hi : lg_in L) (what : Int32) : vs_KI g yX12_settle cX12_settle 8 (some .int) 6 [vv_r g 65, .int what] S (fun r S1 => r = (if vs_w what 0 1 = true then (if what = 0 then nI (sa_r (np_lm law) 8 (sa_E L)).1 else nI (sa_r (np_lm law) 8 (sa_E L)).2) else -1) ∧ sa_J law S S1) := by
  refine vs_ofI (lv := [_, _, _, _, _, _, _, _]) mb_X12_settle (Nat.le_of_ble_eq_true rfl) rfl (fun x C F => ?_)
  have hnet : ∀ p, p < 8 → dn_net (S.2.1 66) p 8 0 0 = xz (sa_E L p) := by
    intro p hp
    rw [← lg_HM hL]
    exact sa_netI hp (fun q hq => (lg_inD hi (p := q) (by omega)).1) 8 0 0 (by omega)
  have inner : ∀ (t m : Nat) (e : Nat → Int) (S2 : vs_S), sa_ok e → (∀ p, p < 8 → S2.2.1 81 p = xz (e p)) → vv_V g x 8 0 0 123 [some (vv_r g 65), some (.int what), some (.int (nI t)), some (.int (nI m)), some (.int 1), some (.int (nI (sa_i e))), some (.int (nI (sa_j e))), some (.int (nI 8))] [] (vs_cells g S2) → ∀ (f p i j : Nat), p + f = 8 → i < 8 → j < 8 → sa_m e f p i = sa_i e → sa_x e f p j = sa_j e → vv_V g x 8 0 0 58 [some (vv_r g 65), some (.int what), some (.int (nI t)), some (.int (nI m)), some (.int 1), some (.int (nI i)), some (.int (nI j)), some (.int (nI p))] [] (vs_cells g S2) := by
    intro t m e S2 hB hN kk
    have hb : ∀ p, p < 8 → -2147483648 ≤ e p ∧ e p < 2147483648 := fun p hp => by
      have := hB.2 p hp
      omega
    intro f
    induction f with
    | zero =>
      intro p i j h1 h2 h3 hm hx
      have ho : p = 8 := by omega
      subst ho
      have hi0 : i = sa_i e := hm
      have hj0 : j = sa_j e := hx
      subst hi0
      subst hj0
      refine vv_iload C dX12_settle_58 rfl ?_
      refine vv_bipush C dX12_settle_60 bp_8 ?_
      refine vv_icmp_ge (tgt := 123) C dX12_settle_62 (by decide) (fun q62 => ?_) (fun q62 => ?_)
      · exact kk
      · exact absurd (by decide +kernel) q62
    | succ f ih =>
      intro p i j h1 h2 h3 hm hx
      unfold sa_m at hm
      unfold sa_x at hx
      refine vv_iload C dX12_settle_58 rfl ?_
      refine vv_bipush C dX12_settle_60 bp_8 ?_
      refine vv_icmp_ge (tgt := 123) C dX12_settle_62 (by decide) (fun q62 => ?_) (fun q62 => ?_)
      · exact absurd q62 (by rw [xn_lit, xn_le (by omega) (by omega)]; omega)
      · refine vv_aload_n C dX12_settle_65 rfl ?_
        refine gf_X12_net C dX12_settle_66 fg_X12_59 ?_
        refine vv_iload C dX12_settle_69 rfl ?_
        refine ld_81 C dX12_settle_71 (xn_in (by omega) (by omega)) ?_
        refine vs_eqi (v9 := xz (e p)) (by rw [xn_cl (by omega)]; exact hN _ (by omega)) ?_
        refine vv_aload_n C dX12_settle_72 rfl ?_
        refine gf_X12_net C dX12_settle_73 fg_X12_59 ?_
        refine vv_iload C dX12_settle_76 rfl ?_
        refine ld_81 C dX12_settle_78 (xn_in (by omega) (by omega)) ?_
        refine vs_eqi (v9 := xz (e i)) (by rw [xn_cl (by omega)]; exact hN _ (by omega)) ?_
        refine vv_icmp_ge (tgt := 87) C dX12_settle_79 (by decide) (fun q79 => ?_) (fun q79 => ?_)
        · have a1 : ¬ e p < e i := Int.not_lt.mpr ((xz_le (hb _ (by omega)) (hb _ (by omega))).mp q79)
          rw [if_neg a1] at hm
          refine vv_iload C dX12_settle_87 rfl ?_
          refine vw_istore (lv9 := [_, _, _, _, _, _, _, _]) C dX12_settle_89 (by decide) rfl rfl ?_
          refine vv_aload_n C dX12_settle_91 rfl ?_
          refine gf_X12_net C dX12_settle_92 fg_X12_59 ?_
          refine vv_iload C dX12_settle_95 rfl ?_
          refine ld_81 C dX12_settle_97 (xn_in (by omega) (by omega)) ?_
          refine vs_eqi (v9 := xz (e p)) (by rw [xn_cl (by omega)]; exact hN _ (by omega)) ?_
          refine vv_aload_n C dX12_settle_98 rfl ?_
          refine gf_X12_net C dX12_settle_99 fg_X12_59 ?_
          refine vv_iload C dX12_settle_102 rfl ?_
          refine ld_81 C dX12_settle_104 (xn_in (by omega) (by omega)) ?_
          refine vs_eqi (v9 := xz (e j)) (by rw [xn_cl (by omega)]; exact hN _ (by omega)) ?_
          refine vv_icmp_le (tgt := 113) C dX12_settle_105 (by decide) (fun q105 => ?_) (fun q105 => ?_)
          · have a2 : ¬ e j < e p := Int.not_lt.mpr ((xz_le (hb _ (by omega)) (hb _ (by omega))).mp q105)
            rw [if_neg a2] at hx
            refine vv_iload C dX12_settle_113 rfl ?_
            refine vw_istore (lv9 := [_, _, _, _, _, _, _, _]) C dX12_settle_115 (by decide) rfl rfl ?_
            refine vw_iinc (lv9 := [_, _, _, _, _, _, _, _]) C dX12_settle_117 rfl ic_1 (by decide) rfl rfl ?_
            refine vv_goto (tgt := 58) C dX12_settle_120 (by decide) ?_
            rw [nI_1]
            exact ih (p + 1) _ _ (by omega) (by omega) (by omega) hm hx
          · have a2 : e j < e p := Int.not_le.mp (fun y => q105 ((xz_le (hb _ (by omega)) (hb _ (by omega))).mpr y))
            rw [if_pos a2] at hx
            refine vv_iload C dX12_settle_108 rfl ?_
            refine vv_goto (tgt := 115) C dX12_settle_110 (by decide) ?_
            refine vw_istore (lv9 := [_, _, _, _, _, _, _, _]) C dX12_settle_115 (by decide) rfl rfl ?_
            refine vw_iinc (lv9 := [_, _, _, _, _, _, _, _]) C dX12_settle_117 rfl ic_1 (by decide) rfl rfl ?_
            refine vv_goto (tgt := 58) C dX12_settle_120 (by decide) ?_
            rw [nI_1]
            exact ih (p + 1) _ _ (by omega) (by omega) (by omega) hm hx
        · have a1 : e p < e i := Int.not_le.mp (fun y => q79 ((xz_le (hb _ (by omega)) (hb _ (by omega))).mpr y))
          rw [if_pos a1] at hm
          refine vv_iload C dX12_settle_82 rfl ?_
          refine vv_goto (tgt := 89) C dX12_settle_84 (by decide) ?_
          refine vw_istore (lv9 := [_, _, _, _, _, _, _, _]) C dX12_settle_89 (by decide) rfl rfl ?_
          refine vv_aload_n C dX12_settle_91 rfl ?_
          refine gf_X12_net C dX12_settle_92 fg_X12_59 ?_
          refine vv_iload C dX12_settle_95 rfl ?_
          refine ld_81 C dX12_settle_97 (xn_in (by omega) (by omega)) ?_
          refine vs_eqi (v9 := xz (e p)) (by rw [xn_cl (by omega)]; exact hN _ (by omega)) ?_
          refine vv_aload_n C dX12_settle_98 rfl ?_
          refine gf_X12_net C dX12_settle_99 fg_X12_59 ?_
          refine vv_iload C dX12_settle_102 rfl ?_
          refine ld_81 C dX12_settle_104 (xn_in (by omega) (by omega)) ?_
          refine vs_eqi (v9 := xz (e j)) (by rw [xn_cl (by omega)]; exact hN _ (by omega)) ?_
          refine vv_icmp_le (tgt := 113) C dX12_settle_105 (by decide) (fun q105 => ?_) (fun q105 => ?_)
          · have a2 : ¬ e j < e p := Int.not_lt.mpr ((xz_le (hb _ (by omega)) (hb _ (by omega))).mp q105)
            rw [if_neg a2] at hx
            refine vv_iload C dX12_settle_113 rfl ?_
            refine vw_istore (lv9 := [_, _, _, _, _, _, _, _]) C dX12_settle_115 (by decide) rfl rfl ?_
            refine vw_iinc (lv9 := [_, _, _, _, _, _, _, _]) C dX12_settle_117 rfl ic_1 (by decide) rfl rfl ?_
            refine vv_goto (tgt := 58) C dX12_settle_120 (by decide) ?_
            rw [nI_1]
            exact ih (p + 1) _ _ (by omega) (by omega) (by omega) hm hx
          · have a2 : e j < e p := Int.not_le.mp (fun y => q105 ((xz_le (hb _ (by omega)) (hb _ (by omega))).mpr y))
            rw [if_pos a2] at hx
            refine vv_iload C dX12_settle_108 rfl ?_
            refine vv_goto (tgt := 115) C dX12_settle_110 (by decide) ?_
            refine vw_istore (lv9 := [_, _, _, _, _, _, _, _]) C dX12_settle_115 (by decide) rfl rfl ?_
            refine vw_iinc (lv9 := [_, _, _, _, _, _, _, _]) C dX12_settle_117 rfl ic_1 (by decide) rfl rfl ?_
            refine vv_goto (tgt := 58) C dX12_settle_120 (by decide) ?_
            rw [nI_1]
            exact ih (p + 1) _ _ (by omega) (by omega) (by omega) hm hx
  refine vv_iload_n C dX12_settle_0 rfl ?_
  refine vv_i2l C dX12_settle_1 ?_
  refine vv_lconst C dX12_settle_2 lc_0 ?_
  refine vs_eql (v9 := (0 : Int32).toInt64) (by decide +kernel) ?_
  refine vv_lconst C dX12_settle_3 lc_1 ?_
  refine vs_eql (v9 := (1 : Int32).toInt64) (by decide +kernel) ?_
  refine vs_calsiF C dX12_settle_4 (c_X12_within g S _ _ _) mb_X12_within ms_X12_within lk_X12_123 rfl rfl ⟨Nat.le_of_ble_eq_true rfl, Nat.le_of_ble_eq_true rfl, Nat.le_of_ble_eq_true rfl⟩ ?_
  refine vv_if_ne (tgt := 12) C dX12_settle_7 (by decide) (fun q7 => ?_) (fun q7 => ?_)
  · have w1 : vs_w what 0 1 = true := vs_b1.mp q7
    have loop2 : ∀ (f t m : Nat) (e : Nat → Int) (S2 : vs_S) (w5 w6 w7 : Option Value), sa_n e 8 ≤ f → sa_ok e → sa_J law S S2 → (∀ p, p < 8 → S2.2.1 81 p = xz (e p)) → t + (sa_r (np_lm law) f e).1 = (sa_r (np_lm law) 8 (sa_E L)).1 → m + (sa_r (np_lm law) f e).2 = (sa_r (np_lm law) 8 (sa_E L)).2 → vv_V g x 8 0 0 44 [some (vv_r g 65), some (.int what), some (.int (nI t)), some (.int (nI m)), some (.int 1), w5, w6, w7] [] (vs_cells g S2) := by
      intro f
      induction f with
      | zero =>
        intro t m e S2 w5 w6 w7 hn hB hJ hN g1 g2
        have hi8 := (sa_iI e).1
        have hb : ∀ p, p < 8 → -2147483648 ≤ e p ∧ e p < 2147483648 := fun p hp => by
          have := hB.2 p hp
          omega
        refine vv_iload C dX12_settle_44 rfl ?_
        refine vv_if_eq (tgt := 231) C dX12_settle_46 (by decide) (fun q46 => ?_) (fun q46 => ?_)
        · exact absurd q46 (by decide)
        · refine vv_iconst C dX12_settle_49 ic_0 ?_
          refine vw_istore (lv9 := [_, _, _, _, _, _, _, _]) C dX12_settle_50 (by decide) rfl rfl ?_
          refine vv_iconst C dX12_settle_52 ic_0 ?_
          refine vw_istore (lv9 := [_, _, _, _, _, _, _, _]) C dX12_settle_53 (by decide) rfl rfl ?_
          refine vv_iconst C dX12_settle_55 ic_1 ?_
          refine vw_istore (lv9 := [_, _, _, _, _, _, _, _]) C dX12_settle_56 (by decide) rfl rfl ?_
          refine inner t m e S2 hB hN ?_ 7 1 0 0 rfl (by omega) (by omega) rfl rfl
          refine vv_aload_n C dX12_settle_123 rfl ?_
          refine gf_X12_net C dX12_settle_124 fg_X12_59 ?_
          refine vv_iload C dX12_settle_127 rfl ?_
          refine ld_81 C dX12_settle_129 (xn_in (by omega) (by omega)) ?_
          refine vs_eqi (v9 := xz (e (sa_i e))) (by rw [xn_cl (by omega)]; exact hN _ (by omega)) ?_
          refine vv_if_ge (tgt := 137) C dX12_settle_130 (by decide) (fun q130 => ?_) (fun q130 => ?_)
          · have hz : ¬ e (sa_i e) < 0 := fun z => by
              have := (xz_le (a := 0) (b := e (sa_i e)) (by omega) (hb _ hi8)).mp q130
              omega
            rw [sa_r0 hz] at g1 g2
            refine vv_iconst C dX12_settle_137 ic_0 ?_
            refine vw_istore (lv9 := [_, _, _, _, _, _, _, _]) C dX12_settle_138 (by decide) rfl rfl ?_
            refine vv_iload C dX12_settle_140 rfl ?_
            refine vv_if_eq (tgt := 228) C dX12_settle_142 (by decide) (fun q142 => ?_) (fun q142 => ?_)
            · refine vv_goto (tgt := 44) C dX12_settle_228 (by decide) ?_
              refine vv_iload C dX12_settle_44 rfl ?_
              refine vv_if_eq (tgt := 231) C dX12_settle_46 (by decide) (fun q46 => ?_) (fun q46 => ?_)
              · refine vv_iload_n C dX12_settle_231 rfl ?_
                refine vv_if_ne (tgt := 239) C dX12_settle_232 (by decide) (fun q232 => ?_) (fun q232 => ?_)
                · refine vv_iload_n C dX12_settle_239 rfl ?_
                  by_cases z : what = 0
                  · first
                    | exact absurd z q232
                    | exact vs_iret C F dX12_settle_240 rfl ⟨by rw [w1, if_pos rfl, if_pos z, ← g1]; rfl, hJ⟩
                  · first
                    | exact absurd q232 z
                    | exact vs_iret C F dX12_settle_240 rfl ⟨by rw [w1, if_pos rfl, if_neg z, ← g2]; rfl, hJ⟩
                · refine vv_iload_n C dX12_settle_235 rfl ?_
                  refine vv_goto (tgt := 240) C dX12_settle_236 (by decide) ?_
                  by_cases z : what = 0
                  · first
                    | exact absurd z q232
                    | exact vs_iret C F dX12_settle_240 rfl ⟨by rw [w1, if_pos rfl, if_pos z, ← g1]; rfl, hJ⟩
                  · first
                    | exact absurd q232 z
                    | exact vs_iret C F dX12_settle_240 rfl ⟨by rw [w1, if_pos rfl, if_neg z, ← g2]; rfl, hJ⟩
              · exact absurd rfl q46
            · exact absurd rfl q142
          · exact absurd (by rw [sa_n0 8 (Nat.le_zero.mp hn) _ hi8]; exact Int32.le_refl _) q130
      | succ f ih =>
        intro t m e S2 w5 w6 w7 hn hB hJ hN g1 g2
        have hi8 := (sa_iI e).1
        have hj8 := (sa_jI e).1
        have hb : ∀ p, p < 8 → -2147483648 ≤ e p ∧ e p < 2147483648 := fun p hp => by
          have := hB.2 p hp
          omega
        refine vv_iload C dX12_settle_44 rfl ?_
        refine vv_if_eq (tgt := 231) C dX12_settle_46 (by decide) (fun q46 => ?_) (fun q46 => ?_)
        · exact absurd q46 (by decide)
        · refine vv_iconst C dX12_settle_49 ic_0 ?_
          refine vw_istore (lv9 := [_, _, _, _, _, _, _, _]) C dX12_settle_50 (by decide) rfl rfl ?_
          refine vv_iconst C dX12_settle_52 ic_0 ?_
          refine vw_istore (lv9 := [_, _, _, _, _, _, _, _]) C dX12_settle_53 (by decide) rfl rfl ?_
          refine vv_iconst C dX12_settle_55 ic_1 ?_
          refine vw_istore (lv9 := [_, _, _, _, _, _, _, _]) C dX12_settle_56 (by decide) rfl rfl ?_
          refine inner t m e S2 hB hN ?_ 7 1 0 0 rfl (by omega) (by omega) rfl rfl
          refine vv_aload_n C dX12_settle_123 rfl ?_
          refine gf_X12_net C dX12_settle_124 fg_X12_59 ?_
          refine vv_iload C dX12_settle_127 rfl ?_
          refine ld_81 C dX12_settle_129 (xn_in (by omega) (by omega)) ?_
          refine vs_eqi (v9 := xz (e (sa_i e))) (by rw [xn_cl (by omega)]; exact hN _ (by omega)) ?_
          refine vv_if_ge (tgt := 137) C dX12_settle_130 (by decide) (fun q130 => ?_) (fun q130 => ?_)
          · have hz : ¬ e (sa_i e) < 0 := fun z => by
              have := (xz_le (a := 0) (b := e (sa_i e)) (by omega) (hb _ hi8)).mp q130
              omega
            rw [sa_r0 hz] at g1 g2
            refine vv_iconst C dX12_settle_137 ic_0 ?_
            refine vw_istore (lv9 := [_, _, _, _, _, _, _, _]) C dX12_settle_138 (by decide) rfl rfl ?_
            refine vv_iload C dX12_settle_140 rfl ?_
            refine vv_if_eq (tgt := 228) C dX12_settle_142 (by decide) (fun q142 => ?_) (fun q142 => ?_)
            · refine vv_goto (tgt := 44) C dX12_settle_228 (by decide) ?_
              refine vv_iload C dX12_settle_44 rfl ?_
              refine vv_if_eq (tgt := 231) C dX12_settle_46 (by decide) (fun q46 => ?_) (fun q46 => ?_)
              · refine vv_iload_n C dX12_settle_231 rfl ?_
                refine vv_if_ne (tgt := 239) C dX12_settle_232 (by decide) (fun q232 => ?_) (fun q232 => ?_)
                · refine vv_iload_n C dX12_settle_239 rfl ?_
                  by_cases z : what = 0
                  · first
                    | exact absurd z q232
                    | exact vs_iret C F dX12_settle_240 rfl ⟨by rw [w1, if_pos rfl, if_pos z, ← g1]; rfl, hJ⟩
                  · first
                    | exact absurd q232 z
                    | exact vs_iret C F dX12_settle_240 rfl ⟨by rw [w1, if_pos rfl, if_neg z, ← g2]; rfl, hJ⟩
                · refine vv_iload_n C dX12_settle_235 rfl ?_
                  refine vv_goto (tgt := 240) C dX12_settle_236 (by decide) ?_
                  by_cases z : what = 0
                  · first
                    | exact absurd z q232
                    | exact vs_iret C F dX12_settle_240 rfl ⟨by rw [w1, if_pos rfl, if_pos z, ← g1]; rfl, hJ⟩
                  · first
                    | exact absurd q232 z
                    | exact vs_iret C F dX12_settle_240 rfl ⟨by rw [w1, if_pos rfl, if_neg z, ← g2]; rfl, hJ⟩
              · exact absurd rfl q46
            · exact absurd rfl q142
          · have hz : e (sa_i e) < 0 := Int.not_le.mp (fun y => q130 ((xz_le (a := 0) (b := e (sa_i e)) (by omega) (hb _ hi8)).mpr y))
            have h9 := sa_vp hB hz
            have hnd := sa_nde hB hz
            rw [sa_r1, if_pos hz] at g1 g2
            dsimp only at g1 g2
            refine vv_iconst C dX12_settle_133 ic_1 ?_
            refine vv_goto (tgt := 138) C dX12_settle_134 (by decide) ?_
            refine vw_istore (lv9 := [_, _, _, _, _, _, _, _]) C dX12_settle_138 (by decide) rfl rfl ?_
            refine vv_iload C dX12_settle_140 rfl ?_
            refine vv_if_eq (tgt := 228) C dX12_settle_142 (by decide) (fun q142 => ?_) (fun q142 => ?_)
            · exact absurd q142 (by decide)
            · refine vv_aload_n C dX12_settle_145 rfl ?_
              refine gf_X12_net C dX12_settle_146 fg_X12_59 ?_
              refine vv_iload C dX12_settle_149 rfl ?_
              refine ld_81 C dX12_settle_151 (xn_in (by omega) (by omega)) ?_
              refine vs_eqi (v9 := xz (e (sa_i e))) (by rw [xn_cl (by omega)]; exact hN _ (by omega)) ?_
              refine vv_ineg C dX12_settle_152 ?_
              refine vs_eqi (v9 := xz (-e (sa_i e))) (xz_neg _) ?_
              refine vv_aload_n C dX12_settle_153 rfl ?_
              refine gf_X12_net C dX12_settle_154 fg_X12_59 ?_
              refine vv_iload C dX12_settle_157 rfl ?_
              refine ld_81 C dX12_settle_159 (xn_in (by omega) (by omega)) ?_
              refine vs_eqi (v9 := xz (e (sa_j e))) (by rw [xn_cl (by omega)]; exact hN _ (by omega)) ?_
              refine vv_icmp_ge (tgt := 174) C dX12_settle_160 (by decide) (fun q160 => ?_) (fun q160 => ?_)
              · refine vv_aload_n C dX12_settle_174 rfl ?_
                refine gf_X12_net C dX12_settle_175 fg_X12_59 ?_
                refine vv_iload C dX12_settle_178 rfl ?_
                refine ld_81 C dX12_settle_180 (xn_in (by omega) (by omega)) ?_
                refine vs_eqi (v9 := xz (sa_v e)) (by first | exact sa_v2 hB q160 | (rw [xn_cl (by omega), hN _ (by omega)]; exact sa_v1 hB q160)) ?_
                refine vw_istore (lv9 := [_, _, _, _, _, _, _, _]) C dX12_settle_181 (by decide) rfl rfl ?_
                refine vv_aload_n C dX12_settle_183 rfl ?_
                refine gf_X12_net C dX12_settle_184 fg_X12_59 ?_
                refine vv_iload C dX12_settle_187 rfl ?_
                refine vv_dup2 C dX12_settle_189 rfl rfl ?_
                refine ld_81 C dX12_settle_190 (xn_in (by omega) (by omega)) ?_
                refine vs_eqi (v9 := xz (e (sa_i e))) (by rw [xn_cl (by omega)]; exact hN _ (by omega)) ?_
                refine vv_iload C dX12_settle_191 rfl ?_
                refine vv_iadd C dX12_settle_193 ?_
                refine vs_eqi (v9 := xz (e (sa_i e) + sa_v e)) (xz_add _ _) ?_
                refine st_81 C dX12_settle_194 (xn_in (by omega) (by omega)) ?_
                refine vs_eqS (S9 := vs_ua S2 81 (upd (S2.2.1 81) (sa_i e) (xz (e (sa_i e) + sa_v e)))) (by rw [xn_cl (by omega)]) ?_
                refine vv_aload_n C dX12_settle_195 rfl ?_
                refine gf_X12_net C dX12_settle_196 fg_X12_59 ?_
                refine vv_iload C dX12_settle_199 rfl ?_
                refine vv_dup2 C dX12_settle_201 rfl rfl ?_
                refine ld_81 C dX12_settle_202 (xn_in (by omega) (by omega)) ?_
                refine vs_eqi (v9 := xz (sa_up e (sa_i e) (e (sa_i e) + sa_v e) (sa_j e))) (by rw [xn_cl (by omega)]; exact sa_upI hN _ _ _ (by omega)) ?_
                refine vv_iload C dX12_settle_203 rfl ?_
                refine vv_isub C dX12_settle_205 ?_
                refine vs_eqi (v9 := xz (sa_up e (sa_i e) (e (sa_i e) + sa_v e) (sa_j e) - sa_v e)) (xz_sub _ _) ?_
                refine st_81 C dX12_settle_206 (xn_in (by omega) (by omega)) ?_
                refine vs_eqS (S9 := vs_ua S2 81 (upd (upd (S2.2.1 81) (sa_i e) (xz (e (sa_i e) + sa_v e))) (sa_j e) (xz (sa_up e (sa_i e) (e (sa_i e) + sa_v e) (sa_j e) - sa_v e)))) (by rw [xn_cl (by omega), vs_uaa]; rfl) ?_
                refine vw_iinc (lv9 := [_, _, _, _, _, _, _, _]) C dX12_settle_207 rfl ic_1 (by decide) rfl rfl ?_
                refine vv_iload_n C dX12_settle_210 rfl ?_
                refine vv_aload_n C dX12_settle_211 rfl ?_
                refine vv_iload C dX12_settle_212 rfl ?_
                refine vv_i2l C dX12_settle_214 ?_
                refine vs_eql (v9 := lN (sa_v e).toNat) (sa_r64 (by omega) (by omega)) ?_
                refine vs_calli C dX12_settle_215 (c_X12_isLawful g (vs_ua S2 81 (upd (upd (S2.2.1 81) (sa_i e) (xz (e (sa_i e) + sa_v e))) (sa_j e) (xz (sa_up e (sa_i e) (e (sa_i e) + sa_v e) (sa_j e) - sa_v e)))) hfl (hJ.ua _).2.1 law hl (hJ.ua _).2.2 (sa_v e).toNat (by omega)) mb_X12_isLawful mv_X12_isLawful lk_X12_135 ce_65 rfl rfl rfl rfl ⟨Nat.le_of_ble_eq_true rfl, Nat.le_of_ble_eq_true rfl, Nat.le_of_ble_eq_true rfl⟩ (fun r215 S215 p215 => ?_)
                obtain ⟨e215, u215⟩ := p215
                subst e215
                refine vv_if_eq (tgt := 225) C dX12_settle_218 (by decide) (fun q218 => ?_) (fun q218 => ?_)
                · rw [vs_b0.mp q218, if_neg (by decide)] at g2
                  refine vv_iconst C dX12_settle_225 ic_0 ?_
                  refine vv_iadd C dX12_settle_226 ?_
                  refine vw_istore_n (lv9 := [_, _, _, _, _, _, _, _]) C dX12_settle_227 (by decide) rfl rfl ?_
                  refine vv_goto (tgt := 44) C dX12_settle_228 (by decide) ?_
                  first
                  | (rw [nI_1, nI_1]; exact ih (t + 1) (m + 1) _ S215 _ _ _ (by omega) (sa_eok hB hz) ((hJ.ua _).go u215) (fun p hp => by rw [u215.1.2.1 81 (by decide)]; exact sa_eI hN hB hz p hp) (by omega) (by omega))
                  | (rw [nI_1, show nI m + 0 = nI m from nI_add m 0]; exact ih (t + 1) m _ S215 _ _ _ (by omega) (sa_eok hB hz) ((hJ.ua _).go u215) (fun p hp => by rw [u215.1.2.1 81 (by decide)]; exact sa_eI hN hB hz p hp) (by omega) (by omega))
                · rw [vs_b1.mp q218, if_pos rfl] at g2
                  refine vv_iconst C dX12_settle_221 ic_1 ?_
                  refine vv_goto (tgt := 226) C dX12_settle_222 (by decide) ?_
                  refine vv_iadd C dX12_settle_226 ?_
                  refine vw_istore_n (lv9 := [_, _, _, _, _, _, _, _]) C dX12_settle_227 (by decide) rfl rfl ?_
                  refine vv_goto (tgt := 44) C dX12_settle_228 (by decide) ?_
                  first
                  | (rw [nI_1, nI_1]; exact ih (t + 1) (m + 1) _ S215 _ _ _ (by omega) (sa_eok hB hz) ((hJ.ua _).go u215) (fun p hp => by rw [u215.1.2.1 81 (by decide)]; exact sa_eI hN hB hz p hp) (by omega) (by omega))
                  | (rw [nI_1, show nI m + 0 = nI m from nI_add m 0]; exact ih (t + 1) m _ S215 _ _ _ (by omega) (sa_eok hB hz) ((hJ.ua _).go u215) (fun p hp => by rw [u215.1.2.1 81 (by decide)]; exact sa_eI hN hB hz p hp) (by omega) (by omega))
              · refine vv_aload_n C dX12_settle_163 rfl ?_
                refine gf_X12_net C dX12_settle_164 fg_X12_59 ?_
                refine vv_iload C dX12_settle_167 rfl ?_
                refine ld_81 C dX12_settle_169 (xn_in (by omega) (by omega)) ?_
                refine vs_eqi (v9 := xz (e (sa_i e))) (by rw [xn_cl (by omega)]; exact hN _ (by omega)) ?_
                refine vv_ineg C dX12_settle_170 ?_
                refine vs_eqi (v9 := xz (-e (sa_i e))) (xz_neg _) ?_
                refine vv_goto (tgt := 181) C dX12_settle_171 (by decide) ?_
                refine vs_eqi (v9 := xz (sa_v e)) (by first | exact sa_v2 hB q160 | (rw [xn_cl (by omega), hN _ (by omega)]; exact sa_v1 hB q160)) ?_
                refine vw_istore (lv9 := [_, _, _, _, _, _, _, _]) C dX12_settle_181 (by decide) rfl rfl ?_
                refine vv_aload_n C dX12_settle_183 rfl ?_
                refine gf_X12_net C dX12_settle_184 fg_X12_59 ?_
                refine vv_iload C dX12_settle_187 rfl ?_
                refine vv_dup2 C dX12_settle_189 rfl rfl ?_
                refine ld_81 C dX12_settle_190 (xn_in (by omega) (by omega)) ?_
                refine vs_eqi (v9 := xz (e (sa_i e))) (by rw [xn_cl (by omega)]; exact hN _ (by omega)) ?_
                refine vv_iload C dX12_settle_191 rfl ?_
                refine vv_iadd C dX12_settle_193 ?_
                refine vs_eqi (v9 := xz (e (sa_i e) + sa_v e)) (xz_add _ _) ?_
                refine st_81 C dX12_settle_194 (xn_in (by omega) (by omega)) ?_
                refine vs_eqS (S9 := vs_ua S2 81 (upd (S2.2.1 81) (sa_i e) (xz (e (sa_i e) + sa_v e)))) (by rw [xn_cl (by omega)]) ?_
                refine vv_aload_n C dX12_settle_195 rfl ?_
                refine gf_X12_net C dX12_settle_196 fg_X12_59 ?_
                refine vv_iload C dX12_settle_199 rfl ?_
                refine vv_dup2 C dX12_settle_201 rfl rfl ?_
                refine ld_81 C dX12_settle_202 (xn_in (by omega) (by omega)) ?_
                refine vs_eqi (v9 := xz (sa_up e (sa_i e) (e (sa_i e) + sa_v e) (sa_j e))) (by rw [xn_cl (by omega)]; exact sa_upI hN _ _ _ (by omega)) ?_
                refine vv_iload C dX12_settle_203 rfl ?_
                refine vv_isub C dX12_settle_205 ?_
                refine vs_eqi (v9 := xz (sa_up e (sa_i e) (e (sa_i e) + sa_v e) (sa_j e) - sa_v e)) (xz_sub _ _) ?_
                refine st_81 C dX12_settle_206 (xn_in (by omega) (by omega)) ?_
                refine vs_eqS (S9 := vs_ua S2 81 (upd (upd (S2.2.1 81) (sa_i e) (xz (e (sa_i e) + sa_v e))) (sa_j e) (xz (sa_up e (sa_i e) (e (sa_i e) + sa_v e) (sa_j e) - sa_v e)))) (by rw [xn_cl (by omega), vs_uaa]; rfl) ?_
                refine vw_iinc (lv9 := [_, _, _, _, _, _, _, _]) C dX12_settle_207 rfl ic_1 (by decide) rfl rfl ?_
                refine vv_iload_n C dX12_settle_210 rfl ?_
                refine vv_aload_n C dX12_settle_211 rfl ?_
                refine vv_iload C dX12_settle_212 rfl ?_
                refine vv_i2l C dX12_settle_214 ?_
                refine vs_eql (v9 := lN (sa_v e).toNat) (sa_r64 (by omega) (by omega)) ?_
                refine vs_calli C dX12_settle_215 (c_X12_isLawful g (vs_ua S2 81 (upd (upd (S2.2.1 81) (sa_i e) (xz (e (sa_i e) + sa_v e))) (sa_j e) (xz (sa_up e (sa_i e) (e (sa_i e) + sa_v e) (sa_j e) - sa_v e)))) hfl (hJ.ua _).2.1 law hl (hJ.ua _).2.2 (sa_v e).toNat (by omega)) mb_X12_isLawful mv_X12_isLawful lk_X12_135 ce_65 rfl rfl rfl rfl ⟨Nat.le_of_ble_eq_true rfl, Nat.le_of_ble_eq_true rfl, Nat.le_of_ble_eq_true rfl⟩ (fun r215 S215 p215 => ?_)
                obtain ⟨e215, u215⟩ := p215
                subst e215
                refine vv_if_eq (tgt := 225) C dX12_settle_218 (by decide) (fun q218 => ?_) (fun q218 => ?_)
                · rw [vs_b0.mp q218, if_neg (by decide)] at g2
                  refine vv_iconst C dX12_settle_225 ic_0 ?_
                  refine vv_iadd C dX12_settle_226 ?_
                  refine vw_istore_n (lv9 := [_, _, _, _, _, _, _, _]) C dX12_settle_227 (by decide) rfl rfl ?_
                  refine vv_goto (tgt := 44) C dX12_settle_228 (by decide) ?_
                  first
                  | (rw [nI_1, nI_1]; exact ih (t + 1) (m + 1) _ S215 _ _ _ (by omega) (sa_eok hB hz) ((hJ.ua _).go u215) (fun p hp => by rw [u215.1.2.1 81 (by decide)]; exact sa_eI hN hB hz p hp) (by omega) (by omega))
                  | (rw [nI_1, show nI m + 0 = nI m from nI_add m 0]; exact ih (t + 1) m _ S215 _ _ _ (by omega) (sa_eok hB hz) ((hJ.ua _).go u215) (fun p hp => by rw [u215.1.2.1 81 (by decide)]; exact sa_eI hN hB hz p hp) (by omega) (by omega))
                · rw [vs_b1.mp q218, if_pos rfl] at g2
                  refine vv_iconst C dX12_settle_221 ic_1 ?_
                  refine vv_goto (tgt := 226) C dX12_settle_222 (by decide) ?_
                  refine vv_iadd C dX12_settle_226 ?_
                  refine vw_istore_n (lv9 := [_, _, _, _, _, _, _, _]) C dX12_settle_227 (by decide) rfl rfl ?_
                  refine vv_goto (tgt := 44) C dX12_settle_228 (by decide) ?_
                  first
                  | (rw [nI_1, nI_1]; exact ih (t + 1) (m + 1) _ S215 _ _ _ (by omega) (sa_eok hB hz) ((hJ.ua _).go u215) (fun p hp => by rw [u215.1.2.1 81 (by decide)]; exact sa_eI hN hB hz p hp) (by omega) (by omega))
                  | (rw [nI_1, show nI m + 0 = nI m from nI_add m 0]; exact ih (t + 1) m _ S215 _ _ _ (by omega) (sa_eok hB hz) ((hJ.ua _).go u215) (fun p hp => by rw [u215.1.2.1 81 (by decide)]; exact sa_eI hN hB hz p hp) (by omega) (by omega))
    have loop1 : ∀ (f p : Nat) (S2 : vs_S) (w3 w4 w5 w6 w7 : Option Value), p + f = 8 → sa_J law S S2 → (∀ q, q < p → S2.2.1 81 q = xz (sa_E L q)) → vv_V g x 8 0 0 14 [some (vv_r g 65), some (.int what), some (.int (nI p)), w3, w4, w5, w6, w7] [] (vs_cells g S2) := by
      intro f
      induction f with
      | zero =>
        intro p S2 w3 w4 w5 w6 w7 h1 hJ hN
        have ho : p = 8 := by omega
        subst ho
        refine vv_iload_n C dX12_settle_14 rfl ?_
        refine vv_bipush C dX12_settle_15 bp_8 ?_
        refine vv_icmp_ge (tgt := 37) C dX12_settle_17 (by decide) (fun q17 => ?_) (fun q17 => ?_)
        · refine vv_iconst C dX12_settle_37 ic_0 ?_
          refine vw_istore_n (lv9 := [_, _, _, _, _, _, _, _]) C dX12_settle_38 (by decide) rfl rfl ?_
          refine vv_iconst C dX12_settle_39 ic_0 ?_
          refine vw_istore_n (lv9 := [_, _, _, _, _, _, _, _]) C dX12_settle_40 (by decide) rfl rfl ?_
          refine vv_iconst C dX12_settle_41 ic_1 ?_
          refine vw_istore (lv9 := [_, _, _, _, _, _, _, _]) C dX12_settle_42 (by decide) rfl rfl ?_
          exact loop2 8 0 0 (sa_E L) S2 _ _ _ (sa_nle 8) (sa_EI hi) hJ hN (Nat.zero_add _) (Nat.zero_add _)
        · exact absurd (by decide +kernel) q17
      | succ f ih =>
        intro p S2 w3 w4 w5 w6 w7 h1 hJ hN
        refine vv_iload_n C dX12_settle_14 rfl ?_
        refine vv_bipush C dX12_settle_15 bp_8 ?_
        refine vv_icmp_ge (tgt := 37) C dX12_settle_17 (by decide) (fun q17 => ?_) (fun q17 => ?_)
        · exact absurd q17 (by rw [xn_lit, xn_le (by omega) (by omega)]; omega)
        · refine vv_aload_n C dX12_settle_20 rfl ?_
          refine gf_X12_net C dX12_settle_21 fg_X12_59 ?_
          refine vv_iload_n C dX12_settle_24 rfl ?_
          refine vv_aload_n C dX12_settle_25 rfl ?_
          refine vv_iload_n C dX12_settle_26 rfl ?_
          refine vs_caliF C dX12_settle_27 (c_X12_netOf g S2 p (by omega)) mb_X12_netOf mv_X12_netOf lk_X12_291 ce_65 rfl rfl rfl rfl ⟨Nat.le_of_ble_eq_true rfl, Nat.le_of_ble_eq_true rfl, Nat.le_of_ble_eq_true rfl⟩ ?_
          refine vs_eqi (v9 := xz (sa_E L p)) (by rw [hJ.1.2.1 66 (by decide)]; exact hnet p (by omega)) ?_
          refine st_81 C dX12_settle_30 (xn_in (by omega) (by omega)) ?_
          refine vw_iinc (lv9 := [_, _, _, _, _, _, _, _]) C dX12_settle_31 rfl ic_1 (by decide) rfl rfl ?_
          refine vv_goto (tgt := 14) C dX12_settle_34 (by decide) ?_
          rw [nI_1]
          refine ih (p + 1) _ _ _ _ _ _ (by omega) (hJ.ua _) (fun q hq => ?_)
          show upd (S2.2.1 81) (nI p).toNatClampNeg _ q = _
          rw [xn_cl (by omega), xn_upd (α := Nat)]
          split
          · next z => rw [z]
          · next z => exact hN q (by omega)
    refine vv_iconst C dX12_settle_12 ic_0 ?_
    refine vw_istore_n (lv9 := [_, _, _, _, _, _, _, _]) C dX12_settle_13 (by decide) rfl rfl ?_
    exact loop1 8 0 S none none none none none rfl ⟨vs_fr.rf, hS, hs⟩ (fun q hq => by omega)
  · have w1 : vs_w what 0 1 = false := vs_b0.mp q7
    refine vv_iconst C dX12_settle_10 ic_m1 ?_
    exact vs_iret C F dX12_settle_11 rfl ⟨by rw [w1]; rfl, vs_fr.rf, hS, hs⟩
