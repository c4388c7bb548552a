theorem xl_of {v : Int64} (h : 0 ≤ v) : ∃ k, k < 2 ^ 63 ∧ v = lN k := by
  have h1 := Int64.le_iff_toInt_le.mp h
  have e0 : (0 : Int64).toInt = 0 := rfl
  have h2 := Int64.toInt_lt v
  refine ⟨v.toInt.toNat, by omega, ?_⟩
  apply Int64.toInt_inj.mp
  rw [xn_lN (by omega)]
  omega
/-- lawful, if it is a sum at all -/
def lwz (P : Nat → Bool) (v : Int64) : Bool := decide (0 ≤ v) && P v.toInt.toNat
def okP (P : Nat → Bool) (v : Int64) : Bool := decide (v ≤ 1000000000000) && lwz P v
def lkv (P : Nat → Bool) (E : Nat → Int64) (N : Nat) : Nat → Nat → Int32
  | 0, p => nI p
  | f + 1, p => if p < N then (if okP P (E p) = true then lkv P E N f (p + 1) else nI p) else -13
theorem lkvS (f : Nat) {P : Nat → Bool} {E : Nat → Int64} {N p : Nat} : lkv P E N (f + 1) p = if p < N then (if okP P (E p) = true then lkv P E N f (p + 1) else nI p) else -13 := rfl
def lkX (P : Nat → Bool) (h : hT) (d : Nat) (i : Int32) (n : Nat) : Int32 := if h.1 d = 0 then -11 else if ¬ h.1 d = 5 then -12 else if i < 0 then -13 else lkv P (h.2.2.2 d) (h.2.2.1 d) n i.toNatClampNeg
def cpv (h : hT) (d : Nat) (i : Int32) (e : Nat) (j n : Int32) : Int32 × hT := if h.1 d = 0 ∨ h.1 e = 0 then (-11, h) else if h.1 d = 1 ∨ ¬ h.1 d = h.1 e then (-12, h) else if (st_ok (h.2.2.1 d) i n && st_ok (h.2.2.1 e) j n) = true then (n, h_cpy h d i.toNatClampNeg e j.toNatClampNeg n.toNatClampNeg) else (-13, h)
def k_keep (m : Nat) (h : hT) (d b : Int32) : Int32 × hT := if (shw d && vs_w b (-1) (nI m - 1)) = true then (1, h_keep h d.toNatClampNeg (if b < 0 then 0 else 1) b.toNatClampNeg) else (-1, h)
def k_row (h : hT) (d s n : Int32) : Int32 × hT := if ((shw d && vs_w s 0 4) && decide (n ≤ 60)) = true then (if n < 0 then (-14, h) else (1, h_row h d.toNatClampNeg s.toNatClampNeg n.toNatClampNeg)) else (-1, h)
def k_put (h : hT) (d i : Int32) (v : Int64) : Int32 × hT := if shw d = true then (if rf h d.toNatClampNeg i = 0 then (1, h_put h d.toNatClampNeg i.toNatClampNeg (lo (h.1 d.toNatClampNeg - 2) v)) else (rf h d.toNatClampNeg i, h)) else (-1, h)
def k_el (h : hT) (d i : Int32) : Int64 := if shw d = true then (if rf h d.toNatClampNeg i = 0 then h.2.2.2 d.toNatClampNeg i.toNatClampNeg else -9223372036854775808) else -9223372036854775808
def k_sh (h : hT) (d i e j n : Int32) : Int32 × hT := if (shw d && shw e) = true then cpv h d.toNatClampNeg i e.toNatClampNeg j n else (-1, h)
def k_tk (K : Nat → Nat) (h : hT) (d k : Int32) : Int32 := if (shw d && vs_w k 0 7) = true then (if h.1 d.toNatClampNeg = 0 then -11 else if h.1 d.toNatClampNeg = 1 ∧ un k.toNatClampNeg 8 (K (h.2.1 d.toNatClampNeg)) = true then nI (K (h.2.1 d.toNatClampNeg)) else -12) else -1
def k_lk (P : Nat → Bool) (h : hT) (d i n : Int32) : Int32 := if (shw d && vs_w n 1 60) = true then lkX P h d.toNatClampNeg i n.toNatClampNeg else -1

set_option maxRecDepth 20000 in
theorem c_X1_isLawfulN (g : vv_G) (S : vs_S) (hS : nx_ok S) (law : Nat) (hl : law ≤ 3) (hs : S.1 0 = nI law) (v : Int64) (hv : v < 0) : vs_FI g yX1_isLawful cX1_isLawful 3 (some .boolean) 4 [vv_r g 4, .long v] S (vs_b false) S := by
  refine vs_ofI (lv := [_, _, _]) mb_X1_isLawful (Nat.le_of_ble_eq_true rfl) rfl (fun x C F => ?_)
  refine vv_lload_n C dX1_isLawful_0 rfl ?_
  refine vv_ldc2 C dX1_isLawful_1 kc_X1_19 ?_
  refine vv_lcmp C dX1_isLawful_4 ?_
  refine vv_if_ge (tgt := 10) C dX1_isLawful_5 (by decide) (fun q5 => ?_) (fun q5 => ?_)
  · exact absurd (Int64.lt_of_lt_of_le hv (by decide)) (Int64.not_lt.mpr ((lg_cmp_ge _ _).mp q5))
  · refine vv_iconst C dX1_isLawful_8 ic_0 ?_
    exact vs_zret C F dX1_isLawful_9 rfl rfl ⟨rfl, rfl⟩
theorem c_X1_isLawfulZ (g : vv_G) (S : vs_S) (hS : nx_ok S) (law : Nat) (hl : law ≤ 3) (hs : S.1 0 = nI law) (v : Int64) (hv : v ≤ 1000000000000) : vs_FI g yX1_isLawful cX1_isLawful 3 (some .boolean) 4 [vv_r g 4, .long v] S (vs_b (lwz (np_lx law) v)) S := by
  by_cases h : 0 ≤ v
  · obtain ⟨k, hk, e⟩ := xl_of h
    subst e
    have hk2 : k ≤ 1000000000000 := by rw [xn_lit64, xn_lle (by omega) (by omega)] at hv; exact hv
    have e2 : lwz (np_lx law) (lN k) = np_lx law k := by
      unfold lwz
      rw [decide_eq_true h, Bool.true_and, xn_lN hk]
      rfl
    rw [e2]
    exact c_X1_isLawful g S hS law hl hs k hk2
  · have e2 : lwz (np_lx law) v = false := by
      unfold lwz
      rw [decide_eq_false h]
      rfl
    rw [e2]
    exact c_X1_isLawfulN g S hS law hl hs v (Int64.not_le.mp h)
set_option maxRecDepth 20000 in
theorem c_X8_copy (g : vv_G) (S : vs_S) (m : Nat) (h : hT) (hX : sX S m h) (d : Nat) (hd : d < 6) (e : Nat) (he6 : e < 6) (hfl : vv_fl g = false) (i j n : Int32) : vs_KI g yX8_copy cX8_copy 6 (some .int) 2 [vv_r g 54, .int (nI d), .int i, .int (nI e), .int j, .int n] S (fun r S1 => r = (cpv h d i e j n).1 ∧ sX S1 m (cpv h d i e j n).2 ∧ vs_fr [] [] [59, 60, 61, 62, 63, 64] S S1) := by
  obtain ⟨ht6, h55, h56, h57⟩ := hX d hd
  obtain ⟨gt6, g55, g56, g57⟩ := hX e he6
  refine vs_ofI (lv := [_, _, _, _, _, _]) mb_X8_copy (Nat.le_of_ble_eq_true rfl) rfl (fun x C F => ?_)
  refine vv_aload_n C dX8_copy_0 rfl ?_
  refine gf_X8_holds C dX8_copy_1 fg_X8_11 ?_
  refine vv_iload_n C dX8_copy_4 rfl ?_
  refine ld_55 C dX8_copy_5 (xn_in (by omega) (by omega)) ?_
  refine vs_eqi (v9 := hc (h.1 d)) (by rw [xn_cl (by omega)]; exact h55) ?_
  refine vv_iconst C dX8_copy_6 ic_m1 ?_
  refine vv_icmp_eq (tgt := 20) C dX8_copy_7 (by decide) (fun q7 => ?_) (fun q7 => ?_)
  · have e0 := (hc_0 ht6).mp q7
    have hv : cpv h d i e j n = (-11, h) := if_pos (Or.inl e0)
    refine vv_bipush C dX8_copy_20 bp_m11 ?_
    exact vs_iret C F dX8_copy_22 rfl ⟨by rw [hv], by rw [hv]; exact hX, vs_fr.rf⟩
  · have e0 : ¬ h.1 d = 0 := fun z => q7 ((hc_0 ht6).mpr z)
    refine vv_aload_n C dX8_copy_10 rfl ?_
    refine gf_X8_holds C dX8_copy_11 fg_X8_11 ?_
    refine vv_iload_n C dX8_copy_14 rfl ?_
    refine ld_55 C dX8_copy_15 (xn_in (by omega) (by omega)) ?_
    refine vs_eqi (v9 := hc (h.1 e)) (by rw [xn_cl (by omega)]; exact g55) ?_
    refine vv_iconst C dX8_copy_16 ic_m1 ?_
    refine vv_icmp_ne (tgt := 23) C dX8_copy_17 (by decide) (fun q17 => ?_) (fun q17 => ?_)
    · have e1 : ¬ h.1 e = 0 := fun z => q17 ((hc_0 gt6).mpr z)
      refine vv_aload_n C dX8_copy_23 rfl ?_
      refine vv_iload_n C dX8_copy_24 rfl ?_
      refine vs_caliF C dX8_copy_25 (c_X8_isRow g S m h hX d hd) mb_X8_isRow mv_X8_isRow lk_X8_44 ce_54 rfl rfl rfl rfl ⟨Nat.le_of_ble_eq_true rfl, Nat.le_of_ble_eq_true rfl, Nat.le_of_ble_eq_true rfl⟩ ?_
      refine vv_if_eq (tgt := 46) C dX8_copy_28 (by decide) (fun q28 => ?_) (fun q28 => ?_)
      · have e2 : h.1 d = 1 := by have := of_decide_eq_false (vs_b0.mp q28); omega
        have hv : cpv h d i e j n = (-12, h) := by unfold cpv; rw [if_neg (by omega), if_pos (by omega)]
        refine vv_bipush C dX8_copy_46 bp_m12 ?_
        exact vs_iret C F dX8_copy_48 rfl ⟨by rw [hv], by rw [hv]; exact hX, vs_fr.rf⟩
      · have h2 : 2 ≤ h.1 d := of_decide_eq_true (vs_b1.mp q28)
        refine vv_aload_n C dX8_copy_31 rfl ?_
        refine gf_X8_holds C dX8_copy_32 fg_X8_11 ?_
        refine vv_iload_n C dX8_copy_35 rfl ?_
        refine ld_55 C dX8_copy_36 (xn_in (by omega) (by omega)) ?_
        refine vs_eqi (v9 := hc (h.1 d)) (by rw [xn_cl (by omega)]; exact h55) ?_
        refine vv_aload_n C dX8_copy_37 rfl ?_
        refine gf_X8_holds C dX8_copy_38 fg_X8_11 ?_
        refine vv_iload_n C dX8_copy_41 rfl ?_
        refine ld_55 C dX8_copy_42 (xn_in (by omega) (by omega)) ?_
        refine vs_eqi (v9 := hc (h.1 e)) (by rw [xn_cl (by omega)]; exact g55) ?_
        refine vv_icmp_eq (tgt := 49) C dX8_copy_43 (by decide) (fun q43 => ?_) (fun q43 => ?_)
        · have e3 : h.1 d = h.1 e := (hc_i ht6 gt6).mp q43
          have h2e : 2 ≤ h.1 e := by omega
          have hNd := (h57 h2).2.1
          have hNe := (g57 h2e).2.1
          refine vv_aload_n C dX8_copy_49 rfl ?_
          refine vv_iload_n C dX8_copy_50 rfl ?_
          refine vv_iload_n C dX8_copy_51 rfl ?_
          refine vv_iload C dX8_copy_52 rfl ?_
          refine vs_caliF C dX8_copy_54 (c_X8_hasStretch g S m h hX d hd h2 i n) mb_X8_hasStretch mv_X8_hasStretch lk_X8_60 ce_54 rfl rfl rfl rfl ⟨Nat.le_of_ble_eq_true rfl, Nat.le_of_ble_eq_true rfl, Nat.le_of_ble_eq_true rfl⟩ ?_
          refine vv_if_eq (tgt := 72) C dX8_copy_57 (by decide) (fun q57 => ?_) (fun q57 => ?_)
          · have hv : cpv h d i e j n = (-13, h) := by unfold cpv; rw [if_neg (by omega), if_neg (by omega), show st_ok (h.2.2.1 d) i n = false from vs_b0.mp q57]; rfl
            refine vv_bipush C dX8_copy_72 bp_m13 ?_
            exact vs_iret C F dX8_copy_74 rfl ⟨by rw [hv], by rw [hv]; exact hX, vs_fr.rf⟩
          · skip
            refine vv_aload_n C dX8_copy_60 rfl ?_
            refine vv_iload_n C dX8_copy_61 rfl ?_
            refine vv_iload C dX8_copy_62 rfl ?_
            refine vv_iload C dX8_copy_64 rfl ?_
            refine vs_caliF C dX8_copy_66 (c_X8_hasStretch g S m h hX e he6 h2e j n) mb_X8_hasStretch mv_X8_hasStretch lk_X8_60 ce_54 rfl rfl rfl rfl ⟨Nat.le_of_ble_eq_true rfl, Nat.le_of_ble_eq_true rfl, Nat.le_of_ble_eq_true rfl⟩ ?_
            refine vv_if_ne (tgt := 75) C dX8_copy_69 (by decide) (fun q69 => ?_) (fun q69 => ?_)
            · obtain ⟨a, c9, ea, ec, hac⟩ := st_okN hNd (by
                have z := vs_b1.mp q57
                exact z)
              have z2 : st_ok (h.2.2.1 e) j n = true := vs_b1.mp q69
              subst ea
              subst ec
              obtain ⟨b, c8, eb, ec8, hbc⟩ := st_okN hNe z2
              have ecc : c8 = c9 := (xn_eq (by omega) (by omega)).mp ec8.symm
              subst ecc
              subst eb
              have hv : cpv h d (nI a) e (nI b) (nI c8) = (nI c8, h_cpy h d a e b c8) := by
                unfold cpv
                rw [if_neg (by omega), if_neg (by omega), show st_ok (h.2.2.1 d) (nI a) (nI c8) = true from vs_b1.mp q57, z2, if_pos vs_tt, xn_cl (n := a) (by omega), xn_cl (n := b) (by omega), xn_cl (n := c8) (by omega)]
              refine vv_aload_n C dX8_copy_75 rfl ?_
              refine gf_X8_rows C dX8_copy_76 fg_X8_23 ?_
              refine vv_iload_n C dX8_copy_79 rfl ?_
              refine aa_rows C dX8_copy_80 (xn_in (by omega) (by omega)) ?_
              refine vs_eqr (v9 := 59 + d) (by rw [xn_cl (by omega)]) ?_
              refine vv_iload_n C dX8_copy_81 rfl ?_
              refine vv_aload_n C dX8_copy_82 rfl ?_
              refine gf_X8_rows C dX8_copy_83 fg_X8_23 ?_
              refine vv_iload_n C dX8_copy_86 rfl ?_
              refine aa_rows C dX8_copy_87 (xn_in (by omega) (by omega)) ?_
              refine vs_eqr (v9 := 59 + e) (by rw [xn_cl (by omega)]) ?_
              refine vv_iload C dX8_copy_88 rfl ?_
              refine vv_iload C dX8_copy_90 rfl ?_
              refine vv_copyJ C hfl dX8_copy_92 lk_X8_63 (ce_rows hd) (ce_rows he6) (xn_neg (by omega)) (xn_neg (by omega)) (xn_neg (by omega)) (by rw [xn_cl (by omega), xn_cl (by omega)]; omega) (by rw [xn_cl (by omega), xn_cl (by omega)]; omega) ⟨Nat.le_of_ble_eq_true rfl, Nat.le_of_ble_eq_true rfl⟩ ?_
              rw [sa_rows he6]
              refine vv_iload C dX8_copy_95 rfl ?_
              refine vs_iret C F dX8_copy_97 rfl ⟨by rw [hv], ?_, fr_ul vs_fr.rf he6 _⟩
              rw [hv, xn_cl (by omega), xn_cl (by omega), xn_cl (by omega)]
              intro z hz
              obtain ⟨k1, k2, k3, k4⟩ := hX z hz
              refine ⟨k1, k2, k3, fun y => ⟨(k4 y).1, (k4 y).2.1, fun q hq => ?_⟩⟩
              rw [vs_ul3]
              show _ = (if z = e then va_cpy (h.2.2.2 d) (h.2.2.2 e) a b c8 else h.2.2.2 z) q
              by_cases w : z = e
              · subst w
                rw [if_pos rfl, if_pos rfl]
                show (if b ≤ q ∧ q < b + c8 then S.2.2 (59 + d) (a + (q - b)) else S.2.2 (59 + z) q) = (if b ≤ q ∧ q < b + c8 then h.2.2.2 d (a + (q - b)) else h.2.2.2 z q)
                have hq' : q < h.2.2.1 z := hq
                by_cases t : b ≤ q ∧ q < b + c8
                · rw [if_pos t, if_pos t]
                  exact (h57 h2).2.2 _ (by omega)
                · rw [if_neg t, if_neg t]
                  exact (k4 y).2.2 q hq
              · rw [if_neg (by omega), if_neg w]
                exact (k4 y).2.2 q hq
            · have hv : cpv h d i e j n = (-13, h) := by unfold cpv; rw [if_neg (by omega), if_neg (by omega), show st_ok (h.2.2.1 e) j n = false from vs_b0.mp q69, Bool.and_false]; rfl
              refine vv_bipush C dX8_copy_72 bp_m13 ?_
              exact vs_iret C F dX8_copy_74 rfl ⟨by rw [hv], by rw [hv]; exact hX, vs_fr.rf⟩
        · have e3 : ¬ h.1 d = h.1 e := fun z => q43 (by rw [z])
          have hv : cpv h d i e j n = (-12, h) := by unfold cpv; rw [if_neg (by omega), if_pos (by omega)]
          refine vv_bipush C dX8_copy_46 bp_m12 ?_
          exact vs_iret C F dX8_copy_48 rfl ⟨by rw [hv], by rw [hv]; exact hX, vs_fr.rf⟩
    · have e1 := (hc_0 gt6).mp q17
      have hv : cpv h d i e j n = (-11, h) := if_pos (Or.inr e1)
      refine vv_bipush C dX8_copy_20 bp_m11 ?_
      exact vs_iret C F dX8_copy_22 rfl ⟨by rw [hv], by rw [hv]; exact hX, vs_fr.rf⟩
theorem rf_in {q N : Nat} (hN : N < 2 ^ 31) (hq : q < 2 ^ 31) (h : q < N) : vs_w (nI q) 0 (nI N - 1) = true := by
  unfold vs_w
  rw [decide_eq_true (nI_pos' hq), show nI N - (1 : Int32) = nI (N - 1) from xn_sub (a := N) (b := 1) (by omega), decide_eq_true ((xn_le hq (by omega)).mpr (by omega))]
  rfl
theorem rf_out {q N : Nat} (hq : q < 2 ^ 31) (h : ¬ q < N) : ¬ vs_w (nI q) 0 (nI N - 1) = true := by
  intro z
  cases N with
  | zero =>
    have h3 := vs_wT z
    exact absurd (Int32.le_trans h3.1 h3.2) (by decide)
  | succ n =>
    rw [nI_pred] at z
    have h3 := (vs_wT z).2
    rw [xn_le hq (by omega)] at h3
    omega
set_option maxRecDepth 20000 in
theorem c_X8_firstUnlawful (g : vv_G) (S : vs_S) (m : Nat) (h : hT) (hX : sX S m h) (d : Nat) (hd : d < 6) (hS : nx_ok S) (law : Nat) (hl : law ≤ 3) (hs : S.1 0 = nI law) (i : Int32) (n : Nat) (hn1 : 1 ≤ n) (hn : n ≤ 60) : vs_FI g yX8_firstUnlawful cX8_firstUnlawful 8 (some .int) 5 [vv_r g 54, .int (nI d), .int i, .int (nI n)] S (lkX (np_lx law) h d i n) S := by
  obtain ⟨ht6, h55, h56, h57⟩ := hX d hd
  refine vs_ofI (lv := [_, _, _, _, _, _, _, _]) mb_X8_firstUnlawful (Nat.le_of_ble_eq_true rfl) rfl (fun x C F => ?_)
  refine vv_aload_n C dX8_firstUnlawful_0 rfl ?_
  refine vv_iload_n C dX8_firstUnlawful_1 rfl ?_
  refine vs_caliF C dX8_firstUnlawful_2 (c_X8_isRow g S m h hX d hd) mb_X8_isRow mv_X8_isRow lk_X8_44 ce_54 rfl rfl rfl rfl ⟨Nat.le_of_ble_eq_true rfl, Nat.le_of_ble_eq_true rfl, Nat.le_of_ble_eq_true rfl⟩ ?_
  refine vv_if_eq (tgt := 21) C dX8_firstUnlawful_5 (by decide) (fun q5 => ?_) (fun q5 => ?_)
  · have hty : 2 ≤ h.1 d → h.1 d = 5 := fun z => absurd z (of_decide_eq_false (vs_b0.mp q5))
    refine vv_iload_n C dX8_firstUnlawful_21 rfl ?_
    refine vw_istore (lv9 := [_, _, _, _, _, _, _, _]) C dX8_firstUnlawful_22 (by decide) rfl rfl ?_
    by_cases e0 : h.1 d = 0
    · have hval : lkX (np_lx law) h d i n = -11 := if_pos e0
      have hrf : rf h d i = -11 := if_pos e0
      have hrf0 : ¬ rf h d i = 0 := by rw [hrf]; decide
      refine vv_iload C dX8_firstUnlawful_24 rfl ?_
      refine vv_iload_n C dX8_firstUnlawful_26 rfl ?_
      refine vv_isub C dX8_firstUnlawful_27 ?_
      refine vs_eqi (v9 := 0) (Int32.sub_self _) ?_
      refine vv_iload_n C dX8_firstUnlawful_28 rfl ?_
      refine vv_icmp_ge (tgt := 90) C dX8_firstUnlawful_29 (by decide) (fun q29 => ?_) (fun q29 => ?_)
      · exact absurd q29 (by rw [xn_lit, xn_le (by omega) (by omega)]; omega)
      · refine vv_aload_n C dX8_firstUnlawful_32 rfl ?_
        refine vv_iload_n C dX8_firstUnlawful_33 rfl ?_
        refine vv_iload C dX8_firstUnlawful_34 rfl ?_
        refine vs_caliF C dX8_firstUnlawful_36 (c_X8_refusal g S m h hX d hd i) mb_X8_refusal mv_X8_refusal lk_X8_48 ce_54 rfl rfl rfl rfl ⟨Nat.le_of_ble_eq_true rfl, Nat.le_of_ble_eq_true rfl, Nat.le_of_ble_eq_true rfl⟩ ?_
        refine vw_istore (lv9 := [_, _, _, _, _, _, _, _]) C dX8_firstUnlawful_39 (by decide) rfl rfl ?_
        refine vv_iload C dX8_firstUnlawful_41 rfl ?_
        refine vv_if_eq (tgt := 49) C dX8_firstUnlawful_43 (by decide) (fun q43 => ?_) (fun q43 => ?_)
        · exact absurd q43 hrf0
        · refine vv_iload C dX8_firstUnlawful_46 rfl ?_
          exact vs_iret C F dX8_firstUnlawful_48 rfl ⟨by rw [hval]; exact hrf, rfl⟩
    · by_cases e1 : h.1 d = 1
      · have hval : lkX (np_lx law) h d i n = -12 := by unfold lkX; rw [if_neg e0, if_pos (by omega)]
        have hrf : rf h d i = -12 := by unfold rf; rw [if_neg e0, if_pos e1]
        have hrf0 : ¬ rf h d i = 0 := by rw [hrf]; decide
        refine vv_iload C dX8_firstUnlawful_24 rfl ?_
        refine vv_iload_n C dX8_firstUnlawful_26 rfl ?_
        refine vv_isub C dX8_firstUnlawful_27 ?_
        refine vs_eqi (v9 := 0) (Int32.sub_self _) ?_
        refine vv_iload_n C dX8_firstUnlawful_28 rfl ?_
        refine vv_icmp_ge (tgt := 90) C dX8_firstUnlawful_29 (by decide) (fun q29 => ?_) (fun q29 => ?_)
        · exact absurd q29 (by rw [xn_lit, xn_le (by omega) (by omega)]; omega)
        · refine vv_aload_n C dX8_firstUnlawful_32 rfl ?_
          refine vv_iload_n C dX8_firstUnlawful_33 rfl ?_
          refine vv_iload C dX8_firstUnlawful_34 rfl ?_
          refine vs_caliF C dX8_firstUnlawful_36 (c_X8_refusal g S m h hX d hd i) mb_X8_refusal mv_X8_refusal lk_X8_48 ce_54 rfl rfl rfl rfl ⟨Nat.le_of_ble_eq_true rfl, Nat.le_of_ble_eq_true rfl, Nat.le_of_ble_eq_true rfl⟩ ?_
          refine vw_istore (lv9 := [_, _, _, _, _, _, _, _]) C dX8_firstUnlawful_39 (by decide) rfl rfl ?_
          refine vv_iload C dX8_firstUnlawful_41 rfl ?_
          refine vv_if_eq (tgt := 49) C dX8_firstUnlawful_43 (by decide) (fun q43 => ?_) (fun q43 => ?_)
          · exact absurd q43 hrf0
          · refine vv_iload C dX8_firstUnlawful_46 rfl ?_
            exact vs_iret C F dX8_firstUnlawful_48 rfl ⟨by rw [hval]; exact hrf, rfl⟩
      · have e5 : h.1 d = 5 := hty (by omega)
        have e57 := h57 (by omega)
        by_cases hneg : i < 0
        · have hval : lkX (np_lx law) h d i n = -13 := by unfold lkX; rw [if_neg e0, if_neg (by omega), if_pos hneg]
          have hrf : rf h d i = -13 := by unfold rf; rw [if_neg e0, if_neg e1, if_neg (by unfold vs_w; rw [decide_eq_false (Int32.not_le.mpr hneg), Bool.false_and]; decide)]
          have hrf0 : ¬ rf h d i = 0 := by rw [hrf]; decide
          refine vv_iload C dX8_firstUnlawful_24 rfl ?_
          refine vv_iload_n C dX8_firstUnlawful_26 rfl ?_
          refine vv_isub C dX8_firstUnlawful_27 ?_
          refine vs_eqi (v9 := 0) (Int32.sub_self _) ?_
          refine vv_iload_n C dX8_firstUnlawful_28 rfl ?_
          refine vv_icmp_ge (tgt := 90) C dX8_firstUnlawful_29 (by decide) (fun q29 => ?_) (fun q29 => ?_)
          · exact absurd q29 (by rw [xn_lit, xn_le (by omega) (by omega)]; omega)
          · refine vv_aload_n C dX8_firstUnlawful_32 rfl ?_
            refine vv_iload_n C dX8_firstUnlawful_33 rfl ?_
            refine vv_iload C dX8_firstUnlawful_34 rfl ?_
            refine vs_caliF C dX8_firstUnlawful_36 (c_X8_refusal g S m h hX d hd i) mb_X8_refusal mv_X8_refusal lk_X8_48 ce_54 rfl rfl rfl rfl ⟨Nat.le_of_ble_eq_true rfl, Nat.le_of_ble_eq_true rfl, Nat.le_of_ble_eq_true rfl⟩ ?_
            refine vw_istore (lv9 := [_, _, _, _, _, _, _, _]) C dX8_firstUnlawful_39 (by decide) rfl rfl ?_
            refine vv_iload C dX8_firstUnlawful_41 rfl ?_
            refine vv_if_eq (tgt := 49) C dX8_firstUnlawful_43 (by decide) (fun q43 => ?_) (fun q43 => ?_)
            · exact absurd q43 hrf0
            · refine vv_iload C dX8_firstUnlawful_46 rfl ?_
              exact vs_iret C F dX8_firstUnlawful_48 rfl ⟨by rw [hval]; exact hrf, rfl⟩
        · obtain ⟨p, hp, ep⟩ := nI_of hneg
          subst ep
          have hval : lkX (np_lx law) h d (nI p) n = lkv (np_lx law) (h.2.2.2 d) (h.2.2.1 d) n p := by unfold lkX; rw [if_neg e0, if_neg (by omega), if_neg hneg, xn_cl hp]
          by_cases hpN : p < h.2.2.1 d
          · have loop : ∀ (f q : Nat) (w5 w6 w7 : Option Value), q + f = p + n → p ≤ q → lkv (np_lx law) (h.2.2.2 d) (h.2.2.1 d) f q = lkv (np_lx law) (h.2.2.2 d) (h.2.2.1 d) n p → vv_V g x 8 0 0 24 [some (vv_r g 54), some (.int (nI d)), some (.int (nI p)), some (.int (nI n)), some (.int (nI q)), w5, w6, w7] [] (vs_cells g S) := by
              intro f
              induction f with
              | zero =>
                intro q w5 w6 w7 h1 hpq he
                have hq : q = p + n := by omega
                subst hq
                refine vv_iload C dX8_firstUnlawful_24 rfl ?_
                refine vv_iload_n C dX8_firstUnlawful_26 rfl ?_
                refine vv_isub C dX8_firstUnlawful_27 ?_
                refine vs_eqi (v9 := nI n) ((xn_sub (by omega)).trans (congrArg nI (by omega))) ?_
                refine vv_iload_n C dX8_firstUnlawful_28 rfl ?_
                refine vv_icmp_ge (tgt := 90) C dX8_firstUnlawful_29 (by decide) (fun q29 => ?_) (fun q29 => ?_)
                · refine vv_iload_n C dX8_firstUnlawful_90 rfl ?_
                  refine vv_iload_n C dX8_firstUnlawful_91 rfl ?_
                  refine vv_iadd C dX8_firstUnlawful_92 ?_
                  refine vs_eqi (v9 := nI (p + n)) (nI_add _ _) ?_
                  exact vs_iret C F dX8_firstUnlawful_93 rfl ⟨by rw [hval]; exact he, rfl⟩
                · exact absurd (Int32.le_refl _) q29
              | succ f ih =>
                intro q w5 w6 w7 h1 hpq he
                rw [lkvS f] at he
                refine vv_iload C dX8_firstUnlawful_24 rfl ?_
                refine vv_iload_n C dX8_firstUnlawful_26 rfl ?_
                refine vv_isub C dX8_firstUnlawful_27 ?_
                refine vs_eqi (v9 := nI (q - p)) (xn_sub (by omega)) ?_
                refine vv_iload_n C dX8_firstUnlawful_28 rfl ?_
                refine vv_icmp_ge (tgt := 90) C dX8_firstUnlawful_29 (by decide) (fun q29 => ?_) (fun q29 => ?_)
                · exact absurd q29 (by rw [xn_le (by omega) (by omega)]; omega)
                · refine vv_aload_n C dX8_firstUnlawful_32 rfl ?_
                  refine vv_iload_n C dX8_firstUnlawful_33 rfl ?_
                  refine vv_iload C dX8_firstUnlawful_34 rfl ?_
                  refine vs_caliF C dX8_firstUnlawful_36 (c_X8_refusal g S m h hX d hd (nI q)) mb_X8_refusal mv_X8_refusal lk_X8_48 ce_54 rfl rfl rfl rfl ⟨Nat.le_of_ble_eq_true rfl, Nat.le_of_ble_eq_true rfl, Nat.le_of_ble_eq_true rfl⟩ ?_
                  refine vw_istore (lv9 := [_, _, _, _, _, _, _, _]) C dX8_firstUnlawful_39 (by decide) rfl rfl ?_
                  refine vv_iload C dX8_firstUnlawful_41 rfl ?_
                  refine vv_if_eq (tgt := 49) C dX8_firstUnlawful_43 (by decide) (fun q43 => ?_) (fun q43 => ?_)
                  · obtain ⟨_, j, hj, ej⟩ := rf_0 e57.2.1 q43
                    have hqN : q < h.2.2.1 d := by have := (xn_eq (by omega) (by omega)).mp ej; omega
                    rw [if_pos hqN] at he
                    refine vv_aload_n C dX8_firstUnlawful_49 rfl ?_
                    refine gf_X8_rows C dX8_firstUnlawful_50 fg_X8_23 ?_
                    refine vv_iload_n C dX8_firstUnlawful_53 rfl ?_
                    refine aa_rows C dX8_firstUnlawful_54 (xn_in (by omega) (by omega)) ?_
                    refine vs_eqr (v9 := 59 + d) (by rw [xn_cl (by omega)]) ?_
                    refine vv_iload C dX8_firstUnlawful_55 rfl ?_
                    refine ld_rows C dX8_firstUnlawful_57 (by omega) (xn_in (by omega) (by omega)) ?_
                    refine vs_eql (v9 := h.2.2.2 d q) (by rw [xn_cl (by omega)]; exact e57.2.2 q hqN) ?_
                    refine vw_lstore (lv9 := [_, _, _, _, _, _, _, _]) C dX8_firstUnlawful_58 (by decide) rfl rfl ?_
                    refine vv_lload C dX8_firstUnlawful_60 rfl ?_
                    refine vv_ldc2 C dX8_firstUnlawful_62 kc_X8_79 ?_
                    refine vv_lcmp C dX8_firstUnlawful_65 ?_
                    refine vv_if_gt (tgt := 81) C dX8_firstUnlawful_66 (by decide) (fun q66 => ?_) (fun q66 => ?_)
                    · have hgt := (lg_cmp_gt _ _).mp q66
                      rw [show okP (np_lx law) (h.2.2.2 d q) = false by unfold okP; rw [decide_eq_false (Int64.not_le.mpr hgt)]; rfl, if_neg (by decide)] at he
                      refine vv_iload C dX8_firstUnlawful_81 rfl ?_
                      exact vs_iret C F dX8_firstUnlawful_83 rfl ⟨by rw [hval]; exact he, rfl⟩
                    · have hle : h.2.2.2 d q ≤ 1000000000000 := Int64.not_lt.mp (fun z => q66 ((lg_cmp_gt _ _).mpr z))
                      have hok : okP (np_lx law) (h.2.2.2 d q) = lwz (np_lx law) (h.2.2.2 d q) := by unfold okP; rw [decide_eq_true hle, Bool.true_and]
                      rw [hok] at he
                      refine vv_aload_n C dX8_firstUnlawful_69 rfl ?_
                      refine gf_X8_laws C dX8_firstUnlawful_70 fg_X8_26 ?_
                      refine vv_lload C dX8_firstUnlawful_73 rfl ?_
                      refine vs_caliF C dX8_firstUnlawful_75 (c_X1_isLawfulZ g S hS law hl hs _ hle) mb_X1_isLawful mv_X1_isLawful lk_X8_81 ce_4 rfl rfl rfl rfl ⟨Nat.le_of_ble_eq_true rfl, Nat.le_of_ble_eq_true rfl, Nat.le_of_ble_eq_true rfl⟩ ?_
                      refine vv_if_ne (tgt := 84) C dX8_firstUnlawful_78 (by decide) (fun q78 => ?_) (fun q78 => ?_)
                      · rw [vs_b1.mp q78, if_pos rfl] at he
                        refine vw_iinc (lv9 := [_, _, _, _, _, _, _, _]) C dX8_firstUnlawful_84 rfl ic_1 (by decide) rfl rfl ?_
                        refine vv_goto (tgt := 24) C dX8_firstUnlawful_87 (by decide) ?_
                        rw [nI_1]
                        exact ih (q + 1) _ _ _ (by omega) (by omega) he
                      · rw [vs_b0.mp q78, if_neg (by decide)] at he
                        refine vv_iload C dX8_firstUnlawful_81 rfl ?_
                        exact vs_iret C F dX8_firstUnlawful_83 rfl ⟨by rw [hval]; exact he, rfl⟩
                  · have hqN : ¬ q < h.2.2.1 d := fun z => q43 (by
                      unfold rf
                      rw [if_neg (by omega), if_neg (by omega), if_pos (rf_in (show h.2.2.1 d < 2 ^ 31 by omega) (show q < 2 ^ 31 by omega) z)])
                    rw [if_neg hqN] at he
                    have hrf : rf h d (nI q) = -13 := by
                      unfold rf
                      rw [if_neg (by omega), if_neg (by omega), if_neg (rf_out (show q < 2 ^ 31 by omega) hqN)]
                    refine vv_iload C dX8_firstUnlawful_46 rfl ?_
                    exact vs_iret C F dX8_firstUnlawful_48 rfl ⟨by rw [hval, ← he]; exact hrf, rfl⟩
            exact loop n p _ _ _ rfl (Nat.le_refl _) rfl
          · have hval2 : lkX (np_lx law) h d (nI p) n = -13 := by
              rw [hval, show n = (n - 1) + 1 by omega, lkvS, if_neg hpN]
            have hrf : rf h d (nI p) = -13 := by unfold rf; rw [if_neg e0, if_neg e1, if_neg (rf_out hp hpN)]
            have hrf0 : ¬ rf h d (nI p) = 0 := by rw [hrf]; decide
            refine vv_iload C dX8_firstUnlawful_24 rfl ?_
            refine vv_iload_n C dX8_firstUnlawful_26 rfl ?_
            refine vv_isub C dX8_firstUnlawful_27 ?_
            refine vs_eqi (v9 := 0) (Int32.sub_self _) ?_
            refine vv_iload_n C dX8_firstUnlawful_28 rfl ?_
            refine vv_icmp_ge (tgt := 90) C dX8_firstUnlawful_29 (by decide) (fun q29 => ?_) (fun q29 => ?_)
            · exact absurd q29 (by rw [xn_lit, xn_le (by omega) (by omega)]; omega)
            · refine vv_aload_n C dX8_firstUnlawful_32 rfl ?_
              refine vv_iload_n C dX8_firstUnlawful_33 rfl ?_
              refine vv_iload C dX8_firstUnlawful_34 rfl ?_
              refine vs_caliF C dX8_firstUnlawful_36 (c_X8_refusal g S m h hX d hd (nI p)) mb_X8_refusal mv_X8_refusal lk_X8_48 ce_54 rfl rfl rfl rfl ⟨Nat.le_of_ble_eq_true rfl, Nat.le_of_ble_eq_true rfl, Nat.le_of_ble_eq_true rfl⟩ ?_
              refine vw_istore (lv9 := [_, _, _, _, _, _, _, _]) C dX8_firstUnlawful_39 (by decide) rfl rfl ?_
              refine vv_iload C dX8_firstUnlawful_41 rfl ?_
              refine vv_if_eq (tgt := 49) C dX8_firstUnlawful_43 (by decide) (fun q43 => ?_) (fun q43 => ?_)
              · exact absurd q43 hrf0
              · refine vv_iload C dX8_firstUnlawful_46 rfl ?_
                exact vs_iret C F dX8_firstUnlawful_48 rfl ⟨by rw [hval2]; exact hrf, rfl⟩
  · have h2 : 2 ≤ h.1 d := of_decide_eq_true (vs_b1.mp q5)
    refine vv_aload_n C dX8_firstUnlawful_8 rfl ?_
    refine gf_X8_holds C dX8_firstUnlawful_9 fg_X8_11 ?_
    refine vv_iload_n C dX8_firstUnlawful_12 rfl ?_
    refine ld_55 C dX8_firstUnlawful_13 (xn_in (by omega) (by omega)) ?_
    refine vs_eqi (v9 := hc (h.1 d)) (by rw [xn_cl (by omega)]; exact h55) ?_
    refine vv_iconst C dX8_firstUnlawful_14 ic_3 ?_
    refine vv_icmp_eq (tgt := 21) C dX8_firstUnlawful_15 (by decide) (fun q15 => ?_) (fun q15 => ?_)
    · have hty : 2 ≤ h.1 d → h.1 d = 5 := fun _ => (hc_3 ht6).mp q15
      refine vv_iload_n C dX8_firstUnlawful_21 rfl ?_
      refine vw_istore (lv9 := [_, _, _, _, _, _, _, _]) C dX8_firstUnlawful_22 (by decide) rfl rfl ?_
      by_cases e0 : h.1 d = 0
      · have hval : lkX (np_lx law) h d i n = -11 := if_pos e0
        have hrf : rf h d i = -11 := if_pos e0
        have hrf0 : ¬ rf h d i = 0 := by rw [hrf]; decide
        refine vv_iload C dX8_firstUnlawful_24 rfl ?_
        refine vv_iload_n C dX8_firstUnlawful_26 rfl ?_
        refine vv_isub C dX8_firstUnlawful_27 ?_
        refine vs_eqi (v9 := 0) (Int32.sub_self _) ?_
        refine vv_iload_n C dX8_firstUnlawful_28 rfl ?_
        refine vv_icmp_ge (tgt := 90) C dX8_firstUnlawful_29 (by decide) (fun q29 => ?_) (fun q29 => ?_)
        · exact absurd q29 (by rw [xn_lit, xn_le (by omega) (by omega)]; omega)
        · refine vv_aload_n C dX8_firstUnlawful_32 rfl ?_
          refine vv_iload_n C dX8_firstUnlawful_33 rfl ?_
          refine vv_iload C dX8_firstUnlawful_34 rfl ?_
          refine vs_caliF C dX8_firstUnlawful_36 (c_X8_refusal g S m h hX d hd i) mb_X8_refusal mv_X8_refusal lk_X8_48 ce_54 rfl rfl rfl rfl ⟨Nat.le_of_ble_eq_true rfl, Nat.le_of_ble_eq_true rfl, Nat.le_of_ble_eq_true rfl⟩ ?_
          refine vw_istore (lv9 := [_, _, _, _, _, _, _, _]) C dX8_firstUnlawful_39 (by decide) rfl rfl ?_
          refine vv_iload C dX8_firstUnlawful_41 rfl ?_
          refine vv_if_eq (tgt := 49) C dX8_firstUnlawful_43 (by decide) (fun q43 => ?_) (fun q43 => ?_)
          · exact absurd q43 hrf0
          · refine vv_iload C dX8_firstUnlawful_46 rfl ?_
            exact vs_iret C F dX8_firstUnlawful_48 rfl ⟨by rw [hval]; exact hrf, rfl⟩
      · by_cases e1 : h.1 d = 1
        · have hval : lkX (np_lx law) h d i n = -12 := by unfold lkX; rw [if_neg e0, if_pos (by omega)]
          have hrf : rf h d i = -12 := by unfold rf; rw [if_neg e0, if_pos e1]
          have hrf0 : ¬ rf h d i = 0 := by rw [hrf]; decide
          refine vv_iload C dX8_firstUnlawful_24 rfl ?_
          refine vv_iload_n C dX8_firstUnlawful_26 rfl ?_
          refine vv_isub C dX8_firstUnlawful_27 ?_
          refine vs_eqi (v9 := 0) (Int32.sub_self _) ?_
          refine vv_iload_n C dX8_firstUnlawful_28 rfl ?_
          refine vv_icmp_ge (tgt := 90) C dX8_firstUnlawful_29 (by decide) (fun q29 => ?_) (fun q29 => ?_)
          · exact absurd q29 (by rw [xn_lit, xn_le (by omega) (by omega)]; omega)
          · refine vv_aload_n C dX8_firstUnlawful_32 rfl ?_
            refine vv_iload_n C dX8_firstUnlawful_33 rfl ?_
            refine vv_iload C dX8_firstUnlawful_34 rfl ?_
            refine vs_caliF C dX8_firstUnlawful_36 (c_X8_refusal g S m h hX d hd i) mb_X8_refusal mv_X8_refusal lk_X8_48 ce_54 rfl rfl rfl rfl ⟨Nat.le_of_ble_eq_true rfl, Nat.le_of_ble_eq_true rfl, Nat.le_of_ble_eq_true rfl⟩ ?_
            refine vw_istore (lv9 := [_, _, _, _, _, _, _, _]) C dX8_firstUnlawful_39 (by decide) rfl rfl ?_
            refine vv_iload C dX8_firstUnlawful_41 rfl ?_
            refine vv_if_eq (tgt := 49) C dX8_firstUnlawful_43 (by decide) (fun q43 => ?_) (fun q43 => ?_)
            · exact absurd q43 hrf0
            · refine vv_iload C dX8_firstUnlawful_46 rfl ?_
              exact vs_iret C F dX8_firstUnlawful_48 rfl ⟨by rw [hval]; exact hrf, rfl⟩
        · have e5 : h.1 d = 5 := hty (by omega)
          have e57 := h57 (by omega)
          by_cases hneg : i < 0
          · have hval : lkX (np_lx law) h d i n = -13 := by unfold lkX; rw [if_neg e0, if_neg (by omega), if_pos hneg]
            have hrf : rf h d i = -13 := by unfold rf; rw [if_neg e0, if_neg e1, if_neg (by unfold vs_w; rw [decide_eq_false (Int32.not_le.mpr hneg), Bool.false_and]; decide)]
            have hrf0 : ¬ rf h d i = 0 := by rw [hrf]; decide
            refine vv_iload C dX8_firstUnlawful_24 rfl ?_
            refine vv_iload_n C dX8_firstUnlawful_26 rfl ?_
            refine vv_isub C dX8_firstUnlawful_27 ?_
            refine vs_eqi (v9 := 0) (Int32.sub_self _) ?_
            refine vv_iload_n C dX8_firstUnlawful_28 rfl ?_
            refine vv_icmp_ge (tgt := 90) C dX8_firstUnlawful_29 (by decide) (fun q29 => ?_) (fun q29 => ?_)
            · exact absurd q29 (by rw [xn_lit, xn_le (by omega) (by omega)]; omega)
            · refine vv_aload_n C dX8_firstUnlawful_32 rfl ?_
              refine vv_iload_n C dX8_firstUnlawful_33 rfl ?_
              refine vv_iload C dX8_firstUnlawful_34 rfl ?_
              refine vs_caliF C dX8_firstUnlawful_36 (c_X8_refusal g S m h hX d hd i) mb_X8_refusal mv_X8_refusal lk_X8_48 ce_54 rfl rfl rfl rfl ⟨Nat.le_of_ble_eq_true rfl, Nat.le_of_ble_eq_true rfl, Nat.le_of_ble_eq_true rfl⟩ ?_
              refine vw_istore (lv9 := [_, _, _, _, _, _, _, _]) C dX8_firstUnlawful_39 (by decide) rfl rfl ?_
              refine vv_iload C dX8_firstUnlawful_41 rfl ?_
              refine vv_if_eq (tgt := 49) C dX8_firstUnlawful_43 (by decide) (fun q43 => ?_) (fun q43 => ?_)
              · exact absurd q43 hrf0
              · refine vv_iload C dX8_firstUnlawful_46 rfl ?_
                exact vs_iret C F dX8_firstUnlawful_48 rfl ⟨by rw [hval]; exact hrf, rfl⟩
          · obtain ⟨p, hp, ep⟩ := nI_of hneg
            subst ep
            have hval : lkX (np_lx law) h d (nI p) n = lkv (np_lx law) (h.2.2.2 d) (h.2.2.1 d) n p := by unfold lkX; rw [if_neg e0, if_neg (by omega), if_neg hneg, xn_cl hp]
            by_cases hpN : p < h.2.2.1 d
            · have loop : ∀ (f q : Nat) (w5 w6 w7 : Option Value), q + f = p + n → p ≤ q → lkv (np_lx law) (h.2.2.2 d) (h.2.2.1 d) f q = lkv (np_lx law) (h.2.2.2 d) (h.2.2.1 d) n p → vv_V g x 8 0 0 24 [some (vv_r g 54), some (.int (nI d)), some (.int (nI p)), some (.int (nI n)), some (.int (nI q)), w5, w6, w7] [] (vs_cells g S) := by
                intro f
                induction f with
                | zero =>
                  intro q w5 w6 w7 h1 hpq he
                  have hq : q = p + n := by omega
                  subst hq
                  refine vv_iload C dX8_firstUnlawful_24 rfl ?_
                  refine vv_iload_n C dX8_firstUnlawful_26 rfl ?_
                  refine vv_isub C dX8_firstUnlawful_27 ?_
                  refine vs_eqi (v9 := nI n) ((xn_sub (by omega)).trans (congrArg nI (by omega))) ?_
                  refine vv_iload_n C dX8_firstUnlawful_28 rfl ?_
                  refine vv_icmp_ge (tgt := 90) C dX8_firstUnlawful_29 (by decide) (fun q29 => ?_) (fun q29 => ?_)
                  · refine vv_iload_n C dX8_firstUnlawful_90 rfl ?_
                    refine vv_iload_n C dX8_firstUnlawful_91 rfl ?_
                    refine vv_iadd C dX8_firstUnlawful_92 ?_
                    refine vs_eqi (v9 := nI (p + n)) (nI_add _ _) ?_
                    exact vs_iret C F dX8_firstUnlawful_93 rfl ⟨by rw [hval]; exact he, rfl⟩
                  · exact absurd (Int32.le_refl _) q29
                | succ f ih =>
                  intro q w5 w6 w7 h1 hpq he
                  rw [lkvS f] at he
                  refine vv_iload C dX8_firstUnlawful_24 rfl ?_
                  refine vv_iload_n C dX8_firstUnlawful_26 rfl ?_
                  refine vv_isub C dX8_firstUnlawful_27 ?_
                  refine vs_eqi (v9 := nI (q - p)) (xn_sub (by omega)) ?_
                  refine vv_iload_n C dX8_firstUnlawful_28 rfl ?_
                  refine vv_icmp_ge (tgt := 90) C dX8_firstUnlawful_29 (by decide) (fun q29 => ?_) (fun q29 => ?_)
                  · exact absurd q29 (by rw [xn_le (by omega) (by omega)]; omega)
                  · refine vv_aload_n C dX8_firstUnlawful_32 rfl ?_
                    refine vv_iload_n C dX8_firstUnlawful_33 rfl ?_
                    refine vv_iload C dX8_firstUnlawful_34 rfl ?_
                    refine vs_caliF C dX8_firstUnlawful_36 (c_X8_refusal g S m h hX d hd (nI q)) mb_X8_refusal mv_X8_refusal lk_X8_48 ce_54 rfl rfl rfl rfl ⟨Nat.le_of_ble_eq_true rfl, Nat.le_of_ble_eq_true rfl, Nat.le_of_ble_eq_true rfl⟩ ?_
                    refine vw_istore (lv9 := [_, _, _, _, _, _, _, _]) C dX8_firstUnlawful_39 (by decide) rfl rfl ?_
                    refine vv_iload C dX8_firstUnlawful_41 rfl ?_
                    refine vv_if_eq (tgt := 49) C dX8_firstUnlawful_43 (by decide) (fun q43 => ?_) (fun q43 => ?_)
                    · obtain ⟨_, j, hj, ej⟩ := rf_0 e57.2.1 q43
                      have hqN : q < h.2.2.1 d := by have := (xn_eq (by omega) (by omega)).mp ej; omega
                      rw [if_pos hqN] at he
                      refine vv_aload_n C dX8_firstUnlawful_49 rfl ?_
                      refine gf_X8_rows C dX8_firstUnlawful_50 fg_X8_23 ?_
                      refine vv_iload_n C dX8_firstUnlawful_53 rfl ?_
                      refine aa_rows C dX8_firstUnlawful_54 (xn_in (by omega) (by omega)) ?_
                      refine vs_eqr (v9 := 59 + d) (by rw [xn_cl (by omega)]) ?_
                      refine vv_iload C dX8_firstUnlawful_55 rfl ?_
                      refine ld_rows C dX8_firstUnlawful_57 (by omega) (xn_in (by omega) (by omega)) ?_
                      refine vs_eql (v9 := h.2.2.2 d q) (by rw [xn_cl (by omega)]; exact e57.2.2 q hqN) ?_
                      refine vw_lstore (lv9 := [_, _, _, _, _, _, _, _]) C dX8_firstUnlawful_58 (by decide) rfl rfl ?_
                      refine vv_lload C dX8_firstUnlawful_60 rfl ?_
                      refine vv_ldc2 C dX8_firstUnlawful_62 kc_X8_79 ?_
                      refine vv_lcmp C dX8_firstUnlawful_65 ?_
                      refine vv_if_gt (tgt := 81) C dX8_firstUnlawful_66 (by decide) (fun q66 => ?_) (fun q66 => ?_)
                      · have hgt := (lg_cmp_gt _ _).mp q66
                        rw [show okP (np_lx law) (h.2.2.2 d q) = false by unfold okP; rw [decide_eq_false (Int64.not_le.mpr hgt)]; rfl, if_neg (by decide)] at he
                        refine vv_iload C dX8_firstUnlawful_81 rfl ?_
                        exact vs_iret C F dX8_firstUnlawful_83 rfl ⟨by rw [hval]; exact he, rfl⟩
                      · have hle : h.2.2.2 d q ≤ 1000000000000 := Int64.not_lt.mp (fun z => q66 ((lg_cmp_gt _ _).mpr z))
                        have hok : okP (np_lx law) (h.2.2.2 d q) = lwz (np_lx law) (h.2.2.2 d q) := by unfold okP; rw [decide_eq_true hle, Bool.true_and]
                        rw [hok] at he
                        refine vv_aload_n C dX8_firstUnlawful_69 rfl ?_
                        refine gf_X8_laws C dX8_firstUnlawful_70 fg_X8_26 ?_
                        refine vv_lload C dX8_firstUnlawful_73 rfl ?_
                        refine vs_caliF C dX8_firstUnlawful_75 (c_X1_isLawfulZ g S hS law hl hs _ hle) mb_X1_isLawful mv_X1_isLawful lk_X8_81 ce_4 rfl rfl rfl rfl ⟨Nat.le_of_ble_eq_true rfl, Nat.le_of_ble_eq_true rfl, Nat.le_of_ble_eq_true rfl⟩ ?_
                        refine vv_if_ne (tgt := 84) C dX8_firstUnlawful_78 (by decide) (fun q78 => ?_) (fun q78 => ?_)
                        · rw [vs_b1.mp q78, if_pos rfl] at he
                          refine vw_iinc (lv9 := [_, _, _, _, _, _, _, _]) C dX8_firstUnlawful_84 rfl ic_1 (by decide) rfl rfl ?_
                          refine vv_goto (tgt := 24) C dX8_firstUnlawful_87 (by decide) ?_
                          rw [nI_1]
                          exact ih (q + 1) _ _ _ (by omega) (by omega) he
                        · rw [vs_b0.mp q78, if_neg (by decide)] at he
                          refine vv_iload C dX8_firstUnlawful_81 rfl ?_
                          exact vs_iret C F dX8_firstUnlawful_83 rfl ⟨by rw [hval]; exact he, rfl⟩
                    · have hqN : ¬ q < h.2.2.1 d := fun z => q43 (by
                        unfold rf
                        rw [if_neg (by omega), if_neg (by omega), if_pos (rf_in (show h.2.2.1 d < 2 ^ 31 by omega) (show q < 2 ^ 31 by omega) z)])
                      rw [if_neg hqN] at he
                      have hrf : rf h d (nI q) = -13 := by
                        unfold rf
                        rw [if_neg (by omega), if_neg (by omega), if_neg (rf_out (show q < 2 ^ 31 by omega) hqN)]
                      refine vv_iload C dX8_firstUnlawful_46 rfl ?_
                      exact vs_iret C F dX8_firstUnlawful_48 rfl ⟨by rw [hval, ← he]; exact hrf, rfl⟩
              exact loop n p _ _ _ rfl (Nat.le_refl _) rfl
            · have hval2 : lkX (np_lx law) h d (nI p) n = -13 := by
                rw [hval, show n = (n - 1) + 1 by omega, lkvS, if_neg hpN]
              have hrf : rf h d (nI p) = -13 := by unfold rf; rw [if_neg e0, if_neg e1, if_neg (rf_out hp hpN)]
              have hrf0 : ¬ rf h d (nI p) = 0 := by rw [hrf]; decide
              refine vv_iload C dX8_firstUnlawful_24 rfl ?_
              refine vv_iload_n C dX8_firstUnlawful_26 rfl ?_
              refine vv_isub C dX8_firstUnlawful_27 ?_
              refine vs_eqi (v9 := 0) (Int32.sub_self _) ?_
              refine vv_iload_n C dX8_firstUnlawful_28 rfl ?_
              refine vv_icmp_ge (tgt := 90) C dX8_firstUnlawful_29 (by decide) (fun q29 => ?_) (fun q29 => ?_)
              · exact absurd q29 (by rw [xn_lit, xn_le (by omega) (by omega)]; omega)
              · refine vv_aload_n C dX8_firstUnlawful_32 rfl ?_
                refine vv_iload_n C dX8_firstUnlawful_33 rfl ?_
                refine vv_iload C dX8_firstUnlawful_34 rfl ?_
                refine vs_caliF C dX8_firstUnlawful_36 (c_X8_refusal g S m h hX d hd (nI p)) mb_X8_refusal mv_X8_refusal lk_X8_48 ce_54 rfl rfl rfl rfl ⟨Nat.le_of_ble_eq_true rfl, Nat.le_of_ble_eq_true rfl, Nat.le_of_ble_eq_true rfl⟩ ?_
                refine vw_istore (lv9 := [_, _, _, _, _, _, _, _]) C dX8_firstUnlawful_39 (by decide) rfl rfl ?_
                refine vv_iload C dX8_firstUnlawful_41 rfl ?_
                refine vv_if_eq (tgt := 49) C dX8_firstUnlawful_43 (by decide) (fun q43 => ?_) (fun q43 => ?_)
                · exact absurd q43 hrf0
                · refine vv_iload C dX8_firstUnlawful_46 rfl ?_
                  exact vs_iret C F dX8_firstUnlawful_48 rfl ⟨by rw [hval2]; exact hrf, rfl⟩
    · have h5 : ¬ h.1 d = 5 := fun z => q15 (by rw [z]; decide +kernel)
      have hval : lkX (np_lx law) h d i n = -12 := by unfold lkX; rw [if_neg (by omega), if_pos h5]
      refine vv_bipush C dX8_firstUnlawful_18 bp_m12 ?_
      exact vs_iret C F dX8_firstUnlawful_20 rfl ⟨hval.symm, rfl⟩
