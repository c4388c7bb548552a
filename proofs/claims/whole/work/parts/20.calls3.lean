def lw_pt (l : List Nat) (i : Int32) : Int32 := if i = -1 then nI l.length else if i < nI l.length then nI (l.getD i.toNatClampNeg 0) else -1
theorem np_hasD {f : Nat → Int32} {l : List Nat} (h : np_has f l) {i : Nat} (hi : i < l.length) : f i = nI (l.getD i 0) := by
  have e : l[i]? = some l[i] := List.getElem?_eq_getElem hi
  rw [h i _ e, List.getD_eq_getElem?_getD, e]
  rfl
/-- an int that is no less than -1 and not -1 -/
theorem xn_m1 {i : Int32} (h1 : -1 ≤ i) (h2 : ¬ i = -1) : ∃ k, k < 2 ^ 31 ∧ i = nI k := by
  refine nI_of (fun h => h2 ?_)
  have a := Int32.lt_iff_toInt_lt.mp h
  have b := Int32.le_iff_toInt_le.mp h1
  have e0 : (0 : Int32).toInt = 0 := rfl
  have e1 : (-1 : Int32).toInt = -1 := rfl
  exact Int32.toInt_inj.mp (by omega)
/-- every whole number (at least 3) has a proof -/
def np_PR : Prop := ∀ n, 3 ≤ n → n ≤ 1000000000 → np_pr n = true → ∃ a, 2 ≤ a ∧ a < n ∧ np_pg (np_li np_lp 32 (n - 1)) n a = true
theorem nm_ok_of {S S1 : vs_S} (h : nm_ok S) (e1 : S1.1 24 = S.1 24) (e2 : S1.2.1 70 = S.2.1 70) : nm_ok S1 := by
  unfold nm_ok
  rw [e1, e2]
  exact h
set_option maxRecDepth 20000 in
theorem c_X11_parts (g : vv_G) (S : vs_S) (hS : nx_ok S) (n i : Int32) : vs_KI g yX11_parts cX11_parts 4 (some .int) 6 [vv_r g 0, .int n, .int i] S (fun r S1 => r = (if (vs_w n 2 1000000000 && decide (-1 ≤ i)) = true then lw_pt (np_li np_xl 32 n.toNatClampNeg) i else -1) ∧ vs_fr [] [3] [] S S1) := by
  refine vs_ofI (lv := [_, _, _, _]) mb_X11_parts (Nat.le_of_ble_eq_true rfl) rfl (fun x C F => ?_)
  refine vv_iload_n C dX11_parts_0 rfl ?_
  refine vv_iconst C dX11_parts_1 ic_2 ?_
  refine vv_ldc C dX11_parts_2 kc_X11_131 ?_
  refine vs_calsiF C dX11_parts_4 (c_X11_within g S _ _ _) mb_X11_within ms_X11_within lk_X11_94 rfl rfl ⟨Nat.le_of_ble_eq_true rfl, Nat.le_of_ble_eq_true rfl, Nat.le_of_ble_eq_true rfl⟩ ?_
  refine vv_if_eq (tgt := 15) C dX11_parts_7 (by decide) (fun q7 => ?_) (fun q7 => ?_)
  · have w1 : vs_w n 2 1000000000 = false := vs_b0.mp q7
    refine vv_iconst C dX11_parts_15 ic_m1 ?_
    exact vs_iret C F dX11_parts_16 rfl ⟨by first | (rw [w1]; rfl) | (rw [decide_eq_false q12, Bool.and_false]; rfl), vs_fr.rf⟩
  · have hw : vs_w n 2 1000000000 = true := vs_b1.mp q7
    obtain ⟨k, k1, k2, k3⟩ := vs_wN (a := 2) (b := 1000000000) (by omega) (by omega) hw
    have w1 := hw
    subst k3
    refine vv_iload_n C dX11_parts_10 rfl ?_
    refine vv_iconst C dX11_parts_11 ic_m1 ?_
    refine vv_icmp_ge (tgt := 17) C dX11_parts_12 (by decide) (fun q12 => ?_) (fun q12 => ?_)
    · refine vv_aload_n C dX11_parts_17 rfl ?_
      refine gf_X11_numbers C dX11_parts_18 fg_X11_10 ?_
      refine vv_iload_n C dX11_parts_21 rfl ?_
      refine vs_calli C dX11_parts_22 (c_X3_listParts g S hS k (by omega) (by omega)) mb_X3_listParts mv_X3_listParts lk_X11_132 ce_1 rfl rfl rfl rfl ⟨Nat.le_of_ble_eq_true rfl, Nat.le_of_ble_eq_true rfl, Nat.le_of_ble_eq_true rfl⟩ (fun r22 S22 p22 => ?_)
      obtain ⟨e1, fa, e2, hf⟩ := p22
      subst e1 e2
      have hl32 := np_li_len (Q := np_xl) 32 k
      refine vw_istore_n (lv9 := [_, _, _, _]) C dX11_parts_25 (by decide) rfl rfl ?_
      refine vv_iload_n C dX11_parts_26 rfl ?_
      refine vv_iconst C dX11_parts_27 ic_m1 ?_
      refine vv_icmp_ne (tgt := 33) C dX11_parts_28 (by decide) (fun q28 => ?_) (fun q28 => ?_)
      · obtain ⟨j, hj, ej⟩ := xn_m1 q12 q28
        subst ej
        skip
        refine vv_iload_n C dX11_parts_33 rfl ?_
        refine vv_iload_n C dX11_parts_34 rfl ?_
        refine vv_icmp_ge (tgt := 49) C dX11_parts_35 (by decide) (fun q35 => ?_) (fun q35 => ?_)
        · have q35 := Int32.not_lt.mpr q35
          refine vv_iconst C dX11_parts_49 ic_m1 ?_
          first
          | exact vs_iret C F dX11_parts_50 rfl ⟨by rw [w1, decide_eq_true q12, if_pos vs_tt, xn_cl (by omega)]; unfold lw_pt; rw [if_neg q28, if_pos q35, xn_cl hj]; exact np_hasD hf hjl, vs_fr.rf.ua (by decide)⟩
          | exact vs_iret C F dX11_parts_50 rfl ⟨by rw [w1, decide_eq_true q12, if_pos vs_tt, xn_cl (by omega)]; unfold lw_pt; rw [if_neg q28, if_neg q35], vs_fr.rf.ua (by decide)⟩
        · have q35 := Int32.not_le.mp q35
          have hjl : j < (np_li np_xl 32 k).length := by rw [xn_lt (by omega) (by omega)] at q35; exact q35
          refine vv_aload_n C dX11_parts_38 rfl ?_
          refine gf_X11_numbers C dX11_parts_39 fg_X11_10 ?_
          refine vv_iload_n C dX11_parts_42 rfl ?_
          refine vs_caliF C dX11_parts_43 (c_X3_listed g _ j (by omega)) mb_X3_listed mv_X3_listed lk_X11_136 ce_1 rfl rfl rfl rfl ⟨Nat.le_of_ble_eq_true rfl, Nat.le_of_ble_eq_true rfl, Nat.le_of_ble_eq_true rfl⟩ ?_
          refine vv_goto (tgt := 50) C dX11_parts_46 (by decide) ?_
          first
          | exact vs_iret C F dX11_parts_50 rfl ⟨by rw [w1, decide_eq_true q12, if_pos vs_tt, xn_cl (by omega)]; unfold lw_pt; rw [if_neg q28, if_pos q35, xn_cl hj]; exact np_hasD hf hjl, vs_fr.rf.ua (by decide)⟩
          | exact vs_iret C F dX11_parts_50 rfl ⟨by rw [w1, decide_eq_true q12, if_pos vs_tt, xn_cl (by omega)]; unfold lw_pt; rw [if_neg q28, if_neg q35], vs_fr.rf.ua (by decide)⟩
      · subst q28
        refine vv_iload_n C dX11_parts_31 rfl ?_
        exact vs_iret C F dX11_parts_32 rfl ⟨by rw [w1, decide_eq_true q12, if_pos vs_tt, xn_cl (by omega)]; rfl, vs_fr.rf.ua (by decide)⟩
    · have w2 := q12
      refine vv_iconst C dX11_parts_15 ic_m1 ?_
      exact vs_iret C F dX11_parts_16 rfl ⟨by first | (rw [w1]; rfl) | (rw [decide_eq_false q12, Bool.and_false]; rfl), vs_fr.rf⟩
set_option maxRecDepth 20000 in
theorem c_X11_proof (g : vv_G) (S : vs_S) (hS : nx_ok S) (n : Int32) : vs_KI g yX11_proof cX11_proof 2 (some .int) 7 [vv_r g 0, .int n] S (fun r S1 => r = (if vs_w n 3 1000000000 = true then (if np_wx n.toNatClampNeg = true then np_fp (np_pg (np_li np_xl 32 (n.toNatClampNeg - 1)) n.toNatClampNeg) (n.toNatClampNeg - 2) 2 else -2) else -1) ∧ vs_fr [] [3] [] S S1) := by
  refine vs_ofI (lv := [_, _]) mb_X11_proof (Nat.le_of_ble_eq_true rfl) rfl (fun x C F => ?_)
  refine vv_iload_n C dX11_proof_0 rfl ?_
  refine vv_iconst C dX11_proof_1 ic_3 ?_
  refine vv_ldc C dX11_proof_2 kc_X11_131 ?_
  refine vs_calsiF C dX11_proof_4 (c_X11_within g S _ _ _) mb_X11_within ms_X11_within lk_X11_94 rfl rfl ⟨Nat.le_of_ble_eq_true rfl, Nat.le_of_ble_eq_true rfl, Nat.le_of_ble_eq_true rfl⟩ ?_
  refine vv_if_ne (tgt := 12) C dX11_proof_7 (by decide) (fun q7 => ?_) (fun q7 => ?_)
  · have hw : vs_w n 3 1000000000 = true := vs_b1.mp q7
    obtain ⟨k, k1, k2, k3⟩ := vs_wN (a := 3) (b := 1000000000) (by omega) (by omega) hw
    subst k3
    refine vv_aload_n C dX11_proof_12 rfl ?_
    refine gf_X11_numbers C dX11_proof_13 fg_X11_10 ?_
    refine vv_iload_n C dX11_proof_16 rfl ?_
    refine vs_calli C dX11_proof_17 (c_X3_leastProof g S hS k (by omega) (by omega)) mb_X3_leastProof mv_X3_leastProof lk_X11_139 ce_1 rfl rfl rfl rfl ⟨Nat.le_of_ble_eq_true rfl, Nat.le_of_ble_eq_true rfl, Nat.le_of_ble_eq_true rfl⟩ (fun r17 S17 p17 => ?_)
    obtain ⟨e1, fa, e2⟩ := p17
    subst e1 e2
    exact vs_iret C F dX11_proof_20 rfl ⟨by rw [if_pos hw, xn_cl (by omega)], vs_fr.rf.ua (by decide)⟩
  · refine vv_iconst C dX11_proof_10 ic_m1 ?_
    exact vs_iret C F dX11_proof_11 rfl ⟨by rw [show vs_w n 3 1000000000 = false from vs_b0.mp q7]; rfl, vs_fr.rf⟩
set_option maxRecDepth 20000 in
theorem c_X11_look (g : vv_G) (S : vs_S) (hS : nx_ok S) (n a : Int32) : vs_KI g yX11_look cX11_look 3 (some .int) 6 [vv_r g 0, .int n, .int a] S (fun r S1 => r = (if (vs_w n 3 1000000000 && vs_w a 2 (n - 1)) = true then vs_b (np_pg (np_li np_xl 32 (n.toNatClampNeg - 1)) n.toNatClampNeg a.toNatClampNeg) else -1) ∧ vs_fr [] [3] [] S S1) := by
  refine vs_ofI (lv := [_, _, _]) mb_X11_look (Nat.le_of_ble_eq_true rfl) rfl (fun x C F => ?_)
  refine vv_iload_n C dX11_look_0 rfl ?_
  refine vv_iconst C dX11_look_1 ic_3 ?_
  refine vv_ldc C dX11_look_2 kc_X11_131 ?_
  refine vs_calsiF C dX11_look_4 (c_X11_within g S _ _ _) mb_X11_within ms_X11_within lk_X11_94 rfl rfl ⟨Nat.le_of_ble_eq_true rfl, Nat.le_of_ble_eq_true rfl, Nat.le_of_ble_eq_true rfl⟩ ?_
  refine vv_if_eq (tgt := 21) C dX11_look_7 (by decide) (fun q7 => ?_) (fun q7 => ?_)
  · have w1 : vs_w n 3 1000000000 = false := vs_b0.mp q7
    refine vv_iconst C dX11_look_21 ic_m1 ?_
    exact vs_iret C F dX11_look_22 rfl ⟨by first | (rw [w1]; rfl) | (rw [w2, Bool.and_false]; rfl), vs_fr.rf⟩
  · have w1 : vs_w n 3 1000000000 = true := vs_b1.mp q7
    refine vv_iload_n C dX11_look_10 rfl ?_
    refine vv_iconst C dX11_look_11 ic_2 ?_
    refine vv_iload_n C dX11_look_12 rfl ?_
    refine vv_iconst C dX11_look_13 ic_1 ?_
    refine vv_isub C dX11_look_14 ?_
    refine vs_calsiF C dX11_look_15 (c_X11_within g S _ _ _) mb_X11_within ms_X11_within lk_X11_94 rfl rfl ⟨Nat.le_of_ble_eq_true rfl, Nat.le_of_ble_eq_true rfl, Nat.le_of_ble_eq_true rfl⟩ ?_
    refine vv_if_ne (tgt := 23) C dX11_look_18 (by decide) (fun q18 => ?_) (fun q18 => ?_)
    · have w2 : vs_w a 2 (n - 1) = true := vs_b1.mp q18
      obtain ⟨k, k1, k2, k3⟩ := vs_wN (a := 3) (b := 1000000000) (by omega) (by omega) w1
      subst k3
      have w3 := w2
      rw [show nI k - 1 = nI (k - 1) by rw [xn_lit, xn_sub (by omega)]] at w3
      obtain ⟨j, j1, j2, j3⟩ := vs_wN (a := 2) (by omega) (by omega) w3
      subst j3
      refine vv_aload_n C dX11_look_23 rfl ?_
      refine gf_X11_numbers C dX11_look_24 fg_X11_10 ?_
      refine vv_iload_n C dX11_look_27 rfl ?_
      refine vv_iload_n C dX11_look_28 rfl ?_
      refine vv_aload_n C dX11_look_29 rfl ?_
      refine gf_X11_numbers C dX11_look_30 fg_X11_10 ?_
      refine vv_iload_n C dX11_look_33 rfl ?_
      refine vv_iconst C dX11_look_34 ic_1 ?_
      refine vv_isub C dX11_look_35 ?_
      refine vs_eqi (v9 := nI (k - 1)) (by rw [xn_lit, xn_sub (by omega)]) ?_
      refine vs_calli C dX11_look_36 (c_X3_listParts g S hS (k - 1) (by omega) (by omega)) mb_X3_listParts mv_X3_listParts lk_X11_132 ce_1 rfl rfl rfl rfl ⟨Nat.le_of_ble_eq_true rfl, Nat.le_of_ble_eq_true rfl, Nat.le_of_ble_eq_true rfl⟩ (fun r36 S36 p36 => ?_)
      obtain ⟨e1, fa, e2, hf⟩ := p36
      subst e1 e2
      have hl32 := np_li_len (Q := np_xl) 32 (k - 1)
      have hent : np_ent (np_li np_xl 32 (k - 1)) k := fun x hx => np_li_ge (fun n h => np_xl_b h) 32 (k - 1) (by omega : k - 1 ≤ k) x hx
      refine vs_caliF C dX11_look_39 (c_X3_proves g (vs_ua S 3 fa) k j _ (by omega) (by omega) (by omega) hl32 hent hf) mb_X3_proves mv_X3_proves lk_X11_142 ce_1 rfl rfl rfl rfl ⟨Nat.le_of_ble_eq_true rfl, Nat.le_of_ble_eq_true rfl, Nat.le_of_ble_eq_true rfl⟩ ?_
      refine vv_if_eq (tgt := 49) C dX11_look_42 (by decide) (fun q42 => ?_) (fun q42 => ?_)
      · refine vv_iconst C dX11_look_49 ic_0 ?_
        exact vs_iret C F dX11_look_50 rfl ⟨by rw [w1, w2, if_pos vs_tt, xn_cl (by omega), xn_cl (by omega)]; first | (rw [vs_b0.mp q42]; rfl) | (rw [vs_b1.mp q42]; rfl), vs_fr.rf.ua (by decide)⟩
      · refine vv_iconst C dX11_look_45 ic_1 ?_
        refine vv_goto (tgt := 50) C dX11_look_46 (by decide) ?_
        exact vs_iret C F dX11_look_50 rfl ⟨by rw [w1, w2, if_pos vs_tt, xn_cl (by omega), xn_cl (by omega)]; first | (rw [vs_b0.mp q42]; rfl) | (rw [vs_b1.mp q42]; rfl), vs_fr.rf.ua (by decide)⟩
    · have w2 : vs_w a 2 (n - 1) = false := vs_b0.mp q18
      refine vv_iconst C dX11_look_21 ic_m1 ?_
      exact vs_iret C F dX11_look_22 rfl ⟨by first | (rw [w1]; rfl) | (rw [w2, Bool.and_false]; rfl), vs_fr.rf⟩
set_option maxRecDepth 20000 in
theorem c_X12_parts (g : vv_G) (S : vs_S) (n i : Int32) : vs_KI g yX12_parts cX12_parts 3 (some .int) 4 [vv_r g 65, .int n, .int i] S (fun r S1 => r = (if (vs_w n 2 1000000000 && decide (-1 ≤ i)) = true then lw_pt (np_li np_lp 32 n.toNatClampNeg) i else -1) ∧ vs_fr [25] [71] [] S S1) := by
  refine vs_ofI (lv := [_, _, _]) mb_X12_parts (Nat.le_of_ble_eq_true rfl) rfl (fun x C F => ?_)
  refine vv_iload_n C dX12_parts_0 rfl ?_
  refine vv_i2l C dX12_parts_1 ?_
  refine vv_ldc2 C dX12_parts_2 kc_X12_90 ?_
  refine vs_eql (v9 := (2 : Int32).toInt64) (by decide +kernel) ?_
  refine vv_ldc2 C dX12_parts_5 kc_X12_145 ?_
  refine vs_eql (v9 := (1000000000 : Int32).toInt64) (by decide +kernel) ?_
  refine vs_calsiF C dX12_parts_8 (c_X12_within g S _ _ _) mb_X12_within ms_X12_within lk_X12_123 rfl rfl ⟨Nat.le_of_ble_eq_true rfl, Nat.le_of_ble_eq_true rfl, Nat.le_of_ble_eq_true rfl⟩ ?_
  refine vv_if_eq (tgt := 19) C dX12_parts_11 (by decide) (fun q11 => ?_) (fun q11 => ?_)
  · have w1 : vs_w n 2 1000000000 = false := vs_b0.mp q11
    refine vv_iconst C dX12_parts_19 ic_m1 ?_
    exact vs_iret C F dX12_parts_20 rfl ⟨by first | (rw [w1]; rfl) | (rw [decide_eq_false q16, Bool.and_false]; rfl), vs_fr.rf⟩
  · have hw : vs_w n 2 1000000000 = true := vs_b1.mp q11
    obtain ⟨k, k1, k2, k3⟩ := vs_wN (a := 2) (b := 1000000000) (by omega) (by omega) hw
    have w1 := hw
    subst k3
    refine vv_iload_n C dX12_parts_14 rfl ?_
    refine vv_iconst C dX12_parts_15 ic_m1 ?_
    refine vv_icmp_ge (tgt := 21) C dX12_parts_16 (by decide) (fun q16 => ?_) (fun q16 => ?_)
    · refine vv_aload_n C dX12_parts_21 rfl ?_
      refine vv_iload_n C dX12_parts_22 rfl ?_
      refine vs_callv C dX12_parts_23 (c_X12_findParts g S k (by omega) (by omega)) mb_X12_findParts mv_X12_findParts lk_X12_147 ce_65 rfl rfl rfl rfl ⟨Nat.le_of_ble_eq_true rfl, Nat.le_of_ble_eq_true rfl, Nat.le_of_ble_eq_true rfl⟩ (fun S23 p23 => ?_)
      obtain ⟨fr, e1, hf⟩ := p23
      have hl32 := np_li_len (Q := np_lp) 32 k
      refine vv_iload_n C dX12_parts_26 rfl ?_
      refine vv_iconst C dX12_parts_27 ic_m1 ?_
      refine vv_icmp_ne (tgt := 38) C dX12_parts_28 (by decide) (fun q28 => ?_) (fun q28 => ?_)
      · obtain ⟨j, hj, ej⟩ := xn_m1 q16 q28
        subst ej
        refine vv_iload_n C dX12_parts_38 rfl ?_
        refine vv_aload_n C dX12_parts_39 rfl ?_
        refine gf_X12_partMany C dX12_parts_40 fg_X12_142 ?_
        refine vs_eqi (v9 := nI (np_li np_lp 32 k).length) (e1) ?_
        refine vv_icmp_ge (tgt := 55) C dX12_parts_43 (by decide) (fun q43 => ?_) (fun q43 => ?_)
        · have q43 := Int32.not_lt.mpr q43
          refine vv_iconst C dX12_parts_55 ic_m1 ?_
          first
          | exact vs_iret C F dX12_parts_56 rfl ⟨by rw [w1, decide_eq_true q16, if_pos vs_tt, xn_cl (by omega)]; unfold lw_pt; rw [if_neg q28, if_pos q43, xn_cl hj], fr⟩
          | exact vs_iret C F dX12_parts_56 rfl ⟨by rw [w1, decide_eq_true q16, if_pos vs_tt, xn_cl (by omega)]; unfold lw_pt; rw [if_neg q28, if_neg q43], fr⟩
          | exact vs_iret C F dX12_parts_56 rfl ⟨by rw [w1, decide_eq_true q16, if_pos vs_tt, xn_cl (by omega)]; rfl, fr⟩
        · have q43 := Int32.not_le.mp q43
          have hjl : j < (np_li np_lp 32 k).length := by rw [xn_lt (by omega) (by omega)] at q43; exact q43
          refine vv_aload_n C dX12_parts_46 rfl ?_
          refine gf_X12_partOf C dX12_parts_47 fg_X12_27 ?_
          refine vv_iload_n C dX12_parts_50 rfl ?_
          refine ld_71 C dX12_parts_51 (xn_in (by omega) (by omega)) ?_
          refine vs_eqi (v9 := nI ((np_li np_lp 32 k).getD j 0)) (by rw [xn_cl (by omega)]; exact np_hasD hf hjl) ?_
          refine vv_goto (tgt := 56) C dX12_parts_52 (by decide) ?_
          first
          | exact vs_iret C F dX12_parts_56 rfl ⟨by rw [w1, decide_eq_true q16, if_pos vs_tt, xn_cl (by omega)]; unfold lw_pt; rw [if_neg q28, if_pos q43, xn_cl hj], fr⟩
          | exact vs_iret C F dX12_parts_56 rfl ⟨by rw [w1, decide_eq_true q16, if_pos vs_tt, xn_cl (by omega)]; unfold lw_pt; rw [if_neg q28, if_neg q43], fr⟩
          | exact vs_iret C F dX12_parts_56 rfl ⟨by rw [w1, decide_eq_true q16, if_pos vs_tt, xn_cl (by omega)]; rfl, fr⟩
      · subst q28
        refine vv_aload_n C dX12_parts_31 rfl ?_
        refine gf_X12_partMany C dX12_parts_32 fg_X12_142 ?_
        refine vs_eqi (v9 := nI (np_li np_lp 32 k).length) (e1) ?_
        refine vv_goto (tgt := 56) C dX12_parts_35 (by decide) ?_
        first
        | exact vs_iret C F dX12_parts_56 rfl ⟨by rw [w1, decide_eq_true q16, if_pos vs_tt, xn_cl (by omega)]; unfold lw_pt; rw [if_neg q28, if_pos q43, xn_cl hj], fr⟩
        | exact vs_iret C F dX12_parts_56 rfl ⟨by rw [w1, decide_eq_true q16, if_pos vs_tt, xn_cl (by omega)]; unfold lw_pt; rw [if_neg q28, if_neg q43], fr⟩
        | exact vs_iret C F dX12_parts_56 rfl ⟨by rw [w1, decide_eq_true q16, if_pos vs_tt, xn_cl (by omega)]; rfl, fr⟩
    · refine vv_iconst C dX12_parts_19 ic_m1 ?_
      exact vs_iret C F dX12_parts_20 rfl ⟨by first | (rw [w1]; rfl) | (rw [decide_eq_false q16, Bool.and_false]; rfl), vs_fr.rf⟩
set_option maxRecDepth 20000 in
theorem c_X12_proof (g : vv_G) (S : vs_S) (hfl : vv_fl g = false) (hS : nm_ok S) (hPR : np_PR) (n : Int32) : vs_KI g yX12_proof cX12_proof 3 (some .int) 4 [vv_r g 65, .int n] S (fun r S1 => r = (if vs_w n 3 1000000000 = true then (if np_pr n.toNatClampNeg = true then np_fp (np_pg (np_li np_lp 32 (n.toNatClampNeg - 1)) n.toNatClampNeg) (n.toNatClampNeg - 2) 2 else -2) else -1) ∧ vs_fr [24, 25] [70, 71] [] S S1 ∧ nm_ok S1) := by
  refine vs_ofI (lv := [_, _, _]) mb_X12_proof (Nat.le_of_ble_eq_true rfl) rfl (fun x C F => ?_)
  refine vv_iload_n C dX12_proof_0 rfl ?_
  refine vv_i2l C dX12_proof_1 ?_
  refine vv_ldc2 C dX12_proof_2 kc_X12_92 ?_
  refine vs_eql (v9 := (3 : Int32).toInt64) (by decide +kernel) ?_
  refine vv_ldc2 C dX12_proof_5 kc_X12_145 ?_
  refine vs_eql (v9 := (1000000000 : Int32).toInt64) (by decide +kernel) ?_
  refine vs_calsiF C dX12_proof_8 (c_X12_within g S _ _ _) mb_X12_within ms_X12_within lk_X12_123 rfl rfl ⟨Nat.le_of_ble_eq_true rfl, Nat.le_of_ble_eq_true rfl, Nat.le_of_ble_eq_true rfl⟩ ?_
  refine vv_if_ne (tgt := 16) C dX12_proof_11 (by decide) (fun q11 => ?_) (fun q11 => ?_)
  · have hw : vs_w n 3 1000000000 = true := vs_b1.mp q11
    obtain ⟨k, k1, k2, k3⟩ := vs_wN (a := 3) (b := 1000000000) (by omega) (by omega) hw
    subst k3
    refine vv_aload_n C dX12_proof_16 rfl ?_
    refine vv_iload_n C dX12_proof_17 rfl ?_
    refine vv_i2l C dX12_proof_18 ?_
    refine vs_eql (v9 := lN k) (xn_i2l (by omega)) ?_
    refine vs_calli C dX12_proof_19 (c_X12_isWhole g S hfl hS k (by omega)) mb_X12_isWhole mv_X12_isWhole lk_X12_111 ce_65 rfl rfl rfl rfl ⟨Nat.le_of_ble_eq_true rfl, Nat.le_of_ble_eq_true rfl, Nat.le_of_ble_eq_true rfl⟩ (fun r19 S19 p19 => ?_)
    obtain ⟨e0, t19⟩ := p19
    subst e0
    refine vv_if_ne (tgt := 28) C dX12_proof_22 (by decide) (fun q22 => ?_) (fun q22 => ?_)
    · have hp := vs_b1.mp q22
      obtain ⟨a0, a1, a2, a3⟩ := hPR k k1 k2 hp
      refine vv_aload_n C dX12_proof_28 rfl ?_
      refine vv_iload_n C dX12_proof_29 rfl ?_
      refine vv_iconst C dX12_proof_30 ic_1 ?_
      refine vv_isub C dX12_proof_31 ?_
      refine vs_eqi (v9 := nI (k - 1)) (by rw [xn_lit, xn_sub (by omega)]) ?_
      refine vs_callv C dX12_proof_32 (c_X12_findParts g S19 (k - 1) (by omega) (by omega)) mb_X12_findParts mv_X12_findParts lk_X12_147 ce_65 rfl rfl rfl rfl ⟨Nat.le_of_ble_eq_true rfl, Nat.le_of_ble_eq_true rfl, Nat.le_of_ble_eq_true rfl⟩ (fun S32 p32 => ?_)
      obtain ⟨fr, e1, hf⟩ := p32
      have hl32 := np_li_len (Q := np_lp) 32 (k - 1)
      have hent : np_ent (np_li np_lp 32 (k - 1)) k := fun x hx => np_li_ge (fun n h => np_lp_b h) 32 (k - 1) (by omega : k - 1 ≤ k) x hx
      have frm : vs_fr [24, 25] [70, 71] [] S S32 ∧ nm_ok S32 := ⟨(t19.1.wd (by decide) (by decide) (by decide)).tr (fr.wd (by decide) (by decide) (by decide)), nm_ok_of t19.2 (fr.1 24 (by decide)) (fr.2.1 70 (by decide))⟩
      generalize hll : (np_li np_lp 32 (k - 1)) = l at hl32 hent hf a3 e1
      have loop : ∀ (f a : Nat), a + f = k → 2 ≤ a → (∃ b, a ≤ b ∧ b < k ∧ np_pg l k b = true) → np_fp (np_pg l k) f a = np_fp (np_pg l k) (k - 2) 2 → vv_V g x 3 0 0 37 [some (vv_r g 65), some (.int (nI k)), some (.int (nI a))] [] (vs_cells g S32) := by
        intro f
        induction f with
        | zero =>
          intro a h1 h2 h3 he
          obtain ⟨b, b1, b2, b3⟩ := h3
          omega
        | succ f ih =>
          intro a h1 h2 h3 he
          rw [np_fp1] at he
          refine vv_aload_n C dX12_proof_37 rfl ?_
          refine vv_iload_n C dX12_proof_38 rfl ?_
          refine vv_iload_n C dX12_proof_39 rfl ?_
          refine vs_caliF C dX12_proof_40 (c_X12_isProof g S32 k a l (by omega) (by omega) (by omega) hl32 hent hf e1) mb_X12_isProof mv_X12_isProof lk_X12_155 ce_65 rfl rfl rfl rfl ⟨Nat.le_of_ble_eq_true rfl, Nat.le_of_ble_eq_true rfl, Nat.le_of_ble_eq_true rfl⟩ ?_
          refine vv_if_ne (tgt := 52) C dX12_proof_43 (by decide) (fun q43 => ?_) (fun q43 => ?_)
          · rw [if_pos (vs_b1.mp q43)] at he
            refine vv_iload_n C dX12_proof_52 rfl ?_
            exact vs_iret C F dX12_proof_53 rfl ⟨by rw [if_pos hw, xn_cl (by omega), hp, if_pos rfl, hll, ← he], frm⟩
          · rw [if_neg (by rw [vs_b0.mp q43]; decide)] at he
            refine vw_iinc (lv9 := [_, _, _]) C dX12_proof_46 rfl ic_1 (by decide) rfl rfl ?_
            refine vv_goto (tgt := 37) C dX12_proof_49 (by decide) ?_
            rw [nI_1]
            refine ih (a + 1) (by omega) (by omega) ?_ he
            obtain ⟨b, b1, b2, b3⟩ := h3
            refine ⟨b, ?_, b2, b3⟩
            by_cases z : b = a
            · rw [z, vs_b0.mp q43] at b3; cases b3
            · omega
      refine vv_iconst C dX12_proof_35 ic_2 ?_
      refine vw_istore_n (lv9 := [_, _, _]) C dX12_proof_36 (by decide) rfl rfl ?_
      exact loop (k - 2) 2 (by omega) (Nat.le_refl _) ⟨a0, a1, a2, a3⟩ rfl
    · have hp := vs_b0.mp q22
      refine vv_bipush C dX12_proof_25 bp_m2 ?_
      exact vs_iret C F dX12_proof_27 rfl ⟨by rw [if_pos hw, xn_cl (by omega), hp]; rfl, t19.1.wd (by decide) (by decide) (by decide), t19.2⟩
  · refine vv_iconst C dX12_proof_14 ic_m1 ?_
    exact vs_iret C F dX12_proof_15 rfl ⟨by rw [show vs_w n 3 1000000000 = false from vs_b0.mp q11]; rfl, vs_fr.rf, hS⟩
set_option maxRecDepth 20000 in
theorem c_X12_look (g : vv_G) (S : vs_S) (n a : Int32) : vs_KI g yX12_look cX12_look 3 (some .int) 4 [vv_r g 65, .int n, .int a] S (fun r S1 => r = (if (vs_w n 3 1000000000 && vs_w a 2 (n - 1)) = true then vs_b (np_pg (np_li np_lp 32 (n.toNatClampNeg - 1)) n.toNatClampNeg a.toNatClampNeg) else -1) ∧ vs_fr [25] [71] [] S S1) := by
  refine vs_ofI (lv := [_, _, _]) mb_X12_look (Nat.le_of_ble_eq_true rfl) rfl (fun x C F => ?_)
  refine vv_iload_n C dX12_look_0 rfl ?_
  refine vv_i2l C dX12_look_1 ?_
  refine vv_ldc2 C dX12_look_2 kc_X12_92 ?_
  refine vs_eql (v9 := (3 : Int32).toInt64) (by decide +kernel) ?_
  refine vv_ldc2 C dX12_look_5 kc_X12_145 ?_
  refine vs_eql (v9 := (1000000000 : Int32).toInt64) (by decide +kernel) ?_
  refine vs_calsiF C dX12_look_8 (c_X12_within g S _ _ _) mb_X12_within ms_X12_within lk_X12_123 rfl rfl ⟨Nat.le_of_ble_eq_true rfl, Nat.le_of_ble_eq_true rfl, Nat.le_of_ble_eq_true rfl⟩ ?_
  refine vv_if_eq (tgt := 29) C dX12_look_11 (by decide) (fun q11 => ?_) (fun q11 => ?_)
  · have w1 : vs_w n 3 1000000000 = false := vs_b0.mp q11
    refine vv_iconst C dX12_look_29 ic_m1 ?_
    exact vs_iret C F dX12_look_30 rfl ⟨by first | (rw [w1]; rfl) | (rw [w2, Bool.and_false]; rfl), vs_fr.rf⟩
  · have w1 : vs_w n 3 1000000000 = true := vs_b1.mp q11
    refine vv_iload_n C dX12_look_14 rfl ?_
    refine vv_i2l C dX12_look_15 ?_
    refine vv_ldc2 C dX12_look_16 kc_X12_90 ?_
    refine vs_eql (v9 := (2 : Int32).toInt64) (by decide +kernel) ?_
    refine vv_iload_n C dX12_look_19 rfl ?_
    refine vv_iconst C dX12_look_20 ic_1 ?_
    refine vv_isub C dX12_look_21 ?_
    refine vv_i2l C dX12_look_22 ?_
    refine vs_calsiF C dX12_look_23 (c_X12_within g S _ _ _) mb_X12_within ms_X12_within lk_X12_123 rfl rfl ⟨Nat.le_of_ble_eq_true rfl, Nat.le_of_ble_eq_true rfl, Nat.le_of_ble_eq_true rfl⟩ ?_
    refine vv_if_ne (tgt := 31) C dX12_look_26 (by decide) (fun q26 => ?_) (fun q26 => ?_)
    · have w2 : vs_w a 2 (n - 1) = true := vs_b1.mp q26
      obtain ⟨k, k1, k2, k3⟩ := vs_wN (a := 3) (b := 1000000000) (by omega) (by omega) w1
      subst k3
      have w3 := w2
      rw [show nI k - 1 = nI (k - 1) by rw [xn_lit, xn_sub (by omega)]] at w3
      obtain ⟨j, j1, j2, j3⟩ := vs_wN (a := 2) (by omega) (by omega) w3
      subst j3
      refine vv_aload_n C dX12_look_31 rfl ?_
      refine vv_iload_n C dX12_look_32 rfl ?_
      refine vv_iconst C dX12_look_33 ic_1 ?_
      refine vv_isub C dX12_look_34 ?_
      refine vs_eqi (v9 := nI (k - 1)) (by rw [xn_lit, xn_sub (by omega)]) ?_
      refine vs_callv C dX12_look_35 (c_X12_findParts g S (k - 1) (by omega) (by omega)) mb_X12_findParts mv_X12_findParts lk_X12_147 ce_65 rfl rfl rfl rfl ⟨Nat.le_of_ble_eq_true rfl, Nat.le_of_ble_eq_true rfl, Nat.le_of_ble_eq_true rfl⟩ (fun S35 p35 => ?_)
      obtain ⟨fr, e1, hf⟩ := p35
      have hl32 := np_li_len (Q := np_lp) 32 (k - 1)
      have hent : np_ent (np_li np_lp 32 (k - 1)) k := fun x hx => np_li_ge (fun n h => np_lp_b h) 32 (k - 1) (by omega : k - 1 ≤ k) x hx
      refine vv_aload_n C dX12_look_38 rfl ?_
      refine vv_iload_n C dX12_look_39 rfl ?_
      refine vv_iload_n C dX12_look_40 rfl ?_
      refine vs_caliF C dX12_look_41 (c_X12_isProof g S35 k j _ (by omega) (by omega) (by omega) hl32 hent hf e1) mb_X12_isProof mv_X12_isProof lk_X12_155 ce_65 rfl rfl rfl rfl ⟨Nat.le_of_ble_eq_true rfl, Nat.le_of_ble_eq_true rfl, Nat.le_of_ble_eq_true rfl⟩ ?_
      refine vv_if_eq (tgt := 51) C dX12_look_44 (by decide) (fun q44 => ?_) (fun q44 => ?_)
      · refine vv_iconst C dX12_look_51 ic_0 ?_
        exact vs_iret C F dX12_look_52 rfl ⟨by rw [w1, w2, if_pos vs_tt, xn_cl (by omega), xn_cl (by omega)]; first | (rw [vs_b0.mp q44]; rfl) | (rw [vs_b1.mp q44]; rfl), fr⟩
      · refine vv_iconst C dX12_look_47 ic_1 ?_
        refine vv_goto (tgt := 52) C dX12_look_48 (by decide) ?_
        exact vs_iret C F dX12_look_52 rfl ⟨by rw [w1, w2, if_pos vs_tt, xn_cl (by omega), xn_cl (by omega)]; first | (rw [vs_b0.mp q44]; rfl) | (rw [vs_b1.mp q44]; rfl), fr⟩
    · have w2 : vs_w a 2 (n - 1) = false := vs_b0.mp q26
      refine vv_iconst C dX12_look_29 ic_m1 ?_
      exact vs_iret C F dX12_look_30 rfl ⟨by first | (rw [w1]; rfl) | (rw [w2, Bool.and_false]; rfl), vs_fr.rf⟩
