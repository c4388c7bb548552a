/-! FEED -/
def fb (v : Int32) (i : Nat) : Int32 := (v >>> (nI (8 * i) &&& 31)) &&& 255
def k_fd (L : Nat) (B : Nat → Int32) (n v : Int32) : Int32 × Nat × (Nat → Int32) := if vs_w n 1 4 = true then (if 120 < L + n.toNatClampNeg then (-3, L, B) else (nI (L + n.toNatClampNeg), L + n.toNatClampNeg, fun p => if p < L then B p else fb v (p - L))) else (-1, L, B)
def tpM (S : vs_S) (L : Nat) (B : Nat → Int32) : Prop := S.1 27 = nI L ∧ L ≤ 120 ∧ ∀ i, i < L → S.2.1 76 i = B i
theorem tpM.fr {S S1 : vs_S} {L : Nat} {B : Nat → Int32} {ks is js : List Nat} (h : tpM S L B) (f : vs_fr ks is js S S1) (h1 : 27 ∉ ks) (h2 : 76 ∉ is) : tpM S1 L B := ⟨(f.1 27 h1).trans h.1, h.2.1, fun i hi => by rw [f.2.1 76 h2]; exact h.2.2 i hi⟩
theorem nI_pl {a b : Nat} : nI a + nI b = nI (a + b) := nI_add a b

set_option maxRecDepth 20000 in
theorem c_X6_feedBytes (g : vv_G) (S : vs_S) (L : Nat) (B : Nat → Int32) (hT : tp S L B) (k : Nat) (hk1 : 1 ≤ k) (hk4 : k ≤ 4) (hw : vs_w (nI k) 1 4 = true) (v : Int32) : vs_KI g yX6_feedBytes cX6_feedBytes 4 (some .int) 1 [vv_r g 48, .int (nI k), .int v] S (fun r S1 => r = (k_fd L B (nI k) v).1 ∧ tp S1 (k_fd L B (nI k) v).2.1 (k_fd L B (nI k) v).2.2 ∧ vs_fr [14] [49] [] S S1) := by
  have hL := hT.2.1
  refine vs_ofI (lv := [_, _, _, _]) mb_X6_feedBytes (Nat.le_of_ble_eq_true rfl) rfl (fun x C F => ?_)
  refine vv_aload_n C dX6_feedBytes_0 rfl ?_
  refine gf_X6_length C dX6_feedBytes_1 fg_X6_18 ?_
  refine vs_eqi (v9 := nI L) (hT.1) ?_
  refine vv_iload_n C dX6_feedBytes_4 rfl ?_
  refine vv_iadd C dX6_feedBytes_5 ?_
  refine vs_eqi (v9 := nI (L + k)) (nI_add _ _) ?_
  refine vv_bipush C dX6_feedBytes_6 bp_120 ?_
  refine vv_icmp_le (tgt := 14) C dX6_feedBytes_8 (by decide) (fun q8 => ?_) (fun q8 => ?_)
  · have hle : L + k ≤ 120 := by rw [xn_lit, xn_le (by omega) (by omega)] at q8; exact q8
    have hv : k_fd L B (nI k) v = (nI (L + k), L + k, fun p => if p < L then B p else fb v (p - L)) := by unfold k_fd; rw [if_pos hw, xn_cl (n := k) (by omega), if_neg (by omega)]
    refine vv_iconst C dX6_feedBytes_14 ic_0 ?_
    refine vw_istore_n (lv9 := [_, _, _, _]) C dX6_feedBytes_15 (by decide) rfl rfl ?_
    have loop : ∀ (f i : Nat) (S1 : vs_S), i + f = k → vs_fr [14] [49] [] S S1 → S1.1 14 = nI (L + i) → (∀ p, p < L + i → S1.2.1 49 p = if p < L then B p else fb v (p - L)) → vv_V g x 4 0 0 16 [some (vv_r g 48), some (.int (nI k)), some (.int v), some (.int (nI i))] [] (vs_cells g S1) := by
      intro f
      induction f with
      | zero =>
        intro i S1 hi hf h14 hf1
        have e4 : k = i := by omega
        subst e4
        refine vv_iload_n C dX6_feedBytes_16 rfl ?_
        refine vv_iload_n C dX6_feedBytes_17 rfl ?_
        refine vv_icmp_ge (tgt := 56) C dX6_feedBytes_18 (by decide) (fun q18 => ?_) (fun q18 => ?_)
        · skip
          refine vv_aload_n C dX6_feedBytes_56 rfl ?_
          refine gf_X6_length C dX6_feedBytes_57 fg_X6_18 ?_
          refine vs_eqi (v9 := nI (L + k)) (h14) ?_
          exact vs_iret C F dX6_feedBytes_60 rfl ⟨by rw [hv], by rw [hv]; exact ⟨h14, by omega, fun p hp => hf1 p (by omega)⟩, hf⟩
        · exact absurd (Int32.le_refl _) q18
      | succ f ih =>
        intro i S1 hi hf h14 hf1
        refine vv_iload_n C dX6_feedBytes_16 rfl ?_
        refine vv_iload_n C dX6_feedBytes_17 rfl ?_
        refine vv_icmp_ge (tgt := 56) C dX6_feedBytes_18 (by decide) (fun q18 => ?_) (fun q18 => ?_)
        · exact absurd q18 (by rw [xn_le (by omega) (by omega)]; omega)
        · skip
          refine vv_aload_n C dX6_feedBytes_21 rfl ?_
          refine gf_X6_tape C dX6_feedBytes_22 fg_X6_11 ?_
          refine vv_aload_n C dX6_feedBytes_25 rfl ?_
          refine gf_X6_length C dX6_feedBytes_26 fg_X6_18 ?_
          refine vs_eqi (v9 := nI (L + i)) (h14) ?_
          refine vv_iload_n C dX6_feedBytes_29 rfl ?_
          refine vv_bipush C dX6_feedBytes_30 bp_8 ?_
          refine vv_iload_n C dX6_feedBytes_32 rfl ?_
          refine vv_imul C dX6_feedBytes_33 ?_
          refine vs_eqi (v9 := nI (8 * i)) (by rw [xn_lit, xn_mul]) ?_
          refine vv_ishr C dX6_feedBytes_34 ?_
          refine vv_sipush C dX6_feedBytes_35 sp_255 ?_
          refine vv_iand C dX6_feedBytes_38 ?_
          refine vs_eqi (v9 := fb v i) (rfl) ?_
          refine st_49 C dX6_feedBytes_39 (xn_in (by omega) (by omega)) ?_
          refine vv_aload_n C dX6_feedBytes_40 rfl ?_
          refine vv_dup C dX6_feedBytes_41 rfl ?_
          refine gf_X6_length C dX6_feedBytes_42 fg_X6_18 ?_
          refine vs_eqi (v9 := nI (L + i)) (h14) ?_
          refine vv_iconst C dX6_feedBytes_45 ic_1 ?_
          refine vv_iadd C dX6_feedBytes_46 ?_
          refine vs_eqi (v9 := nI (L + i + 1)) (nI_1 _) ?_
          refine pf_X6_length C dX6_feedBytes_47 fp_X6_18 ?_
          refine vw_iinc (lv9 := [_, _, _, _]) C dX6_feedBytes_50 rfl ic_1 (by decide) rfl rfl ?_
          refine vv_goto (tgt := 16) C dX6_feedBytes_53 (by decide) ?_
          rw [nI_1]
          refine ih (i + 1) _ (by omega) ((hf.ua (by decide)).us (by decide)) rfl (fun p hp => ?_)
          show upd (S1.2.1 49) (nI (L + i)).toNatClampNeg (fb v i) p = _
          rw [xn_cl (by omega), xn_upd (α := Nat)]
          by_cases z : p = L + i
          · rw [if_pos z, if_neg (by omega), show p - L = i by omega]
          · rw [if_neg z]
            exact hf1 p (by omega)
    exact loop k 0 S (by omega) vs_fr.rf (by rw [hT.1]; rfl) (fun p hp => by rw [if_pos (by omega)]; exact hT.2.2 p (by omega))
  · have hgt : 120 < L + k := by rw [xn_lit, xn_le (by omega) (by omega)] at q8; omega
    have hv : k_fd L B (nI k) v = (-3, L, B) := by unfold k_fd; rw [if_pos hw, xn_cl (n := k) (by omega), if_pos hgt]
    refine vv_bipush C dX6_feedBytes_11 bp_m3 ?_
    exact vs_iret C F dX6_feedBytes_13 rfl ⟨by rw [hv], by rw [hv]; exact hT, vs_fr.rf⟩
set_option maxRecDepth 20000 in
theorem c_X11_feed (g : vv_G) (S : vs_S) (L : Nat) (B : Nat → Int32) (hT : tp S L B) (n v : Int32) : vs_KI g yX11_feed cX11_feed 3 (some .int) 2 [vv_r g 0, .int n, .int v] S (fun r S1 => r = (k_fd L B n v).1 ∧ tp S1 (k_fd L B n v).2.1 (k_fd L B n v).2.2 ∧ vs_fr [14] [49] [] S S1) := by
  refine vs_ofI (lv := [_, _, _]) mb_X11_feed (Nat.le_of_ble_eq_true rfl) rfl (fun x C F => ?_)
  refine vv_iload_n C dX11_feed_0 rfl ?_
  refine vv_iconst C dX11_feed_1 ic_1 ?_
  refine vv_iconst C dX11_feed_2 ic_4 ?_
  refine vs_calsiF C dX11_feed_3 (c_X11_within g S _ _ _) mb_X11_within ms_X11_within lk_X11_94 rfl rfl ⟨Nat.le_of_ble_eq_true rfl, Nat.le_of_ble_eq_true rfl, Nat.le_of_ble_eq_true rfl⟩ ?_
  refine vv_if_ne (tgt := 11) C dX11_feed_6 (by decide) (fun q6 => ?_) (fun q6 => ?_)
  · have hw : vs_w n 1 4 = true := vs_b1.mp q6
    obtain ⟨k, hk1, hk4, ek⟩ := vs_wN (a := 1) (b := 4) (by omega) (by omega) hw
    subst ek
    refine vv_aload_n C dX11_feed_11 rfl ?_
    refine gf_X11_reader C dX11_feed_12 fg_X11_74 ?_
    refine vv_iload_n C dX11_feed_15 rfl ?_
    refine vv_iload_n C dX11_feed_16 rfl ?_
    refine vs_calli C dX11_feed_17 (c_X6_feedBytes g S L B hT k hk1 hk4 hw v) mb_X6_feedBytes mv_X6_feedBytes lk_X11_188 ce_48 rfl rfl rfl rfl ⟨Nat.le_of_ble_eq_true rfl, Nat.le_of_ble_eq_true rfl, Nat.le_of_ble_eq_true rfl⟩ (fun r17 S17 p17 => ?_)
    exact vs_iret C F dX11_feed_20 rfl p17
  · have hv : k_fd L B n v = (-1, L, B) := by unfold k_fd; rw [show vs_w n 1 4 = false from vs_b0.mp q6]; rfl
    refine vv_iconst C dX11_feed_9 ic_m1 ?_
    exact vs_iret C F dX11_feed_10 rfl ⟨by rw [hv], by rw [hv]; exact hT, vs_fr.rf⟩
set_option maxRecDepth 20000 in
theorem c_X12_feed (g : vv_G) (S : vs_S) (L : Nat) (B : Nat → Int32) (hT : tpM S L B) (n v : Int32) : vs_KI g yX12_feed cX12_feed 4 (some .int) 2 [vv_r g 65, .int n, .int v] S (fun r S1 => r = (k_fd L B n v).1 ∧ tpM S1 (k_fd L B n v).2.1 (k_fd L B n v).2.2 ∧ vs_fr [27] [76] [] S S1) := by
  have hL := hT.2.1
  refine vs_ofI (lv := [_, _, _, _]) mb_X12_feed (Nat.le_of_ble_eq_true rfl) rfl (fun x C F => ?_)
  refine vv_iload_n C dX12_feed_0 rfl ?_
  refine vv_i2l C dX12_feed_1 ?_
  refine vv_lconst C dX12_feed_2 lc_1 ?_
  refine vs_eql (v9 := (1 : Int32).toInt64) (by decide +kernel) ?_
  refine vv_ldc2 C dX12_feed_3 kc_X12_115 ?_
  refine vs_eql (v9 := (4 : Int32).toInt64) (by decide +kernel) ?_
  refine vs_calsiF C dX12_feed_6 (c_X12_within g S _ _ _) mb_X12_within ms_X12_within lk_X12_123 rfl rfl ⟨Nat.le_of_ble_eq_true rfl, Nat.le_of_ble_eq_true rfl, Nat.le_of_ble_eq_true rfl⟩ ?_
  refine vv_if_ne (tgt := 14) C dX12_feed_9 (by decide) (fun q9 => ?_) (fun q9 => ?_)
  · have hw : vs_w n 1 4 = true := vs_b1.mp q9
    obtain ⟨k, hk1, hk4, ek⟩ := vs_wN (a := 1) (b := 4) (by omega) (by omega) hw
    subst ek
    refine vv_aload_n C dX12_feed_14 rfl ?_
    refine gf_X12_tapeMany C dX12_feed_15 fg_X12_207 ?_
    refine vs_eqi (v9 := nI L) (hT.1) ?_
    refine vv_iload_n C dX12_feed_18 rfl ?_
    refine vv_iadd C dX12_feed_19 ?_
    refine vs_eqi (v9 := nI (L + k)) (nI_add _ _) ?_
    refine vv_bipush C dX12_feed_20 bp_120 ?_
    refine vv_icmp_le (tgt := 28) C dX12_feed_22 (by decide) (fun q22 => ?_) (fun q22 => ?_)
    · have hle : L + k ≤ 120 := by rw [xn_lit, xn_le (by omega) (by omega)] at q22; exact q22
      have hv : k_fd L B (nI k) v = (nI (L + k), L + k, fun p => if p < L then B p else fb v (p - L)) := by unfold k_fd; rw [if_pos hw, xn_cl (n := k) (by omega), if_neg (by omega)]
      refine vv_iconst C dX12_feed_28 ic_0 ?_
      refine vw_istore_n (lv9 := [_, _, _, _]) C dX12_feed_29 (by decide) rfl rfl ?_
      have loop : ∀ (f i : Nat) (S1 : vs_S), i + f = k → vs_fr [27] [76] [] S S1 → S1.1 27 = nI (L + i) → (∀ p, p < L + i → S1.2.1 76 p = if p < L then B p else fb v (p - L)) → vv_V g x 4 0 0 30 [some (vv_r g 65), some (.int (nI k)), some (.int v), some (.int (nI i))] [] (vs_cells g S1) := by
        intro f
        induction f with
        | zero =>
          intro i S1 hi hf h14 hf1
          have e4 : k = i := by omega
          subst e4
          refine vv_iload_n C dX12_feed_30 rfl ?_
          refine vv_iload_n C dX12_feed_31 rfl ?_
          refine vv_icmp_ge (tgt := 70) C dX12_feed_32 (by decide) (fun q32 => ?_) (fun q32 => ?_)
          · skip
            refine vv_aload_n C dX12_feed_70 rfl ?_
            refine gf_X12_tapeMany C dX12_feed_71 fg_X12_207 ?_
            refine vs_eqi (v9 := nI (L + k)) (h14) ?_
            exact vs_iret C F dX12_feed_74 rfl ⟨by rw [hv], by rw [hv]; exact ⟨h14, by omega, fun p hp => hf1 p (by omega)⟩, hf⟩
          · exact absurd (Int32.le_refl _) q32
        | succ f ih =>
          intro i S1 hi hf h14 hf1
          refine vv_iload_n C dX12_feed_30 rfl ?_
          refine vv_iload_n C dX12_feed_31 rfl ?_
          refine vv_icmp_ge (tgt := 70) C dX12_feed_32 (by decide) (fun q32 => ?_) (fun q32 => ?_)
          · exact absurd q32 (by rw [xn_le (by omega) (by omega)]; omega)
          · skip
            refine vv_aload_n C dX12_feed_35 rfl ?_
            refine gf_X12_tape C dX12_feed_36 fg_X12_44 ?_
            refine vv_aload_n C dX12_feed_39 rfl ?_
            refine gf_X12_tapeMany C dX12_feed_40 fg_X12_207 ?_
            refine vs_eqi (v9 := nI (L + i)) (h14) ?_
            refine vv_iload_n C dX12_feed_43 rfl ?_
            refine vv_bipush C dX12_feed_44 bp_8 ?_
            refine vv_iload_n C dX12_feed_46 rfl ?_
            refine vv_imul C dX12_feed_47 ?_
            refine vs_eqi (v9 := nI (8 * i)) (by rw [xn_lit, xn_mul]) ?_
            refine vv_ishr C dX12_feed_48 ?_
            refine vv_sipush C dX12_feed_49 sp_255 ?_
            refine vv_iand C dX12_feed_52 ?_
            refine vs_eqi (v9 := fb v i) (rfl) ?_
            refine st_76 C dX12_feed_53 (xn_in (by omega) (by omega)) ?_
            refine vv_aload_n C dX12_feed_54 rfl ?_
            refine vv_dup C dX12_feed_55 rfl ?_
            refine gf_X12_tapeMany C dX12_feed_56 fg_X12_207 ?_
            refine vs_eqi (v9 := nI (L + i)) (h14) ?_
            refine vv_iconst C dX12_feed_59 ic_1 ?_
            refine vv_iadd C dX12_feed_60 ?_
            refine vs_eqi (v9 := nI (L + i + 1)) (nI_1 _) ?_
            refine pf_X12_tapeMany C dX12_feed_61 fp_X12_207 ?_
            refine vw_iinc (lv9 := [_, _, _, _]) C dX12_feed_64 rfl ic_1 (by decide) rfl rfl ?_
            refine vv_goto (tgt := 30) C dX12_feed_67 (by decide) ?_
            rw [nI_1]
            refine ih (i + 1) _ (by omega) ((hf.ua (by decide)).us (by decide)) rfl (fun p hp => ?_)
            show upd (S1.2.1 76) (nI (L + i)).toNatClampNeg (fb v i) p = _
            rw [xn_cl (by omega), xn_upd (α := Nat)]
            by_cases z : p = L + i
            · rw [if_pos z, if_neg (by omega), show p - L = i by omega]
            · rw [if_neg z]
              exact hf1 p (by omega)
      exact loop k 0 S (by omega) vs_fr.rf (by rw [hT.1]; rfl) (fun p hp => by rw [if_pos (by omega)]; exact hT.2.2 p (by omega))
    · have hgt : 120 < L + k := by rw [xn_lit, xn_le (by omega) (by omega)] at q22; omega
      have hv : k_fd L B (nI k) v = (-3, L, B) := by unfold k_fd; rw [if_pos hw, xn_cl (n := k) (by omega), if_pos hgt]
      refine vv_bipush C dX12_feed_25 bp_m3 ?_
      exact vs_iret C F dX12_feed_27 rfl ⟨by rw [hv], by rw [hv]; exact hT, vs_fr.rf⟩
  · have hv : k_fd L B n v = (-1, L, B) := by unfold k_fd; rw [show vs_w n 1 4 = false from vs_b0.mp q9]; rfl
    refine vv_iconst C dX12_feed_12 ic_m1 ?_
    exact vs_iret C F dX12_feed_13 rfl ⟨by rw [hv], by rw [hv]; exact hT, vs_fr.rf⟩
