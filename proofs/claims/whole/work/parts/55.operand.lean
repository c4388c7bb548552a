theorem pOk_RO {L : Nat} {B : Nat → Int32} (r j p : Nat) (hp : p ≤ L) : pOk L p (pzR (pzO (ah L B) r) (ah L B) j p) := pOk_R ah_bl (pOk_O ah_bl r) j p hp
theorem pOk_OA {L : Nat} {B : Nat → Int32} (r p : Nat) (hp : p ≤ L) : pOk L p (pzO (ah L B) r p) := pOk_O ah_bl r p hp
set_option maxRecDepth 20000 in
theorem c_X6_readOperand0 (g : vv_G) (S : vs_S) (L : Nat) (B : Nat → Int32) (hT : tp S L B) (p : Nat) (hp : p ≤ L) (c : List Int32) (hr : rX S p c) : vs_KV g yX6_readOperand cX6_readOperand 3 none 3 [vv_r g 48, .int (nI (6 - 0))] S (fun S1 => pX S S1 c (pzO (ah L B) 0 p)) := by
  have hL := hT.2.1
  have hcl := hr.2.2.2
  refine vs_ofV (lv := [_, _, _]) mb_X6_readOperand (Nat.le_of_ble_eq_true rfl) rfl (fun x C F => ?_)
  refine vv_aload_n C dX6_readOperand_0 rfl ?_
  refine vs_caliF C dX6_readOperand_1 (c_X6_ahead g S L B hT p hp hr.1) mb_X6_ahead mv_X6_ahead lk_X6_49 ce_48 rfl rfl rfl rfl ⟨Nat.le_of_ble_eq_true rfl, Nat.le_of_ble_eq_true rfl, Nat.le_of_ble_eq_true rfl⟩ ?_
  refine vw_istore_n (lv9 := [_, _, _]) C dX6_readOperand_4 (by decide) rfl rfl ?_
  refine vv_iload_n C dX6_readOperand_5 rfl ?_
  refine vv_bipush C dX6_readOperand_6 bp_48 ?_
  refine vv_icmp_lt (tgt := 24) C dX6_readOperand_8 (by decide) (fun q8 => ?_) (fun q8 => ?_)
  · have no : ¬ (48 ≤ ah L B p ∧ ah L B p ≤ 57) := fun z => Int32.not_lt.mpr z.1 q8
    refine vv_iload_n C dX6_readOperand_24 rfl ?_
    refine vs_calsiF C dX6_readOperand_25 (c_X6_isName g S _) mb_X6_isName ms_X6_isName lk_X6_60 rfl rfl ⟨Nat.le_of_ble_eq_true rfl, Nat.le_of_ble_eq_true rfl, Nat.le_of_ble_eq_true rfl⟩ ?_
    refine vv_if_eq (tgt := 50) C dX6_readOperand_28 (by decide) (fun q28 => ?_) (fun q28 => ?_)
    · have nm : ¬ tkN (ah L B p) < 5 := of_decide_eq_false (vs_b0.mp q28)
      refine vv_iload_n C dX6_readOperand_50 rfl ?_
      refine vv_bipush C dX6_readOperand_51 bp_40 ?_
      refine vv_icmp_eq (tgt := 68) C dX6_readOperand_53 (by decide) (fun q53 => ?_) (fun q53 => ?_)
      · refine vv_iload_n C dX6_readOperand_68 rfl ?_
        refine vv_bipush C dX6_readOperand_69 bp_6 ?_
        refine vv_icmp_ge (tgt := 95) C dX6_readOperand_71 (by decide) (fun q71 => ?_) (fun q71 => ?_)
        · skip
          refine vv_aload_n C dX6_readOperand_95 rfl ?_
          refine vv_aload_n C dX6_readOperand_96 rfl ?_
          refine gf_X6_at C dX6_readOperand_97 fg_X6_25 ?_
          refine vs_eqi (v9 := nI p) (hr.1) ?_
          refine pf_X6_fault C dX6_readOperand_100 fp_X6_28 ?_
          first
          | (refine vs_vret C F dX6_readOperand_103 rfl ?_; show pX S _ c (pzA (ah L B) p); unfold pzA; rw [if_pos yes]; exact p18)
          | (refine vs_vret C F dX6_readOperand_103 rfl ?_; show pX S _ c (pzA (ah L B) p); unfold pzA; rw [if_neg no, if_pos nm]; exact ⟨(vs_fr.rf.us (by decide)).tr wX_fr, rfl, fun _ => ⟨hr.2.1, hc_w (S := vs_us S 15 (nI (p + 1))) hr.2.2.1 (by omega)⟩, fun z => absurd rfl z⟩)
          | (refine vs_vret C F dX6_readOperand_103 rfl ?_; show pX S _ c (pzA (ah L B) p); unfold pzA; rw [if_neg no, if_neg nm]; exact ⟨vs_fr.rf.us (by decide), hr.1, fun z => absurd (show false = true from z) (by decide), fun _ => ⟨rfl, c.length, by omega, hr.2.2.1.1⟩⟩)
        · exact absurd (by decide +kernel) q71
      · refine vv_iload_n C dX6_readOperand_56 rfl ?_
        refine vv_bipush C dX6_readOperand_57 bp_33 ?_
        refine vv_icmp_eq (tgt := 68) C dX6_readOperand_59 (by decide) (fun q59 => ?_) (fun q59 => ?_)
        · refine vv_iload_n C dX6_readOperand_68 rfl ?_
          refine vv_bipush C dX6_readOperand_69 bp_6 ?_
          refine vv_icmp_ge (tgt := 95) C dX6_readOperand_71 (by decide) (fun q71 => ?_) (fun q71 => ?_)
          · skip
            refine vv_aload_n C dX6_readOperand_95 rfl ?_
            refine vv_aload_n C dX6_readOperand_96 rfl ?_
            refine gf_X6_at C dX6_readOperand_97 fg_X6_25 ?_
            refine vs_eqi (v9 := nI p) (hr.1) ?_
            refine pf_X6_fault C dX6_readOperand_100 fp_X6_28 ?_
            first
            | (refine vs_vret C F dX6_readOperand_103 rfl ?_; show pX S _ c (pzA (ah L B) p); unfold pzA; rw [if_pos yes]; exact p18)
            | (refine vs_vret C F dX6_readOperand_103 rfl ?_; show pX S _ c (pzA (ah L B) p); unfold pzA; rw [if_neg no, if_pos nm]; exact ⟨(vs_fr.rf.us (by decide)).tr wX_fr, rfl, fun _ => ⟨hr.2.1, hc_w (S := vs_us S 15 (nI (p + 1))) hr.2.2.1 (by omega)⟩, fun z => absurd rfl z⟩)
            | (refine vs_vret C F dX6_readOperand_103 rfl ?_; show pX S _ c (pzA (ah L B) p); unfold pzA; rw [if_neg no, if_neg nm]; exact ⟨vs_fr.rf.us (by decide), hr.1, fun z => absurd (show false = true from z) (by decide), fun _ => ⟨rfl, c.length, by omega, hr.2.2.1.1⟩⟩)
          · exact absurd (by decide +kernel) q71
        · refine vv_iload_n C dX6_readOperand_62 rfl ?_
          refine vv_bipush C dX6_readOperand_63 bp_45 ?_
          refine vv_icmp_ne (tgt := 95) C dX6_readOperand_65 (by decide) (fun q65 => ?_) (fun q65 => ?_)
          · refine vv_aload_n C dX6_readOperand_95 rfl ?_
            refine vv_aload_n C dX6_readOperand_96 rfl ?_
            refine gf_X6_at C dX6_readOperand_97 fg_X6_25 ?_
            refine vs_eqi (v9 := nI p) (hr.1) ?_
            refine pf_X6_fault C dX6_readOperand_100 fp_X6_28 ?_
            first
            | (refine vs_vret C F dX6_readOperand_103 rfl ?_; show pX S _ c (pzA (ah L B) p); unfold pzA; rw [if_pos yes]; exact p18)
            | (refine vs_vret C F dX6_readOperand_103 rfl ?_; show pX S _ c (pzA (ah L B) p); unfold pzA; rw [if_neg no, if_pos nm]; exact ⟨(vs_fr.rf.us (by decide)).tr wX_fr, rfl, fun _ => ⟨hr.2.1, hc_w (S := vs_us S 15 (nI (p + 1))) hr.2.2.1 (by omega)⟩, fun z => absurd rfl z⟩)
            | (refine vs_vret C F dX6_readOperand_103 rfl ?_; show pX S _ c (pzA (ah L B) p); unfold pzA; rw [if_neg no, if_neg nm]; exact ⟨vs_fr.rf.us (by decide), hr.1, fun z => absurd (show false = true from z) (by decide), fun _ => ⟨rfl, c.length, by omega, hr.2.2.1.1⟩⟩)
          · refine vv_iload_n C dX6_readOperand_68 rfl ?_
            refine vv_bipush C dX6_readOperand_69 bp_6 ?_
            refine vv_icmp_ge (tgt := 95) C dX6_readOperand_71 (by decide) (fun q71 => ?_) (fun q71 => ?_)
            · skip
              refine vv_aload_n C dX6_readOperand_95 rfl ?_
              refine vv_aload_n C dX6_readOperand_96 rfl ?_
              refine gf_X6_at C dX6_readOperand_97 fg_X6_25 ?_
              refine vs_eqi (v9 := nI p) (hr.1) ?_
              refine pf_X6_fault C dX6_readOperand_100 fp_X6_28 ?_
              first
              | (refine vs_vret C F dX6_readOperand_103 rfl ?_; show pX S _ c (pzA (ah L B) p); unfold pzA; rw [if_pos yes]; exact p18)
              | (refine vs_vret C F dX6_readOperand_103 rfl ?_; show pX S _ c (pzA (ah L B) p); unfold pzA; rw [if_neg no, if_pos nm]; exact ⟨(vs_fr.rf.us (by decide)).tr wX_fr, rfl, fun _ => ⟨hr.2.1, hc_w (S := vs_us S 15 (nI (p + 1))) hr.2.2.1 (by omega)⟩, fun z => absurd rfl z⟩)
              | (refine vs_vret C F dX6_readOperand_103 rfl ?_; show pX S _ c (pzA (ah L B) p); unfold pzA; rw [if_neg no, if_neg nm]; exact ⟨vs_fr.rf.us (by decide), hr.1, fun z => absurd (show false = true from z) (by decide), fun _ => ⟨rfl, c.length, by omega, hr.2.2.1.1⟩⟩)
            · exact absurd (by decide +kernel) q71
    · have nm : tkN (ah L B p) < 5 := of_decide_eq_true (vs_b1.mp q28)
      have hpL : p < L := bl_nb ah_bl (fun z => by rw [bl_N z] at nm; omega)
      refine vv_aload_n C dX6_readOperand_31 rfl ?_
      refine vv_dup C dX6_readOperand_32 rfl ?_
      refine gf_X6_at C dX6_readOperand_33 fg_X6_25 ?_
      refine vs_eqi (v9 := nI p) (hr.1) ?_
      refine vv_iconst C dX6_readOperand_36 ic_1 ?_
      refine vv_iadd C dX6_readOperand_37 ?_
      refine vs_eqi (v9 := nI (p + 1)) (nI_1 _) ?_
      refine pf_X6_at C dX6_readOperand_38 fp_X6_25 ?_
      refine vv_aload_n C dX6_readOperand_41 rfl ?_
      refine vv_iload_n C dX6_readOperand_42 rfl ?_
      refine vv_ineg C dX6_readOperand_43 ?_
      refine vs_calvF C dX6_readOperand_44 (c_X6_write g (vs_us S 15 (nI (p + 1))) c hr.2.2.1 (by omega) (-(ah L B p))) mb_X6_write mv_X6_write lk_X6_42 ce_48 rfl rfl rfl rfl ⟨Nat.le_of_ble_eq_true rfl, Nat.le_of_ble_eq_true rfl, Nat.le_of_ble_eq_true rfl⟩ ?_
      refine vv_goto (tgt := 103) C dX6_readOperand_47 (by decide) ?_
      first
      | (refine vs_vret C F dX6_readOperand_103 rfl ?_; show pX S _ c (pzA (ah L B) p); unfold pzA; rw [if_pos yes]; exact p18)
      | (refine vs_vret C F dX6_readOperand_103 rfl ?_; show pX S _ c (pzA (ah L B) p); unfold pzA; rw [if_neg no, if_pos nm]; exact ⟨(vs_fr.rf.us (by decide)).tr wX_fr, rfl, fun _ => ⟨hr.2.1, hc_w (S := vs_us S 15 (nI (p + 1))) hr.2.2.1 (by omega)⟩, fun z => absurd rfl z⟩)
      | (refine vs_vret C F dX6_readOperand_103 rfl ?_; show pX S _ c (pzA (ah L B) p); unfold pzA; rw [if_neg no, if_neg nm]; exact ⟨vs_fr.rf.us (by decide), hr.1, fun z => absurd (show false = true from z) (by decide), fun _ => ⟨rfl, c.length, by omega, hr.2.2.1.1⟩⟩)
  · skip
    refine vv_iload_n C dX6_readOperand_11 rfl ?_
    refine vv_bipush C dX6_readOperand_12 bp_57 ?_
    refine vv_icmp_gt (tgt := 24) C dX6_readOperand_14 (by decide) (fun q14 => ?_) (fun q14 => ?_)
    · have no : ¬ (48 ≤ ah L B p ∧ ah L B p ≤ 57) := fun z => Int32.not_lt.mpr z.2 q14
      refine vv_iload_n C dX6_readOperand_24 rfl ?_
      refine vs_calsiF C dX6_readOperand_25 (c_X6_isName g S _) mb_X6_isName ms_X6_isName lk_X6_60 rfl rfl ⟨Nat.le_of_ble_eq_true rfl, Nat.le_of_ble_eq_true rfl, Nat.le_of_ble_eq_true rfl⟩ ?_
      refine vv_if_eq (tgt := 50) C dX6_readOperand_28 (by decide) (fun q28 => ?_) (fun q28 => ?_)
      · have nm : ¬ tkN (ah L B p) < 5 := of_decide_eq_false (vs_b0.mp q28)
        refine vv_iload_n C dX6_readOperand_50 rfl ?_
        refine vv_bipush C dX6_readOperand_51 bp_40 ?_
        refine vv_icmp_eq (tgt := 68) C dX6_readOperand_53 (by decide) (fun q53 => ?_) (fun q53 => ?_)
        · refine vv_iload_n C dX6_readOperand_68 rfl ?_
          refine vv_bipush C dX6_readOperand_69 bp_6 ?_
          refine vv_icmp_ge (tgt := 95) C dX6_readOperand_71 (by decide) (fun q71 => ?_) (fun q71 => ?_)
          · skip
            refine vv_aload_n C dX6_readOperand_95 rfl ?_
            refine vv_aload_n C dX6_readOperand_96 rfl ?_
            refine gf_X6_at C dX6_readOperand_97 fg_X6_25 ?_
            refine vs_eqi (v9 := nI p) (hr.1) ?_
            refine pf_X6_fault C dX6_readOperand_100 fp_X6_28 ?_
            first
            | (refine vs_vret C F dX6_readOperand_103 rfl ?_; show pX S _ c (pzA (ah L B) p); unfold pzA; rw [if_pos yes]; exact p18)
            | (refine vs_vret C F dX6_readOperand_103 rfl ?_; show pX S _ c (pzA (ah L B) p); unfold pzA; rw [if_neg no, if_pos nm]; exact ⟨(vs_fr.rf.us (by decide)).tr wX_fr, rfl, fun _ => ⟨hr.2.1, hc_w (S := vs_us S 15 (nI (p + 1))) hr.2.2.1 (by omega)⟩, fun z => absurd rfl z⟩)
            | (refine vs_vret C F dX6_readOperand_103 rfl ?_; show pX S _ c (pzA (ah L B) p); unfold pzA; rw [if_neg no, if_neg nm]; exact ⟨vs_fr.rf.us (by decide), hr.1, fun z => absurd (show false = true from z) (by decide), fun _ => ⟨rfl, c.length, by omega, hr.2.2.1.1⟩⟩)
          · exact absurd (by decide +kernel) q71
        · refine vv_iload_n C dX6_readOperand_56 rfl ?_
          refine vv_bipush C dX6_readOperand_57 bp_33 ?_
          refine vv_icmp_eq (tgt := 68) C dX6_readOperand_59 (by decide) (fun q59 => ?_) (fun q59 => ?_)
          · refine vv_iload_n C dX6_readOperand_68 rfl ?_
            refine vv_bipush C dX6_readOperand_69 bp_6 ?_
            refine vv_icmp_ge (tgt := 95) C dX6_readOperand_71 (by decide) (fun q71 => ?_) (fun q71 => ?_)
            · skip
              refine vv_aload_n C dX6_readOperand_95 rfl ?_
              refine vv_aload_n C dX6_readOperand_96 rfl ?_
              refine gf_X6_at C dX6_readOperand_97 fg_X6_25 ?_
              refine vs_eqi (v9 := nI p) (hr.1) ?_
              refine pf_X6_fault C dX6_readOperand_100 fp_X6_28 ?_
              first
              | (refine vs_vret C F dX6_readOperand_103 rfl ?_; show pX S _ c (pzA (ah L B) p); unfold pzA; rw [if_pos yes]; exact p18)
              | (refine vs_vret C F dX6_readOperand_103 rfl ?_; show pX S _ c (pzA (ah L B) p); unfold pzA; rw [if_neg no, if_pos nm]; exact ⟨(vs_fr.rf.us (by decide)).tr wX_fr, rfl, fun _ => ⟨hr.2.1, hc_w (S := vs_us S 15 (nI (p + 1))) hr.2.2.1 (by omega)⟩, fun z => absurd rfl z⟩)
              | (refine vs_vret C F dX6_readOperand_103 rfl ?_; show pX S _ c (pzA (ah L B) p); unfold pzA; rw [if_neg no, if_neg nm]; exact ⟨vs_fr.rf.us (by decide), hr.1, fun z => absurd (show false = true from z) (by decide), fun _ => ⟨rfl, c.length, by omega, hr.2.2.1.1⟩⟩)
            · exact absurd (by decide +kernel) q71
          · refine vv_iload_n C dX6_readOperand_62 rfl ?_
            refine vv_bipush C dX6_readOperand_63 bp_45 ?_
            refine vv_icmp_ne (tgt := 95) C dX6_readOperand_65 (by decide) (fun q65 => ?_) (fun q65 => ?_)
            · refine vv_aload_n C dX6_readOperand_95 rfl ?_
              refine vv_aload_n C dX6_readOperand_96 rfl ?_
              refine gf_X6_at C dX6_readOperand_97 fg_X6_25 ?_
              refine vs_eqi (v9 := nI p) (hr.1) ?_
              refine pf_X6_fault C dX6_readOperand_100 fp_X6_28 ?_
              first
              | (refine vs_vret C F dX6_readOperand_103 rfl ?_; show pX S _ c (pzA (ah L B) p); unfold pzA; rw [if_pos yes]; exact p18)
              | (refine vs_vret C F dX6_readOperand_103 rfl ?_; show pX S _ c (pzA (ah L B) p); unfold pzA; rw [if_neg no, if_pos nm]; exact ⟨(vs_fr.rf.us (by decide)).tr wX_fr, rfl, fun _ => ⟨hr.2.1, hc_w (S := vs_us S 15 (nI (p + 1))) hr.2.2.1 (by omega)⟩, fun z => absurd rfl z⟩)
              | (refine vs_vret C F dX6_readOperand_103 rfl ?_; show pX S _ c (pzA (ah L B) p); unfold pzA; rw [if_neg no, if_neg nm]; exact ⟨vs_fr.rf.us (by decide), hr.1, fun z => absurd (show false = true from z) (by decide), fun _ => ⟨rfl, c.length, by omega, hr.2.2.1.1⟩⟩)
            · refine vv_iload_n C dX6_readOperand_68 rfl ?_
              refine vv_bipush C dX6_readOperand_69 bp_6 ?_
              refine vv_icmp_ge (tgt := 95) C dX6_readOperand_71 (by decide) (fun q71 => ?_) (fun q71 => ?_)
              · skip
                refine vv_aload_n C dX6_readOperand_95 rfl ?_
                refine vv_aload_n C dX6_readOperand_96 rfl ?_
                refine gf_X6_at C dX6_readOperand_97 fg_X6_25 ?_
                refine vs_eqi (v9 := nI p) (hr.1) ?_
                refine pf_X6_fault C dX6_readOperand_100 fp_X6_28 ?_
                first
                | (refine vs_vret C F dX6_readOperand_103 rfl ?_; show pX S _ c (pzA (ah L B) p); unfold pzA; rw [if_pos yes]; exact p18)
                | (refine vs_vret C F dX6_readOperand_103 rfl ?_; show pX S _ c (pzA (ah L B) p); unfold pzA; rw [if_neg no, if_pos nm]; exact ⟨(vs_fr.rf.us (by decide)).tr wX_fr, rfl, fun _ => ⟨hr.2.1, hc_w (S := vs_us S 15 (nI (p + 1))) hr.2.2.1 (by omega)⟩, fun z => absurd rfl z⟩)
                | (refine vs_vret C F dX6_readOperand_103 rfl ?_; show pX S _ c (pzA (ah L B) p); unfold pzA; rw [if_neg no, if_neg nm]; exact ⟨vs_fr.rf.us (by decide), hr.1, fun z => absurd (show false = true from z) (by decide), fun _ => ⟨rfl, c.length, by omega, hr.2.2.1.1⟩⟩)
              · exact absurd (by decide +kernel) q71
      · have nm : tkN (ah L B p) < 5 := of_decide_eq_true (vs_b1.mp q28)
        have hpL : p < L := bl_nb ah_bl (fun z => by rw [bl_N z] at nm; omega)
        refine vv_aload_n C dX6_readOperand_31 rfl ?_
        refine vv_dup C dX6_readOperand_32 rfl ?_
        refine gf_X6_at C dX6_readOperand_33 fg_X6_25 ?_
        refine vs_eqi (v9 := nI p) (hr.1) ?_
        refine vv_iconst C dX6_readOperand_36 ic_1 ?_
        refine vv_iadd C dX6_readOperand_37 ?_
        refine vs_eqi (v9 := nI (p + 1)) (nI_1 _) ?_
        refine pf_X6_at C dX6_readOperand_38 fp_X6_25 ?_
        refine vv_aload_n C dX6_readOperand_41 rfl ?_
        refine vv_iload_n C dX6_readOperand_42 rfl ?_
        refine vv_ineg C dX6_readOperand_43 ?_
        refine vs_calvF C dX6_readOperand_44 (c_X6_write g (vs_us S 15 (nI (p + 1))) c hr.2.2.1 (by omega) (-(ah L B p))) mb_X6_write mv_X6_write lk_X6_42 ce_48 rfl rfl rfl rfl ⟨Nat.le_of_ble_eq_true rfl, Nat.le_of_ble_eq_true rfl, Nat.le_of_ble_eq_true rfl⟩ ?_
        refine vv_goto (tgt := 103) C dX6_readOperand_47 (by decide) ?_
        first
        | (refine vs_vret C F dX6_readOperand_103 rfl ?_; show pX S _ c (pzA (ah L B) p); unfold pzA; rw [if_pos yes]; exact p18)
        | (refine vs_vret C F dX6_readOperand_103 rfl ?_; show pX S _ c (pzA (ah L B) p); unfold pzA; rw [if_neg no, if_pos nm]; exact ⟨(vs_fr.rf.us (by decide)).tr wX_fr, rfl, fun _ => ⟨hr.2.1, hc_w (S := vs_us S 15 (nI (p + 1))) hr.2.2.1 (by omega)⟩, fun z => absurd rfl z⟩)
        | (refine vs_vret C F dX6_readOperand_103 rfl ?_; show pX S _ c (pzA (ah L B) p); unfold pzA; rw [if_neg no, if_neg nm]; exact ⟨vs_fr.rf.us (by decide), hr.1, fun z => absurd (show false = true from z) (by decide), fun _ => ⟨rfl, c.length, by omega, hr.2.2.1.1⟩⟩)
    · have yes : 48 ≤ ah L B p ∧ ah L B p ≤ 57 := ⟨Int32.not_lt.mp q8, Int32.not_lt.mp q14⟩
      refine vv_aload_n C dX6_readOperand_17 rfl ?_
      refine vs_callv C dX6_readOperand_18 (c_X6_readNumber g S L B hT p hp c hr) mb_X6_readNumber mv_X6_readNumber lk_X6_57 ce_48 rfl rfl rfl rfl ⟨Nat.le_of_ble_eq_true rfl, Nat.le_of_ble_eq_true rfl, Nat.le_of_ble_eq_true rfl⟩ (fun S18 p18 => ?_)
      refine vv_goto (tgt := 103) C dX6_readOperand_21 (by decide) ?_
      first
      | (refine vs_vret C F dX6_readOperand_103 rfl ?_; show pX S _ c (pzA (ah L B) p); unfold pzA; rw [if_pos yes]; exact p18)
      | (refine vs_vret C F dX6_readOperand_103 rfl ?_; show pX S _ c (pzA (ah L B) p); unfold pzA; rw [if_neg no, if_pos nm]; exact ⟨(vs_fr.rf.us (by decide)).tr wX_fr, rfl, fun _ => ⟨hr.2.1, hc_w (S := vs_us S 15 (nI (p + 1))) hr.2.2.1 (by omega)⟩, fun z => absurd rfl z⟩)
      | (refine vs_vret C F dX6_readOperand_103 rfl ?_; show pX S _ c (pzA (ah L B) p); unfold pzA; rw [if_neg no, if_neg nm]; exact ⟨vs_fr.rf.us (by decide), hr.1, fun z => absurd (show false = true from z) (by decide), fun _ => ⟨rfl, c.length, by omega, hr.2.2.1.1⟩⟩)
set_option maxRecDepth 20000 in
theorem c_X6_readOpenedR (g : vv_G) (r d : Nat) (hr6 : r < 6) (hd : 3 ≤ d) (hO : OpX g r d) (hK : RkX g r 5 (d + 6)) (S : vs_S) (L : Nat) (B : Nat → Int32) (hT : tp S L B) (p : Nat) (hp : p ≤ L) (c : List Int32) (hr : rX S p c) : vs_KV g yX6_readOpened cX6_readOpened 3 none (d + 7) [vv_r g 48, .int 40, .int (nI (6 - r))] S (fun S1 => pX S S1 c (pz2 (ah L B) (pzR (pzO (ah L B) r) (ah L B) 5 p))) := by
  have hL := hT.2.1
  have hcl := hr.2.2.2
  refine vs_ofV (lv := [_, _, _]) mb_X6_readOpened (Nat.le_of_ble_eq_true rfl) rfl (fun x C F => ?_)
  refine vv_iload_n C dX6_readOpened_0 rfl ?_
  refine vv_bipush C dX6_readOpened_1 bp_40 ?_
  refine vv_icmp_eq (tgt := 29) C dX6_readOpened_3 (by decide) (fun q3 => ?_) (fun q3 => ?_)
  · skip
    refine vv_aload_n C dX6_readOpened_29 rfl ?_
    refine vv_iconst C dX6_readOpened_30 ic_0 ?_
    refine vv_iload_n C dX6_readOpened_31 rfl ?_
    refine vs_callv C dX6_readOpened_32 (hK S L B hT p hp c hr) mb_X6_readRank mv_X6_readRank lk_X6_38 ce_48 rfl rfl rfl rfl ⟨by omega, by omega, Nat.le_of_ble_eq_true rfl⟩ (fun S32 p32 => ?_)
    have hpo := pOk_RO (L := L) (B := B) r 5 p hp
    by_cases ht : (pzR (pzO (ah L B) r) (ah L B) 5 p).1 = true
    · by_cases hq : ah L B (pzR (pzO (ah L B) r) (ah L B) 5 p).2.1 = 41
      · have hv : pz2 (ah L B) (pzR (pzO (ah L B) r) (ah L B) 5 p) = (true, (pzR (pzO (ah L B) r) (ah L B) 5 p).2.1 + 1, (pzR (pzO (ah L B) r) (ah L B) 5 p).2.2) := by unfold pz2; rw [if_pos ht, if_pos hq]
        refine vv_aload_n C dX6_readOpened_35 rfl ?_
        refine vv_bipush C dX6_readOpened_36 bp_41 ?_
        refine vs_caliF C dX6_readOpened_38 (c_X6_takesY g S32 L B (hT.fr p32.1 (by decide) (by decide)) (pzR (pzO (ah L B) r) (ah L B) 5 p).2.1 hpo.1 p32.2.1 ((p32.2.2.1 ht).1) 41 hq) mb_X6_takes mv_X6_takes lk_X6_34 ce_48 rfl rfl rfl rfl ⟨by omega, by omega, Nat.le_of_ble_eq_true rfl⟩ ?_
        refine vv_if_ne (tgt := 60) C dX6_readOpened_41 (by decide) (fun q41 => ?_) (fun q41 => ?_)
        · skip
          exact vs_vret C F dX6_readOpened_60 rfl (by rw [hv]; exact ⟨p32.1.tr (vs_fr.rf.us (by decide)), rfl, fun _ => ⟨(p32.2.2.1 ht).1, (p32.2.2.1 ht).2⟩, fun z => absurd rfl z⟩)
        · exact absurd q41 (by decide)
      · have hv : pz2 (ah L B) (pzR (pzO (ah L B) r) (ah L B) 5 p) = pF (pzR (pzO (ah L B) r) (ah L B) 5 p).2.1 := by unfold pz2; rw [if_pos ht, if_neg hq]
        refine vv_aload_n C dX6_readOpened_35 rfl ?_
        refine vv_bipush C dX6_readOpened_36 bp_41 ?_
        refine vs_caliF C dX6_readOpened_38 (c_X6_takesN g S32 L B (hT.fr p32.1 (by decide) (by decide)) (pzR (pzO (ah L B) r) (ah L B) 5 p).2.1 hpo.1 p32.2.1 41 (fun z => hq z.2)) mb_X6_takes mv_X6_takes lk_X6_34 ce_48 rfl rfl rfl rfl ⟨by omega, by omega, Nat.le_of_ble_eq_true rfl⟩ ?_
        refine vv_if_ne (tgt := 60) C dX6_readOpened_41 (by decide) (fun q41 => ?_) (fun q41 => ?_)
        · exact absurd rfl q41
        · skip
          refine vv_aload_n C dX6_readOpened_44 rfl ?_
          refine gf_X6_fault C dX6_readOpened_45 fg_X6_28 ?_
          refine vv_iconst C dX6_readOpened_48 ic_m1 ?_
          refine vv_icmp_ne (tgt := 60) C dX6_readOpened_49 (by decide) (fun q49 => ?_) (fun q49 => ?_)
          · exact absurd (p32.2.2.1 ht).1 q49
          · skip
            refine vv_aload_n C dX6_readOpened_52 rfl ?_
            refine vv_aload_n C dX6_readOpened_53 rfl ?_
            refine gf_X6_at C dX6_readOpened_54 fg_X6_25 ?_
            refine vs_eqi (v9 := nI (pzR (pzO (ah L B) r) (ah L B) 5 p).2.1) (p32.2.1) ?_
            refine pf_X6_fault C dX6_readOpened_57 fp_X6_28 ?_
            exact vs_vret C F dX6_readOpened_60 rfl (by rw [hv]; exact ⟨p32.1.tr (vs_fr.rf.us (by decide)), p32.2.1, fun z => absurd (show false = true from z) (by decide), fun _ => ⟨rfl, _, by have := hpo.2.2 ht; have := hpo.1; rw [List.length_append]; omega, (p32.2.2.1 ht).2.1⟩⟩)
    · have hv : pz2 (ah L B) (pzR (pzO (ah L B) r) (ah L B) 5 p) = pF (pzR (pzO (ah L B) r) (ah L B) 5 p).2.1 := by unfold pz2; rw [if_neg ht]
      have hno : ¬ S32.1 17 = -1 := fun z => by
        rw [(p32.2.2.2 ht).1] at z
        exact absurd (show nI (pzR (pzO (ah L B) r) (ah L B) 5 p).2.1 < 0 by rw [z]; decide) (xn_neg (by have := hpo.1; omega))
      refine vv_aload_n C dX6_readOpened_35 rfl ?_
      refine vv_bipush C dX6_readOpened_36 bp_41 ?_
      refine vs_caliF C dX6_readOpened_38 (c_X6_takesN g S32 L B (hT.fr p32.1 (by decide) (by decide)) (pzR (pzO (ah L B) r) (ah L B) 5 p).2.1 hpo.1 p32.2.1 41 (fun z => hno z.1)) mb_X6_takes mv_X6_takes lk_X6_34 ce_48 rfl rfl rfl rfl ⟨by omega, by omega, Nat.le_of_ble_eq_true rfl⟩ ?_
      refine vv_if_ne (tgt := 60) C dX6_readOpened_41 (by decide) (fun q41 => ?_) (fun q41 => ?_)
      · exact absurd rfl q41
      · skip
        refine vv_aload_n C dX6_readOpened_44 rfl ?_
        refine gf_X6_fault C dX6_readOpened_45 fg_X6_28 ?_
        refine vv_iconst C dX6_readOpened_48 ic_m1 ?_
        refine vv_icmp_ne (tgt := 60) C dX6_readOpened_49 (by decide) (fun q49 => ?_) (fun q49 => ?_)
        · skip
          exact vs_vret C F dX6_readOpened_60 rfl (by rw [hv]; exact ⟨p32.1, p32.2.1, fun z => absurd (show false = true from z) (by decide), fun _ => p32.2.2.2 ht⟩)
        · exact absurd q49 hno
  · exact absurd rfl q3
set_option maxRecDepth 20000 in
theorem c_X6_readOpenedO (g : vv_G) (r d : Nat) (hr6 : r < 6) (hd : 3 ≤ d) (hO : OpX g r d) (hK : RkX g r 5 (d + 6)) (S : vs_S) (L : Nat) (B : Nat → Int32) (hT : tp S L B) (p : Nat) (hp : p ≤ L) (c : List Int32) (hr : rX S p c) (b : Int32) (hb : b = 33 ∨ b = 45) : vs_KV g yX6_readOpened cX6_readOpened 3 none (d + 7) [vv_r g 48, .int b, .int (nI (6 - r))] S (fun S1 => pX S S1 c (pz1 b (pzO (ah L B) r p))) := by
  have hL := hT.2.1
  have hcl := hr.2.2.2
  have hb40 : ¬ b = 40 := by rcases hb with e | e <;> subst e <;> decide
  refine vs_ofV (lv := [_, _, _]) mb_X6_readOpened (Nat.le_of_ble_eq_true rfl) rfl (fun x C F => ?_)
  refine vv_iload_n C dX6_readOpened_0 rfl ?_
  refine vv_bipush C dX6_readOpened_1 bp_40 ?_
  refine vv_icmp_eq (tgt := 29) C dX6_readOpened_3 (by decide) (fun q3 => ?_) (fun q3 => ?_)
  · exact absurd q3 hb40
  · skip
    refine vv_aload_n C dX6_readOpened_6 rfl ?_
    refine vv_iload_n C dX6_readOpened_7 rfl ?_
    refine vs_callv C dX6_readOpened_8 (hO S L B hT p hp c hr) mb_X6_readOperand mv_X6_readOperand lk_X6_46 ce_48 rfl rfl rfl rfl ⟨by omega, by omega, Nat.le_of_ble_eq_true rfl⟩ (fun S8 p8 => ?_)
    have hpo := pOk_OA (L := L) (B := B) r p hp
    by_cases ht : (pzO (ah L B) r p).1 = true
    · have hv : pz1 b (pzO (ah L B) r p) = (true, (pzO (ah L B) r p).2.1, (pzO (ah L B) r p).2.2.1 ++ [if b = 45 then -126 else -b], fun N => if b = 45 then -((pzO (ah L B) r p).2.2.2 N) else if (pzO (ah L B) r p).2.2.2 N = 0 then 1 else 0) := by unfold pz1; rw [if_pos ht]
      have hpt := hpo.2.2 ht
      have hlen : (c ++ (pzO (ah L B) r p).2.2.1).length ≤ 120 := by rw [List.length_append]; have := hpo.1; omega
      refine vv_aload_n C dX6_readOpened_11 rfl ?_
      refine vv_iload_n C dX6_readOpened_12 rfl ?_
      refine vv_bipush C dX6_readOpened_13 bp_45 ?_
      refine vv_icmp_ne (tgt := 23) C dX6_readOpened_15 (by decide) (fun q15 => ?_) (fun q15 => ?_)
      · skip
        refine vv_iload_n C dX6_readOpened_23 rfl ?_
        refine vv_ineg C dX6_readOpened_24 ?_
        refine vs_eqi (v9 := (if b = 45 then -126 else -b)) (by first | rw [if_pos q15] | rw [if_neg q15]) ?_
        refine vs_calvF C dX6_readOpened_25 (c_X6_write g S8 (c ++ (pzO (ah L B) r p).2.2.1) (p8.2.2.1 ht).2 hlen _) mb_X6_write mv_X6_write lk_X6_42 ce_48 rfl rfl rfl rfl ⟨by omega, by omega, Nat.le_of_ble_eq_true rfl⟩ ?_
        exact vs_vret C F dX6_readOpened_28 rfl (by rw [hv]; exact ⟨p8.1.tr wX_fr, p8.2.1, fun _ => ⟨(p8.2.2.1 ht).1, by rw [← List.append_assoc]; exact hc_w (p8.2.2.1 ht).2 hlen⟩, fun z => absurd rfl z⟩)
      · skip
        refine vv_bipush C dX6_readOpened_18 bp_m126 ?_
        refine vv_goto (tgt := 25) C dX6_readOpened_20 (by decide) ?_
        refine vs_eqi (v9 := (if b = 45 then -126 else -b)) (by first | rw [if_pos q15] | rw [if_neg q15]) ?_
        refine vs_calvF C dX6_readOpened_25 (c_X6_write g S8 (c ++ (pzO (ah L B) r p).2.2.1) (p8.2.2.1 ht).2 hlen _) mb_X6_write mv_X6_write lk_X6_42 ce_48 rfl rfl rfl rfl ⟨by omega, by omega, Nat.le_of_ble_eq_true rfl⟩ ?_
        exact vs_vret C F dX6_readOpened_28 rfl (by rw [hv]; exact ⟨p8.1.tr wX_fr, p8.2.1, fun _ => ⟨(p8.2.2.1 ht).1, by rw [← List.append_assoc]; exact hc_w (p8.2.2.1 ht).2 hlen⟩, fun z => absurd rfl z⟩)
    · have hv : pz1 b (pzO (ah L B) r p) = pF (pzO (ah L B) r p).2.1 := by unfold pz1; rw [if_neg ht]
      obtain ⟨h17, w, hw, h16⟩ := p8.2.2.2 ht
      refine vv_aload_n C dX6_readOpened_11 rfl ?_
      refine vv_iload_n C dX6_readOpened_12 rfl ?_
      refine vv_bipush C dX6_readOpened_13 bp_45 ?_
      refine vv_icmp_ne (tgt := 23) C dX6_readOpened_15 (by decide) (fun q15 => ?_) (fun q15 => ?_)
      · skip
        refine vv_iload_n C dX6_readOpened_23 rfl ?_
        refine vv_ineg C dX6_readOpened_24 ?_
        refine vs_eqi (v9 := (if b = 45 then -126 else -b)) (by first | rw [if_pos q15] | rw [if_neg q15]) ?_
        refine vs_callv C dX6_readOpened_25 (c_X6_writeA g S8 w hw h16 _) mb_X6_write mv_X6_write lk_X6_42 ce_48 rfl rfl rfl rfl ⟨by omega, by omega, Nat.le_of_ble_eq_true rfl⟩ (fun S25 p25 => ?_)
        exact vs_vret C F dX6_readOpened_28 rfl (by rw [hv]; exact ⟨p8.1.tr (p25.1.wd (by decide) (by decide) (by decide)), (p25.1.1 15 (by decide)).trans p8.2.1, fun z => absurd (show false = true from z) (by decide), fun _ => ⟨(p25.1.1 17 (by decide)).trans h17, p25.2⟩⟩)
      · skip
        refine vv_bipush C dX6_readOpened_18 bp_m126 ?_
        refine vv_goto (tgt := 25) C dX6_readOpened_20 (by decide) ?_
        refine vs_eqi (v9 := (if b = 45 then -126 else -b)) (by first | rw [if_pos q15] | rw [if_neg q15]) ?_
        refine vs_callv C dX6_readOpened_25 (c_X6_writeA g S8 w hw h16 _) mb_X6_write mv_X6_write lk_X6_42 ce_48 rfl rfl rfl rfl ⟨by omega, by omega, Nat.le_of_ble_eq_true rfl⟩ (fun S25 p25 => ?_)
        exact vs_vret C F dX6_readOpened_28 rfl (by rw [hv]; exact ⟨p8.1.tr (p25.1.wd (by decide) (by decide) (by decide)), (p25.1.1 15 (by decide)).trans p8.2.1, fun z => absurd (show false = true from z) (by decide), fun _ => ⟨(p25.1.1 17 (by decide)).trans h17, p25.2⟩⟩)
set_option maxRecDepth 20000 in
theorem c_X6_readOperandS (g : vv_G) (r d : Nat) (hr6 : r < 6) (hd : 3 ≤ d) (hO : OpX g r d) (hK : RkX g r 5 (d + 6)) (S : vs_S) (L : Nat) (B : Nat → Int32) (hT : tp S L B) (p : Nat) (hp : p ≤ L) (c : List Int32) (hr : rX S p c) : vs_KV g yX6_readOperand cX6_readOperand 3 none (d + 8) [vv_r g 48, .int (nI (6 - (r + 1)))] S (fun S1 => pX S S1 c (pzO (ah L B) (r + 1) p)) := by
  have hL := hT.2.1
  have hcl := hr.2.2.2
  refine vs_ofV (lv := [_, _, _]) mb_X6_readOperand (Nat.le_of_ble_eq_true rfl) rfl (fun x C F => ?_)
  refine vv_aload_n C dX6_readOperand_0 rfl ?_
  refine vs_caliF C dX6_readOperand_1 (c_X6_ahead g S L B hT p hp hr.1) mb_X6_ahead mv_X6_ahead lk_X6_49 ce_48 rfl rfl rfl rfl ⟨by omega, by omega, Nat.le_of_ble_eq_true rfl⟩ ?_
  refine vw_istore_n (lv9 := [_, _, _]) C dX6_readOperand_4 (by decide) rfl rfl ?_
  refine vv_iload_n C dX6_readOperand_5 rfl ?_
  refine vv_bipush C dX6_readOperand_6 bp_48 ?_
  refine vv_icmp_lt (tgt := 24) C dX6_readOperand_8 (by decide) (fun q8 => ?_) (fun q8 => ?_)
  · have no : ¬ (48 ≤ ah L B p ∧ ah L B p ≤ 57) := fun z => Int32.not_lt.mpr z.1 q8
    refine vv_iload_n C dX6_readOperand_24 rfl ?_
    refine vs_calsiF C dX6_readOperand_25 (c_X6_isName g S _) mb_X6_isName ms_X6_isName lk_X6_60 rfl rfl ⟨by omega, by omega, Nat.le_of_ble_eq_true rfl⟩ ?_
    refine vv_if_eq (tgt := 50) C dX6_readOperand_28 (by decide) (fun q28 => ?_) (fun q28 => ?_)
    · have nm : ¬ tkN (ah L B p) < 5 := of_decide_eq_false (vs_b0.mp q28)
      refine vv_iload_n C dX6_readOperand_50 rfl ?_
      refine vv_bipush C dX6_readOperand_51 bp_40 ?_
      refine vv_icmp_eq (tgt := 68) C dX6_readOperand_53 (by decide) (fun q53 => ?_) (fun q53 => ?_)
      · have op40 : ah L B p = 40 := q53
        have hpL : p < L := bl_nb ah_bl (fun z => bl_c z (by unfold bl; decide) op40)
        have hop := c_X6_readOpenedR g r d hr6 hd hO hK (vs_us S 15 (nI (p + 1))) L B (hT.fr (show vs_fr [15] [] [] S (vs_us S 15 (nI (p + 1))) from vs_fr.rf.us (by decide)) (by decide) (by decide)) (p + 1) hpL c ⟨rfl, hr.2.1, hr.2.2.1, by omega⟩
        rw [← op40] at hop
        refine vv_iload_n C dX6_readOperand_68 rfl ?_
        refine vv_bipush C dX6_readOperand_69 bp_6 ?_
        refine vv_icmp_ge (tgt := 95) C dX6_readOperand_71 (by decide) (fun q71 => ?_) (fun q71 => ?_)
        · exact absurd q71 (by rw [xn_lit, xn_le (by omega) (by omega)]; omega)
        · skip
          refine vv_aload_n C dX6_readOperand_74 rfl ?_
          refine vv_dup C dX6_readOperand_75 rfl ?_
          refine gf_X6_at C dX6_readOperand_76 fg_X6_25 ?_
          refine vs_eqi (v9 := nI p) (hr.1) ?_
          refine vv_iconst C dX6_readOperand_79 ic_1 ?_
          refine vv_iadd C dX6_readOperand_80 ?_
          refine vs_eqi (v9 := nI (p + 1)) (nI_1 _) ?_
          refine pf_X6_at C dX6_readOperand_81 fp_X6_25 ?_
          refine vv_aload_n C dX6_readOperand_84 rfl ?_
          refine vv_iload_n C dX6_readOperand_85 rfl ?_
          refine vv_iload_n C dX6_readOperand_86 rfl ?_
          refine vv_iconst C dX6_readOperand_87 ic_1 ?_
          refine vv_iadd C dX6_readOperand_88 ?_
          refine vs_eqi (v9 := nI (6 - r)) (by rw [nI_1]; exact congrArg nI (by omega)) ?_
          refine vs_callv C dX6_readOperand_89 hop mb_X6_readOpened mv_X6_readOpened lk_X6_63 ce_48 rfl rfl rfl rfl ⟨by omega, by omega, Nat.le_of_ble_eq_true rfl⟩ (fun S89 p89 => ?_)
          refine vv_goto (tgt := 103) C dX6_readOperand_92 (by decide) ?_
          first
          | (refine vs_vret C F dX6_readOperand_103 rfl ?_; rw [pzOS r, if_neg (fun z => by rw [z] at yes; exact absurd yes (by decide)), if_neg (fun z => by rcases z with z | z <;> (rw [z] at yes; exact absurd yes (by decide)))]; unfold pzA; rw [if_pos yes]; exact p18)
          | (refine vs_vret C F dX6_readOperand_103 rfl ?_; rw [pzOS r, if_neg (fun z => by rw [z] at nm; exact absurd nm (by decide)), if_neg (fun z => by rcases z with z | z <;> (rw [z] at nm; exact absurd nm (by decide)))]; unfold pzA; rw [if_neg no, if_pos nm]; exact ⟨(vs_fr.rf.us (by decide)).tr wX_fr, rfl, fun _ => ⟨hr.2.1, hc_w (S := vs_us S 15 (nI (p + 1))) hr.2.2.1 (by omega)⟩, fun z => absurd rfl z⟩)
          | (refine vs_vret C F dX6_readOperand_103 rfl ?_; rw [pzOS r, if_pos op40]; exact ⟨(vs_fr.rf.us (by decide)).tr p89.1, p89.2⟩)
          | (refine vs_vret C F dX6_readOperand_103 rfl ?_; rw [pzOS r, if_neg q53, if_pos op33]; exact ⟨(vs_fr.rf.us (by decide)).tr p89.1, p89.2⟩)
          | (refine vs_vret C F dX6_readOperand_103 rfl ?_; rw [pzOS r, if_neg q53, if_neg opn]; unfold pzA; rw [if_neg no, if_neg nm]; exact ⟨vs_fr.rf.us (by decide), hr.1, fun z => absurd (show false = true from z) (by decide), fun _ => ⟨rfl, c.length, by omega, hr.2.2.1.1⟩⟩)
      · skip
        refine vv_iload_n C dX6_readOperand_56 rfl ?_
        refine vv_bipush C dX6_readOperand_57 bp_33 ?_
        refine vv_icmp_eq (tgt := 68) C dX6_readOperand_59 (by decide) (fun q59 => ?_) (fun q59 => ?_)
        · have op33 : ah L B p = 33 ∨ ah L B p = 45 := Or.inl q59
          have hpL : p < L := bl_nb ah_bl (fun z => bl_c z (by unfold bl; decide) q59)
          have hop := c_X6_readOpenedO g r d hr6 hd hO hK (vs_us S 15 (nI (p + 1))) L B (hT.fr (show vs_fr [15] [] [] S (vs_us S 15 (nI (p + 1))) from vs_fr.rf.us (by decide)) (by decide) (by decide)) (p + 1) hpL c ⟨rfl, hr.2.1, hr.2.2.1, by omega⟩ (ah L B p) op33
          refine vv_iload_n C dX6_readOperand_68 rfl ?_
          refine vv_bipush C dX6_readOperand_69 bp_6 ?_
          refine vv_icmp_ge (tgt := 95) C dX6_readOperand_71 (by decide) (fun q71 => ?_) (fun q71 => ?_)
          · exact absurd q71 (by rw [xn_lit, xn_le (by omega) (by omega)]; omega)
          · skip
            refine vv_aload_n C dX6_readOperand_74 rfl ?_
            refine vv_dup C dX6_readOperand_75 rfl ?_
            refine gf_X6_at C dX6_readOperand_76 fg_X6_25 ?_
            refine vs_eqi (v9 := nI p) (hr.1) ?_
            refine vv_iconst C dX6_readOperand_79 ic_1 ?_
            refine vv_iadd C dX6_readOperand_80 ?_
            refine vs_eqi (v9 := nI (p + 1)) (nI_1 _) ?_
            refine pf_X6_at C dX6_readOperand_81 fp_X6_25 ?_
            refine vv_aload_n C dX6_readOperand_84 rfl ?_
            refine vv_iload_n C dX6_readOperand_85 rfl ?_
            refine vv_iload_n C dX6_readOperand_86 rfl ?_
            refine vv_iconst C dX6_readOperand_87 ic_1 ?_
            refine vv_iadd C dX6_readOperand_88 ?_
            refine vs_eqi (v9 := nI (6 - r)) (by rw [nI_1]; exact congrArg nI (by omega)) ?_
            refine vs_callv C dX6_readOperand_89 hop mb_X6_readOpened mv_X6_readOpened lk_X6_63 ce_48 rfl rfl rfl rfl ⟨by omega, by omega, Nat.le_of_ble_eq_true rfl⟩ (fun S89 p89 => ?_)
            refine vv_goto (tgt := 103) C dX6_readOperand_92 (by decide) ?_
            first
            | (refine vs_vret C F dX6_readOperand_103 rfl ?_; rw [pzOS r, if_neg (fun z => by rw [z] at yes; exact absurd yes (by decide)), if_neg (fun z => by rcases z with z | z <;> (rw [z] at yes; exact absurd yes (by decide)))]; unfold pzA; rw [if_pos yes]; exact p18)
            | (refine vs_vret C F dX6_readOperand_103 rfl ?_; rw [pzOS r, if_neg (fun z => by rw [z] at nm; exact absurd nm (by decide)), if_neg (fun z => by rcases z with z | z <;> (rw [z] at nm; exact absurd nm (by decide)))]; unfold pzA; rw [if_neg no, if_pos nm]; exact ⟨(vs_fr.rf.us (by decide)).tr wX_fr, rfl, fun _ => ⟨hr.2.1, hc_w (S := vs_us S 15 (nI (p + 1))) hr.2.2.1 (by omega)⟩, fun z => absurd rfl z⟩)
            | (refine vs_vret C F dX6_readOperand_103 rfl ?_; rw [pzOS r, if_pos op40]; exact ⟨(vs_fr.rf.us (by decide)).tr p89.1, p89.2⟩)
            | (refine vs_vret C F dX6_readOperand_103 rfl ?_; rw [pzOS r, if_neg q53, if_pos op33]; exact ⟨(vs_fr.rf.us (by decide)).tr p89.1, p89.2⟩)
            | (refine vs_vret C F dX6_readOperand_103 rfl ?_; rw [pzOS r, if_neg q53, if_neg opn]; unfold pzA; rw [if_neg no, if_neg nm]; exact ⟨vs_fr.rf.us (by decide), hr.1, fun z => absurd (show false = true from z) (by decide), fun _ => ⟨rfl, c.length, by omega, hr.2.2.1.1⟩⟩)
        · skip
          refine vv_iload_n C dX6_readOperand_62 rfl ?_
          refine vv_bipush C dX6_readOperand_63 bp_45 ?_
          refine vv_icmp_ne (tgt := 95) C dX6_readOperand_65 (by decide) (fun q65 => ?_) (fun q65 => ?_)
          · have opn : ¬ (ah L B p = 33 ∨ ah L B p = 45) := fun z => z.elim q59 q65
            refine vv_aload_n C dX6_readOperand_95 rfl ?_
            refine vv_aload_n C dX6_readOperand_96 rfl ?_
            refine gf_X6_at C dX6_readOperand_97 fg_X6_25 ?_
            refine vs_eqi (v9 := nI p) (hr.1) ?_
            refine pf_X6_fault C dX6_readOperand_100 fp_X6_28 ?_
            first
            | (refine vs_vret C F dX6_readOperand_103 rfl ?_; rw [pzOS r, if_neg (fun z => by rw [z] at yes; exact absurd yes (by decide)), if_neg (fun z => by rcases z with z | z <;> (rw [z] at yes; exact absurd yes (by decide)))]; unfold pzA; rw [if_pos yes]; exact p18)
            | (refine vs_vret C F dX6_readOperand_103 rfl ?_; rw [pzOS r, if_neg (fun z => by rw [z] at nm; exact absurd nm (by decide)), if_neg (fun z => by rcases z with z | z <;> (rw [z] at nm; exact absurd nm (by decide)))]; unfold pzA; rw [if_neg no, if_pos nm]; exact ⟨(vs_fr.rf.us (by decide)).tr wX_fr, rfl, fun _ => ⟨hr.2.1, hc_w (S := vs_us S 15 (nI (p + 1))) hr.2.2.1 (by omega)⟩, fun z => absurd rfl z⟩)
            | (refine vs_vret C F dX6_readOperand_103 rfl ?_; rw [pzOS r, if_pos op40]; exact ⟨(vs_fr.rf.us (by decide)).tr p89.1, p89.2⟩)
            | (refine vs_vret C F dX6_readOperand_103 rfl ?_; rw [pzOS r, if_neg q53, if_pos op33]; exact ⟨(vs_fr.rf.us (by decide)).tr p89.1, p89.2⟩)
            | (refine vs_vret C F dX6_readOperand_103 rfl ?_; rw [pzOS r, if_neg q53, if_neg opn]; unfold pzA; rw [if_neg no, if_neg nm]; exact ⟨vs_fr.rf.us (by decide), hr.1, fun z => absurd (show false = true from z) (by decide), fun _ => ⟨rfl, c.length, by omega, hr.2.2.1.1⟩⟩)
          · have q65 := q65
            have op33 : ah L B p = 33 ∨ ah L B p = 45 := Or.inr q65
            have hpL : p < L := bl_nb ah_bl (fun z => bl_c z (by unfold bl; decide) q65)
            have hop := c_X6_readOpenedO g r d hr6 hd hO hK (vs_us S 15 (nI (p + 1))) L B (hT.fr (show vs_fr [15] [] [] S (vs_us S 15 (nI (p + 1))) from vs_fr.rf.us (by decide)) (by decide) (by decide)) (p + 1) hpL c ⟨rfl, hr.2.1, hr.2.2.1, by omega⟩ (ah L B p) op33
            refine vv_iload_n C dX6_readOperand_68 rfl ?_
            refine vv_bipush C dX6_readOperand_69 bp_6 ?_
            refine vv_icmp_ge (tgt := 95) C dX6_readOperand_71 (by decide) (fun q71 => ?_) (fun q71 => ?_)
            · exact absurd q71 (by rw [xn_lit, xn_le (by omega) (by omega)]; omega)
            · skip
              refine vv_aload_n C dX6_readOperand_74 rfl ?_
              refine vv_dup C dX6_readOperand_75 rfl ?_
              refine gf_X6_at C dX6_readOperand_76 fg_X6_25 ?_
              refine vs_eqi (v9 := nI p) (hr.1) ?_
              refine vv_iconst C dX6_readOperand_79 ic_1 ?_
              refine vv_iadd C dX6_readOperand_80 ?_
              refine vs_eqi (v9 := nI (p + 1)) (nI_1 _) ?_
              refine pf_X6_at C dX6_readOperand_81 fp_X6_25 ?_
              refine vv_aload_n C dX6_readOperand_84 rfl ?_
              refine vv_iload_n C dX6_readOperand_85 rfl ?_
              refine vv_iload_n C dX6_readOperand_86 rfl ?_
              refine vv_iconst C dX6_readOperand_87 ic_1 ?_
              refine vv_iadd C dX6_readOperand_88 ?_
              refine vs_eqi (v9 := nI (6 - r)) (by rw [nI_1]; exact congrArg nI (by omega)) ?_
              refine vs_callv C dX6_readOperand_89 hop mb_X6_readOpened mv_X6_readOpened lk_X6_63 ce_48 rfl rfl rfl rfl ⟨by omega, by omega, Nat.le_of_ble_eq_true rfl⟩ (fun S89 p89 => ?_)
              refine vv_goto (tgt := 103) C dX6_readOperand_92 (by decide) ?_
              first
              | (refine vs_vret C F dX6_readOperand_103 rfl ?_; rw [pzOS r, if_neg (fun z => by rw [z] at yes; exact absurd yes (by decide)), if_neg (fun z => by rcases z with z | z <;> (rw [z] at yes; exact absurd yes (by decide)))]; unfold pzA; rw [if_pos yes]; exact p18)
              | (refine vs_vret C F dX6_readOperand_103 rfl ?_; rw [pzOS r, if_neg (fun z => by rw [z] at nm; exact absurd nm (by decide)), if_neg (fun z => by rcases z with z | z <;> (rw [z] at nm; exact absurd nm (by decide)))]; unfold pzA; rw [if_neg no, if_pos nm]; exact ⟨(vs_fr.rf.us (by decide)).tr wX_fr, rfl, fun _ => ⟨hr.2.1, hc_w (S := vs_us S 15 (nI (p + 1))) hr.2.2.1 (by omega)⟩, fun z => absurd rfl z⟩)
              | (refine vs_vret C F dX6_readOperand_103 rfl ?_; rw [pzOS r, if_pos op40]; exact ⟨(vs_fr.rf.us (by decide)).tr p89.1, p89.2⟩)
              | (refine vs_vret C F dX6_readOperand_103 rfl ?_; rw [pzOS r, if_neg q53, if_pos op33]; exact ⟨(vs_fr.rf.us (by decide)).tr p89.1, p89.2⟩)
              | (refine vs_vret C F dX6_readOperand_103 rfl ?_; rw [pzOS r, if_neg q53, if_neg opn]; unfold pzA; rw [if_neg no, if_neg nm]; exact ⟨vs_fr.rf.us (by decide), hr.1, fun z => absurd (show false = true from z) (by decide), fun _ => ⟨rfl, c.length, by omega, hr.2.2.1.1⟩⟩)
    · have nm : tkN (ah L B p) < 5 := of_decide_eq_true (vs_b1.mp q28)
      have hpL : p < L := bl_nb ah_bl (fun z => by rw [bl_N z] at nm; omega)
      refine vv_aload_n C dX6_readOperand_31 rfl ?_
      refine vv_dup C dX6_readOperand_32 rfl ?_
      refine gf_X6_at C dX6_readOperand_33 fg_X6_25 ?_
      refine vs_eqi (v9 := nI p) (hr.1) ?_
      refine vv_iconst C dX6_readOperand_36 ic_1 ?_
      refine vv_iadd C dX6_readOperand_37 ?_
      refine vs_eqi (v9 := nI (p + 1)) (nI_1 _) ?_
      refine pf_X6_at C dX6_readOperand_38 fp_X6_25 ?_
      refine vv_aload_n C dX6_readOperand_41 rfl ?_
      refine vv_iload_n C dX6_readOperand_42 rfl ?_
      refine vv_ineg C dX6_readOperand_43 ?_
      refine vs_calvF C dX6_readOperand_44 (c_X6_write g (vs_us S 15 (nI (p + 1))) c hr.2.2.1 (by omega) (-(ah L B p))) mb_X6_write mv_X6_write lk_X6_42 ce_48 rfl rfl rfl rfl ⟨by omega, by omega, Nat.le_of_ble_eq_true rfl⟩ ?_
      refine vv_goto (tgt := 103) C dX6_readOperand_47 (by decide) ?_
      first
      | (refine vs_vret C F dX6_readOperand_103 rfl ?_; rw [pzOS r, if_neg (fun z => by rw [z] at yes; exact absurd yes (by decide)), if_neg (fun z => by rcases z with z | z <;> (rw [z] at yes; exact absurd yes (by decide)))]; unfold pzA; rw [if_pos yes]; exact p18)
      | (refine vs_vret C F dX6_readOperand_103 rfl ?_; rw [pzOS r, if_neg (fun z => by rw [z] at nm; exact absurd nm (by decide)), if_neg (fun z => by rcases z with z | z <;> (rw [z] at nm; exact absurd nm (by decide)))]; unfold pzA; rw [if_neg no, if_pos nm]; exact ⟨(vs_fr.rf.us (by decide)).tr wX_fr, rfl, fun _ => ⟨hr.2.1, hc_w (S := vs_us S 15 (nI (p + 1))) hr.2.2.1 (by omega)⟩, fun z => absurd rfl z⟩)
      | (refine vs_vret C F dX6_readOperand_103 rfl ?_; rw [pzOS r, if_pos op40]; exact ⟨(vs_fr.rf.us (by decide)).tr p89.1, p89.2⟩)
      | (refine vs_vret C F dX6_readOperand_103 rfl ?_; rw [pzOS r, if_neg q53, if_pos op33]; exact ⟨(vs_fr.rf.us (by decide)).tr p89.1, p89.2⟩)
      | (refine vs_vret C F dX6_readOperand_103 rfl ?_; rw [pzOS r, if_neg q53, if_neg opn]; unfold pzA; rw [if_neg no, if_neg nm]; exact ⟨vs_fr.rf.us (by decide), hr.1, fun z => absurd (show false = true from z) (by decide), fun _ => ⟨rfl, c.length, by omega, hr.2.2.1.1⟩⟩)
  · skip
    refine vv_iload_n C dX6_readOperand_11 rfl ?_
    refine vv_bipush C dX6_readOperand_12 bp_57 ?_
    refine vv_icmp_gt (tgt := 24) C dX6_readOperand_14 (by decide) (fun q14 => ?_) (fun q14 => ?_)
    · have no : ¬ (48 ≤ ah L B p ∧ ah L B p ≤ 57) := fun z => Int32.not_lt.mpr z.2 q14
      refine vv_iload_n C dX6_readOperand_24 rfl ?_
      refine vs_calsiF C dX6_readOperand_25 (c_X6_isName g S _) mb_X6_isName ms_X6_isName lk_X6_60 rfl rfl ⟨by omega, by omega, Nat.le_of_ble_eq_true rfl⟩ ?_
      refine vv_if_eq (tgt := 50) C dX6_readOperand_28 (by decide) (fun q28 => ?_) (fun q28 => ?_)
      · have nm : ¬ tkN (ah L B p) < 5 := of_decide_eq_false (vs_b0.mp q28)
        refine vv_iload_n C dX6_readOperand_50 rfl ?_
        refine vv_bipush C dX6_readOperand_51 bp_40 ?_
        refine vv_icmp_eq (tgt := 68) C dX6_readOperand_53 (by decide) (fun q53 => ?_) (fun q53 => ?_)
        · have op40 : ah L B p = 40 := q53
          have hpL : p < L := bl_nb ah_bl (fun z => bl_c z (by unfold bl; decide) op40)
          have hop := c_X6_readOpenedR g r d hr6 hd hO hK (vs_us S 15 (nI (p + 1))) L B (hT.fr (show vs_fr [15] [] [] S (vs_us S 15 (nI (p + 1))) from vs_fr.rf.us (by decide)) (by decide) (by decide)) (p + 1) hpL c ⟨rfl, hr.2.1, hr.2.2.1, by omega⟩
          rw [← op40] at hop
          refine vv_iload_n C dX6_readOperand_68 rfl ?_
          refine vv_bipush C dX6_readOperand_69 bp_6 ?_
          refine vv_icmp_ge (tgt := 95) C dX6_readOperand_71 (by decide) (fun q71 => ?_) (fun q71 => ?_)
          · exact absurd q71 (by rw [xn_lit, xn_le (by omega) (by omega)]; omega)
          · skip
            refine vv_aload_n C dX6_readOperand_74 rfl ?_
            refine vv_dup C dX6_readOperand_75 rfl ?_
            refine gf_X6_at C dX6_readOperand_76 fg_X6_25 ?_
            refine vs_eqi (v9 := nI p) (hr.1) ?_
            refine vv_iconst C dX6_readOperand_79 ic_1 ?_
            refine vv_iadd C dX6_readOperand_80 ?_
            refine vs_eqi (v9 := nI (p + 1)) (nI_1 _) ?_
            refine pf_X6_at C dX6_readOperand_81 fp_X6_25 ?_
            refine vv_aload_n C dX6_readOperand_84 rfl ?_
            refine vv_iload_n C dX6_readOperand_85 rfl ?_
            refine vv_iload_n C dX6_readOperand_86 rfl ?_
            refine vv_iconst C dX6_readOperand_87 ic_1 ?_
            refine vv_iadd C dX6_readOperand_88 ?_
            refine vs_eqi (v9 := nI (6 - r)) (by rw [nI_1]; exact congrArg nI (by omega)) ?_
            refine vs_callv C dX6_readOperand_89 hop mb_X6_readOpened mv_X6_readOpened lk_X6_63 ce_48 rfl rfl rfl rfl ⟨by omega, by omega, Nat.le_of_ble_eq_true rfl⟩ (fun S89 p89 => ?_)
            refine vv_goto (tgt := 103) C dX6_readOperand_92 (by decide) ?_
            first
            | (refine vs_vret C F dX6_readOperand_103 rfl ?_; rw [pzOS r, if_neg (fun z => by rw [z] at yes; exact absurd yes (by decide)), if_neg (fun z => by rcases z with z | z <;> (rw [z] at yes; exact absurd yes (by decide)))]; unfold pzA; rw [if_pos yes]; exact p18)
            | (refine vs_vret C F dX6_readOperand_103 rfl ?_; rw [pzOS r, if_neg (fun z => by rw [z] at nm; exact absurd nm (by decide)), if_neg (fun z => by rcases z with z | z <;> (rw [z] at nm; exact absurd nm (by decide)))]; unfold pzA; rw [if_neg no, if_pos nm]; exact ⟨(vs_fr.rf.us (by decide)).tr wX_fr, rfl, fun _ => ⟨hr.2.1, hc_w (S := vs_us S 15 (nI (p + 1))) hr.2.2.1 (by omega)⟩, fun z => absurd rfl z⟩)
            | (refine vs_vret C F dX6_readOperand_103 rfl ?_; rw [pzOS r, if_pos op40]; exact ⟨(vs_fr.rf.us (by decide)).tr p89.1, p89.2⟩)
            | (refine vs_vret C F dX6_readOperand_103 rfl ?_; rw [pzOS r, if_neg q53, if_pos op33]; exact ⟨(vs_fr.rf.us (by decide)).tr p89.1, p89.2⟩)
            | (refine vs_vret C F dX6_readOperand_103 rfl ?_; rw [pzOS r, if_neg q53, if_neg opn]; unfold pzA; rw [if_neg no, if_neg nm]; exact ⟨vs_fr.rf.us (by decide), hr.1, fun z => absurd (show false = true from z) (by decide), fun _ => ⟨rfl, c.length, by omega, hr.2.2.1.1⟩⟩)
        · skip
          refine vv_iload_n C dX6_readOperand_56 rfl ?_
          refine vv_bipush C dX6_readOperand_57 bp_33 ?_
          refine vv_icmp_eq (tgt := 68) C dX6_readOperand_59 (by decide) (fun q59 => ?_) (fun q59 => ?_)
          · have op33 : ah L B p = 33 ∨ ah L B p = 45 := Or.inl q59
            have hpL : p < L := bl_nb ah_bl (fun z => bl_c z (by unfold bl; decide) q59)
            have hop := c_X6_readOpenedO g r d hr6 hd hO hK (vs_us S 15 (nI (p + 1))) L B (hT.fr (show vs_fr [15] [] [] S (vs_us S 15 (nI (p + 1))) from vs_fr.rf.us (by decide)) (by decide) (by decide)) (p + 1) hpL c ⟨rfl, hr.2.1, hr.2.2.1, by omega⟩ (ah L B p) op33
            refine vv_iload_n C dX6_readOperand_68 rfl ?_
            refine vv_bipush C dX6_readOperand_69 bp_6 ?_
            refine vv_icmp_ge (tgt := 95) C dX6_readOperand_71 (by decide) (fun q71 => ?_) (fun q71 => ?_)
            · exact absurd q71 (by rw [xn_lit, xn_le (by omega) (by omega)]; omega)
            · skip
              refine vv_aload_n C dX6_readOperand_74 rfl ?_
              refine vv_dup C dX6_readOperand_75 rfl ?_
              refine gf_X6_at C dX6_readOperand_76 fg_X6_25 ?_
              refine vs_eqi (v9 := nI p) (hr.1) ?_
              refine vv_iconst C dX6_readOperand_79 ic_1 ?_
              refine vv_iadd C dX6_readOperand_80 ?_
              refine vs_eqi (v9 := nI (p + 1)) (nI_1 _) ?_
              refine pf_X6_at C dX6_readOperand_81 fp_X6_25 ?_
              refine vv_aload_n C dX6_readOperand_84 rfl ?_
              refine vv_iload_n C dX6_readOperand_85 rfl ?_
              refine vv_iload_n C dX6_readOperand_86 rfl ?_
              refine vv_iconst C dX6_readOperand_87 ic_1 ?_
              refine vv_iadd C dX6_readOperand_88 ?_
              refine vs_eqi (v9 := nI (6 - r)) (by rw [nI_1]; exact congrArg nI (by omega)) ?_
              refine vs_callv C dX6_readOperand_89 hop mb_X6_readOpened mv_X6_readOpened lk_X6_63 ce_48 rfl rfl rfl rfl ⟨by omega, by omega, Nat.le_of_ble_eq_true rfl⟩ (fun S89 p89 => ?_)
              refine vv_goto (tgt := 103) C dX6_readOperand_92 (by decide) ?_
              first
              | (refine vs_vret C F dX6_readOperand_103 rfl ?_; rw [pzOS r, if_neg (fun z => by rw [z] at yes; exact absurd yes (by decide)), if_neg (fun z => by rcases z with z | z <;> (rw [z] at yes; exact absurd yes (by decide)))]; unfold pzA; rw [if_pos yes]; exact p18)
              | (refine vs_vret C F dX6_readOperand_103 rfl ?_; rw [pzOS r, if_neg (fun z => by rw [z] at nm; exact absurd nm (by decide)), if_neg (fun z => by rcases z with z | z <;> (rw [z] at nm; exact absurd nm (by decide)))]; unfold pzA; rw [if_neg no, if_pos nm]; exact ⟨(vs_fr.rf.us (by decide)).tr wX_fr, rfl, fun _ => ⟨hr.2.1, hc_w (S := vs_us S 15 (nI (p + 1))) hr.2.2.1 (by omega)⟩, fun z => absurd rfl z⟩)
              | (refine vs_vret C F dX6_readOperand_103 rfl ?_; rw [pzOS r, if_pos op40]; exact ⟨(vs_fr.rf.us (by decide)).tr p89.1, p89.2⟩)
              | (refine vs_vret C F dX6_readOperand_103 rfl ?_; rw [pzOS r, if_neg q53, if_pos op33]; exact ⟨(vs_fr.rf.us (by decide)).tr p89.1, p89.2⟩)
              | (refine vs_vret C F dX6_readOperand_103 rfl ?_; rw [pzOS r, if_neg q53, if_neg opn]; unfold pzA; rw [if_neg no, if_neg nm]; exact ⟨vs_fr.rf.us (by decide), hr.1, fun z => absurd (show false = true from z) (by decide), fun _ => ⟨rfl, c.length, by omega, hr.2.2.1.1⟩⟩)
          · skip
            refine vv_iload_n C dX6_readOperand_62 rfl ?_
            refine vv_bipush C dX6_readOperand_63 bp_45 ?_
            refine vv_icmp_ne (tgt := 95) C dX6_readOperand_65 (by decide) (fun q65 => ?_) (fun q65 => ?_)
            · have opn : ¬ (ah L B p = 33 ∨ ah L B p = 45) := fun z => z.elim q59 q65
              refine vv_aload_n C dX6_readOperand_95 rfl ?_
              refine vv_aload_n C dX6_readOperand_96 rfl ?_
              refine gf_X6_at C dX6_readOperand_97 fg_X6_25 ?_
              refine vs_eqi (v9 := nI p) (hr.1) ?_
              refine pf_X6_fault C dX6_readOperand_100 fp_X6_28 ?_
              first
              | (refine vs_vret C F dX6_readOperand_103 rfl ?_; rw [pzOS r, if_neg (fun z => by rw [z] at yes; exact absurd yes (by decide)), if_neg (fun z => by rcases z with z | z <;> (rw [z] at yes; exact absurd yes (by decide)))]; unfold pzA; rw [if_pos yes]; exact p18)
              | (refine vs_vret C F dX6_readOperand_103 rfl ?_; rw [pzOS r, if_neg (fun z => by rw [z] at nm; exact absurd nm (by decide)), if_neg (fun z => by rcases z with z | z <;> (rw [z] at nm; exact absurd nm (by decide)))]; unfold pzA; rw [if_neg no, if_pos nm]; exact ⟨(vs_fr.rf.us (by decide)).tr wX_fr, rfl, fun _ => ⟨hr.2.1, hc_w (S := vs_us S 15 (nI (p + 1))) hr.2.2.1 (by omega)⟩, fun z => absurd rfl z⟩)
              | (refine vs_vret C F dX6_readOperand_103 rfl ?_; rw [pzOS r, if_pos op40]; exact ⟨(vs_fr.rf.us (by decide)).tr p89.1, p89.2⟩)
              | (refine vs_vret C F dX6_readOperand_103 rfl ?_; rw [pzOS r, if_neg q53, if_pos op33]; exact ⟨(vs_fr.rf.us (by decide)).tr p89.1, p89.2⟩)
              | (refine vs_vret C F dX6_readOperand_103 rfl ?_; rw [pzOS r, if_neg q53, if_neg opn]; unfold pzA; rw [if_neg no, if_neg nm]; exact ⟨vs_fr.rf.us (by decide), hr.1, fun z => absurd (show false = true from z) (by decide), fun _ => ⟨rfl, c.length, by omega, hr.2.2.1.1⟩⟩)
            · have q65 := q65
              have op33 : ah L B p = 33 ∨ ah L B p = 45 := Or.inr q65
              have hpL : p < L := bl_nb ah_bl (fun z => bl_c z (by unfold bl; decide) q65)
              have hop := c_X6_readOpenedO g r d hr6 hd hO hK (vs_us S 15 (nI (p + 1))) L B (hT.fr (show vs_fr [15] [] [] S (vs_us S 15 (nI (p + 1))) from vs_fr.rf.us (by decide)) (by decide) (by decide)) (p + 1) hpL c ⟨rfl, hr.2.1, hr.2.2.1, by omega⟩ (ah L B p) op33
              refine vv_iload_n C dX6_readOperand_68 rfl ?_
              refine vv_bipush C dX6_readOperand_69 bp_6 ?_
              refine vv_icmp_ge (tgt := 95) C dX6_readOperand_71 (by decide) (fun q71 => ?_) (fun q71 => ?_)
              · exact absurd q71 (by rw [xn_lit, xn_le (by omega) (by omega)]; omega)
              · skip
                refine vv_aload_n C dX6_readOperand_74 rfl ?_
                refine vv_dup C dX6_readOperand_75 rfl ?_
                refine gf_X6_at C dX6_readOperand_76 fg_X6_25 ?_
                refine vs_eqi (v9 := nI p) (hr.1) ?_
                refine vv_iconst C dX6_readOperand_79 ic_1 ?_
                refine vv_iadd C dX6_readOperand_80 ?_
                refine vs_eqi (v9 := nI (p + 1)) (nI_1 _) ?_
                refine pf_X6_at C dX6_readOperand_81 fp_X6_25 ?_
                refine vv_aload_n C dX6_readOperand_84 rfl ?_
                refine vv_iload_n C dX6_readOperand_85 rfl ?_
                refine vv_iload_n C dX6_readOperand_86 rfl ?_
                refine vv_iconst C dX6_readOperand_87 ic_1 ?_
                refine vv_iadd C dX6_readOperand_88 ?_
                refine vs_eqi (v9 := nI (6 - r)) (by rw [nI_1]; exact congrArg nI (by omega)) ?_
                refine vs_callv C dX6_readOperand_89 hop mb_X6_readOpened mv_X6_readOpened lk_X6_63 ce_48 rfl rfl rfl rfl ⟨by omega, by omega, Nat.le_of_ble_eq_true rfl⟩ (fun S89 p89 => ?_)
                refine vv_goto (tgt := 103) C dX6_readOperand_92 (by decide) ?_
                first
                | (refine vs_vret C F dX6_readOperand_103 rfl ?_; rw [pzOS r, if_neg (fun z => by rw [z] at yes; exact absurd yes (by decide)), if_neg (fun z => by rcases z with z | z <;> (rw [z] at yes; exact absurd yes (by decide)))]; unfold pzA; rw [if_pos yes]; exact p18)
                | (refine vs_vret C F dX6_readOperand_103 rfl ?_; rw [pzOS r, if_neg (fun z => by rw [z] at nm; exact absurd nm (by decide)), if_neg (fun z => by rcases z with z | z <;> (rw [z] at nm; exact absurd nm (by decide)))]; unfold pzA; rw [if_neg no, if_pos nm]; exact ⟨(vs_fr.rf.us (by decide)).tr wX_fr, rfl, fun _ => ⟨hr.2.1, hc_w (S := vs_us S 15 (nI (p + 1))) hr.2.2.1 (by omega)⟩, fun z => absurd rfl z⟩)
                | (refine vs_vret C F dX6_readOperand_103 rfl ?_; rw [pzOS r, if_pos op40]; exact ⟨(vs_fr.rf.us (by decide)).tr p89.1, p89.2⟩)
                | (refine vs_vret C F dX6_readOperand_103 rfl ?_; rw [pzOS r, if_neg q53, if_pos op33]; exact ⟨(vs_fr.rf.us (by decide)).tr p89.1, p89.2⟩)
                | (refine vs_vret C F dX6_readOperand_103 rfl ?_; rw [pzOS r, if_neg q53, if_neg opn]; unfold pzA; rw [if_neg no, if_neg nm]; exact ⟨vs_fr.rf.us (by decide), hr.1, fun z => absurd (show false = true from z) (by decide), fun _ => ⟨rfl, c.length, by omega, hr.2.2.1.1⟩⟩)
      · have nm : tkN (ah L B p) < 5 := of_decide_eq_true (vs_b1.mp q28)
        have hpL : p < L := bl_nb ah_bl (fun z => by rw [bl_N z] at nm; omega)
        refine vv_aload_n C dX6_readOperand_31 rfl ?_
        refine vv_dup C dX6_readOperand_32 rfl ?_
        refine gf_X6_at C dX6_readOperand_33 fg_X6_25 ?_
        refine vs_eqi (v9 := nI p) (hr.1) ?_
        refine vv_iconst C dX6_readOperand_36 ic_1 ?_
        refine vv_iadd C dX6_readOperand_37 ?_
        refine vs_eqi (v9 := nI (p + 1)) (nI_1 _) ?_
        refine pf_X6_at C dX6_readOperand_38 fp_X6_25 ?_
        refine vv_aload_n C dX6_readOperand_41 rfl ?_
        refine vv_iload_n C dX6_readOperand_42 rfl ?_
        refine vv_ineg C dX6_readOperand_43 ?_
        refine vs_calvF C dX6_readOperand_44 (c_X6_write g (vs_us S 15 (nI (p + 1))) c hr.2.2.1 (by omega) (-(ah L B p))) mb_X6_write mv_X6_write lk_X6_42 ce_48 rfl rfl rfl rfl ⟨by omega, by omega, Nat.le_of_ble_eq_true rfl⟩ ?_
        refine vv_goto (tgt := 103) C dX6_readOperand_47 (by decide) ?_
        first
        | (refine vs_vret C F dX6_readOperand_103 rfl ?_; rw [pzOS r, if_neg (fun z => by rw [z] at yes; exact absurd yes (by decide)), if_neg (fun z => by rcases z with z | z <;> (rw [z] at yes; exact absurd yes (by decide)))]; unfold pzA; rw [if_pos yes]; exact p18)
        | (refine vs_vret C F dX6_readOperand_103 rfl ?_; rw [pzOS r, if_neg (fun z => by rw [z] at nm; exact absurd nm (by decide)), if_neg (fun z => by rcases z with z | z <;> (rw [z] at nm; exact absurd nm (by decide)))]; unfold pzA; rw [if_neg no, if_pos nm]; exact ⟨(vs_fr.rf.us (by decide)).tr wX_fr, rfl, fun _ => ⟨hr.2.1, hc_w (S := vs_us S 15 (nI (p + 1))) hr.2.2.1 (by omega)⟩, fun z => absurd rfl z⟩)
        | (refine vs_vret C F dX6_readOperand_103 rfl ?_; rw [pzOS r, if_pos op40]; exact ⟨(vs_fr.rf.us (by decide)).tr p89.1, p89.2⟩)
        | (refine vs_vret C F dX6_readOperand_103 rfl ?_; rw [pzOS r, if_neg q53, if_pos op33]; exact ⟨(vs_fr.rf.us (by decide)).tr p89.1, p89.2⟩)
        | (refine vs_vret C F dX6_readOperand_103 rfl ?_; rw [pzOS r, if_neg q53, if_neg opn]; unfold pzA; rw [if_neg no, if_neg nm]; exact ⟨vs_fr.rf.us (by decide), hr.1, fun z => absurd (show false = true from z) (by decide), fun _ => ⟨rfl, c.length, by omega, hr.2.2.1.1⟩⟩)
    · have yes : 48 ≤ ah L B p ∧ ah L B p ≤ 57 := ⟨Int32.not_lt.mp q8, Int32.not_lt.mp q14⟩
      refine vv_aload_n C dX6_readOperand_17 rfl ?_
      refine vs_callv C dX6_readOperand_18 (c_X6_readNumber g S L B hT p hp c hr) mb_X6_readNumber mv_X6_readNumber lk_X6_57 ce_48 rfl rfl rfl rfl ⟨by omega, by omega, Nat.le_of_ble_eq_true rfl⟩ (fun S18 p18 => ?_)
      refine vv_goto (tgt := 103) C dX6_readOperand_21 (by decide) ?_
      first
      | (refine vs_vret C F dX6_readOperand_103 rfl ?_; rw [pzOS r, if_neg (fun z => by rw [z] at yes; exact absurd yes (by decide)), if_neg (fun z => by rcases z with z | z <;> (rw [z] at yes; exact absurd yes (by decide)))]; unfold pzA; rw [if_pos yes]; exact p18)
      | (refine vs_vret C F dX6_readOperand_103 rfl ?_; rw [pzOS r, if_neg (fun z => by rw [z] at nm; exact absurd nm (by decide)), if_neg (fun z => by rcases z with z | z <;> (rw [z] at nm; exact absurd nm (by decide)))]; unfold pzA; rw [if_neg no, if_pos nm]; exact ⟨(vs_fr.rf.us (by decide)).tr wX_fr, rfl, fun _ => ⟨hr.2.1, hc_w (S := vs_us S 15 (nI (p + 1))) hr.2.2.1 (by omega)⟩, fun z => absurd rfl z⟩)
      | (refine vs_vret C F dX6_readOperand_103 rfl ?_; rw [pzOS r, if_pos op40]; exact ⟨(vs_fr.rf.us (by decide)).tr p89.1, p89.2⟩)
      | (refine vs_vret C F dX6_readOperand_103 rfl ?_; rw [pzOS r, if_neg q53, if_pos op33]; exact ⟨(vs_fr.rf.us (by decide)).tr p89.1, p89.2⟩)
      | (refine vs_vret C F dX6_readOperand_103 rfl ?_; rw [pzOS r, if_neg q53, if_neg opn]; unfold pzA; rw [if_neg no, if_neg nm]; exact ⟨vs_fr.rf.us (by decide), hr.1, fun z => absurd (show false = true from z) (by decide), fun _ => ⟨rfl, c.length, by omega, hr.2.2.1.1⟩⟩)
