theorem EM_all {g : vv_G} {r d : Nat} (hr : r ≤ 6) (hd : 3 ≤ d) (h : RjM g yX12_one cX12_one 5 0 r d) : RjM g yX12_either cX12_either 3 5 r (d + 5) := by
  have h1 : RjM g yX12_product cX12_product 4 1 r (d + 1) := fun S L B N hI p hp hq => c_X12_product g r d hr hd h S L B N hI p hp hq
  have h2 : RjM g yX12_sums cX12_sums 4 2 r (d + 2) := fun S L B N hI p hp hq => c_X12_sums g r (d + 1) hr (by omega) h1 S L B N hI p hp hq
  have h3 : RjM g yX12_compared cX12_compared 4 3 r (d + 3) := fun S L B N hI p hp hq => c_X12_compared g r (d + 2) hr (by omega) h2 S L B N hI p hp hq
  have h4 : RjM g yX12_both cX12_both 3 4 r (d + 4) := fun S L B N hI p hp hq => c_X12_both g r (d + 3) hr (by omega) h3 S L B N hI p hp hq
  exact fun S L B N hI p hp hq => c_X12_either g r (d + 4) hr (by omega) h4 S L B N hI p hp hq
theorem OM_all {g : vv_G} : ∀ r, r ≤ 6 → RjM g yX12_one cX12_one 5 0 r (3 + 6 * r)
  | 0, _ => fun S L B N hI p hp hq => c_X12_one0 g S L B N hI p hp hq
  | r + 1, hr => fun S L B N hI p hp hq => c_X12_oneS g r (3 + 6 * r) (by omega) (by omega) (OM_all r (by omega)) (EM_all (by omega) (by omega) (OM_all r (by omega))) S L B N hI p hp hq
theorem c_X12_expr (g : vv_G) (S : vs_S) (L : Nat) (B N : Nat → Int32) (hI : iX S L B N) (p : Nat) (hp : p ≤ L) (h30 : S.1 30 = nI p) (h32 : S.1 32 = -1) (h33 : S.1 33 = 0) : vs_KI g yX12_either cX12_either 3 (some .int) 44 [vv_r g 65] S (fun v S1 => zX S S1 (pzE (ab L B) p) ∧ ((pzE (ab L B) p).1 = true → v = (pzE (ab L B) p).2.2.2 N)) := EM_all (r := 6) (by omega) (by omega) (OM_all 6 (by omega)) S L B N hI p hp ⟨h30, h32, h33⟩
theorem pzT_c {L : Nat} {B : Nat → Int32} (hL : L ≤ 120) {f p : Nat} (hp : p ≤ L) (hf : 120 ≤ p + f) (h : (pzI (ab L B) p).1 = true) (hc : ab L B (pzI (ab L B) p).2.1 = 59) : ∃ f1, f = f1 + 1 ∧ pzT (ab L B) f p = pz6 (pzI (ab L B) p) (pzT (ab L B) f1 ((pzI (ab L B) p).2.1 + 1)) := by
  have h1 := pOk_I (ab_bl (L := L) (B := B)) p hp
  have h2 := bl_nb (ab_bl (L := L) (B := B)) (fun z => bl_c z (by unfold bl; decide) hc)
  cases f with
  | zero => omega
  | succ f => exact ⟨f, rfl, by rw [pzTS f, if_pos h, if_pos hc]⟩
theorem pzT_n {L : Nat} {B : Nat → Int32} {f p : Nat} (h : (pzI (ab L B) p).1 = true) (hc : ¬ ab L B (pzI (ab L B) p).2.1 = 59) : pzT (ab L B) f p = pz5 (pzI (ab L B) p) := by
  cases f with
  | zero => exact if_pos h
  | succ f => rw [pzTS f, if_pos h, if_neg hc]
theorem pzT_b {L : Nat} {B : Nat → Int32} {f p : Nat} (h : ¬ (pzI (ab L B) p).1 = true) : pzT (ab L B) f p = pF (pzI (ab L B) p).2.1 := by
  cases f with
  | zero => exact if_neg h
  | succ f => rw [pzTS f, if_neg h]

set_option maxRecDepth 20000 in
theorem c_X12_workOut (g : vv_G) (S : vs_S) (L : Nat) (B N : Nat → Int32) (hL : L ≤ 120) (bs ln : Int32) (hln : ln = nI L) (hbs : (bs = -1 ∧ ∀ i, i < L → S.2.1 76 i = B i) ∨ (bs = 0 ∧ ∀ i, i < L → S.2.1 77 i = B i)) (hN : S.2.1 78 = N) : vs_KI g yX12_workOut cX12_workOut 8 (some .int) 45 [vv_r g 65, .int bs, .int ln] S (fun v S1 => vs_fr [29, 30, 31, 32, 33] [] [] S S1 ∧ ((pzX (ab L B) L).1 = true → v = (pzX (ab L B) L).2.2.2 N ∧ S1.1 32 = -1) ∧ (¬ (pzX (ab L B) L).1 = true → S1.1 32 = nI (pzX (ab L B) L).2.1)) := by
  refine vs_ofI (lv := [_, _, _, _, _, _, _, _]) mb_X12_workOut (Nat.le_of_ble_eq_true rfl) rfl (fun x C F => ?_)
  refine vv_aload_n C dX12_workOut_0 rfl ?_
  refine vv_iload_n C dX12_workOut_1 rfl ?_
  refine pf_X12_base C dX12_workOut_2 fp_X12_216 ?_
  refine vv_aload_n C dX12_workOut_5 rfl ?_
  refine vv_iconst C dX12_workOut_6 ic_0 ?_
  refine pf_X12_at C dX12_workOut_7 fp_X12_210 ?_
  refine vv_aload_n C dX12_workOut_10 rfl ?_
  refine vv_iload_n C dX12_workOut_11 rfl ?_
  refine pf_X12_ends C dX12_workOut_12 fp_X12_213 ?_
  refine vv_aload_n C dX12_workOut_15 rfl ?_
  refine vv_iconst C dX12_workOut_16 ic_m1 ?_
  refine pf_X12_fault C dX12_workOut_17 fp_X12_219 ?_
  refine vv_aload_n C dX12_workOut_20 rfl ?_
  refine vv_iconst C dX12_workOut_21 ic_0 ?_
  refine pf_X12_opened C dX12_workOut_22 fp_X12_244 ?_
  refine vv_iconst C dX12_workOut_25 ic_0 ?_
  refine vw_istore_n (lv9 := [_, _, _, _, _, _, _, _]) C dX12_workOut_26 (by decide) rfl rfl ?_
  refine vv_iconst C dX12_workOut_27 ic_0 ?_
  refine vw_istore (lv9 := [_, _, _, _, _, _, _, _]) C dX12_workOut_28 (by decide) rfl rfl ?_
  refine vv_iconst C dX12_workOut_30 ic_1 ?_
  refine vw_istore (lv9 := [_, _, _, _, _, _, _, _]) C dX12_workOut_31 (by decide) rfl rfl ?_
  have badl : ∀ (q : Nat) (got : Bool) (val e use : Int32) (Sb : vs_S), q ≤ L → vs_fr [29, 30, 31, 32, 33] [] [] S Sb → iX Sb L B N → Sb.1 30 = nI q → Sb.1 32 = nI q → (pzT (ab L B) 120 0).1 = false → (pzT (ab L B) 120 0).2.1 = q → vv_V g x 8 0 0 74 [some (vv_r g 65), some (.int bs), some (.int ln), some (.int (vs_b got)), some (.int val), some (.int 1), some (.int e), some (.int use)] [] (vs_cells g Sb) := by
    intro q got val e use Sb hq bf bI b30 b32 hR1 hR2
    have hq31 : q < 2 ^ 31 := by omega
    have hX : (pzX (ab L B) L) = (pzT (ab L B) 120 0) := by
      unfold pzX pz7
      rw [if_neg (fun z => by rw [hR1] at z; exact absurd (show false = true from z.1) (by decide))]
    refine vv_aload_n C dX12_workOut_74 rfl ?_
    refine gf_X12_fault C dX12_workOut_75 fg_X12_219 ?_
    refine vv_if_ge (tgt := 96) C dX12_workOut_78 (by decide) (fun q78 => ?_) (fun q78 => ?_)
    · skip
      refine vv_aload_n C dX12_workOut_96 rfl ?_
      refine vv_bipush C dX12_workOut_97 bp_59 ?_
      refine vs_caliF C dX12_workOut_99 (c_X12_takesN g Sb L B N bI q hq b30 59 (fun z => nf_no hq31 b32 z.1) (Or.inr (nf_ge hq31 b32))) mb_X12_takes mv_X12_takes lk_X12_229 ce_65 rfl rfl rfl rfl ⟨by omega, by omega, Nat.le_of_ble_eq_true rfl⟩ ?_
      refine vw_istore (lv9 := [_, _, _, _, _, _, _, _]) C dX12_workOut_102 (by decide) rfl rfl ?_
      refine vv_goto (tgt := 33) C dX12_workOut_104 (by decide) ?_
      refine vv_iload C dX12_workOut_33 rfl ?_
      refine vv_if_eq (tgt := 107) C dX12_workOut_35 (by decide) (fun q35 => ?_) (fun q35 => ?_)
      · skip
        refine vv_aload_n C dX12_workOut_107 rfl ?_
        refine gf_X12_fault C dX12_workOut_108 fg_X12_219 ?_
        refine vv_if_ge (tgt := 130) C dX12_workOut_111 (by decide) (fun q111 => ?_) (fun q111 => ?_)
        · skip
          refine vv_iload C dX12_workOut_130 rfl ?_
          exact vs_iret C F dX12_workOut_132 rfl ⟨bf, fun z => absurd (show false = true by rw [hX, hR1] at z; exact z) (by decide), fun _ => by rw [hX, hR2]; exact b32⟩
        · exact absurd (nf_ge hq31 b32) q111
      · exact absurd rfl q35
    · exact absurd (nf_ge hq31 b32) q78
  have endl : ∀ (q : Nat) (got val more : Int32) (w6 w7 : Option Value) (Sb : vs_S), q ≤ L → vs_fr [29, 30, 31, 32, 33] [] [] S Sb → iX Sb L B N → Sb.1 30 = nI q → Sb.1 32 = -1 → (pzT (ab L B) 120 0).1 = true → (pzT (ab L B) 120 0).2.1 = q → (pzT (ab L B) 120 0).2.2.2 N = val → vv_V g x 8 0 0 107 [some (vv_r g 65), some (.int bs), some (.int ln), some (.int got), some (.int val), some (.int more), w6, w7] [] (vs_cells g Sb) := by
    intro q got val more w6 w7 Sb hq bf bI b30 b32 hok hpos hval
    by_cases hqL : q < L
    · have hX : (pzX (ab L B) L) = pF q := by
        unfold pzX pz7
        rw [if_pos ⟨hok, by rw [hpos]; exact hqL⟩, hpos]
      refine vv_aload_n C dX12_workOut_107 rfl ?_
      refine gf_X12_fault C dX12_workOut_108 fg_X12_219 ?_
      refine vv_if_ge (tgt := 130) C dX12_workOut_111 (by decide) (fun q111 => ?_) (fun q111 => ?_)
      · exact absurd q111 (nf_m1 b32)
      · skip
        refine vv_aload_n C dX12_workOut_114 rfl ?_
        refine gf_X12_at C dX12_workOut_115 fg_X12_210 ?_
        refine vs_eqi (v9 := nI q) (b30) ?_
        refine vv_aload_n C dX12_workOut_118 rfl ?_
        refine gf_X12_ends C dX12_workOut_119 fg_X12_213 ?_
        refine vs_eqi (v9 := nI L) (bI.1) ?_
        refine vv_icmp_ge (tgt := 130) C dX12_workOut_122 (by decide) (fun q122 => ?_) (fun q122 => ?_)
        · exact absurd q122 (by rw [xn_le (by omega) (by omega)]; omega)
        · skip
          refine vv_aload_n C dX12_workOut_125 rfl ?_
          refine vs_caliF C dX12_workOut_126 (c_X12_wrongN g Sb b32) mb_X12_wrong mv_X12_wrong lk_X12_247 ce_65 rfl rfl rfl rfl ⟨by omega, by omega, Nat.le_of_ble_eq_true rfl⟩ ?_
          exact vs_iret C F dX12_workOut_129 rfl ⟨bf.us (by decide), fun z => absurd (show false = true by rw [hX] at z; exact z) (by decide), fun _ => by rw [hX]; exact b30⟩
    · have hX : (pzX (ab L B) L) = (pzT (ab L B) 120 0) := by
        unfold pzX pz7
        rw [if_neg (fun z => hqL (by rw [← hpos]; exact z.2))]
      refine vv_aload_n C dX12_workOut_107 rfl ?_
      refine gf_X12_fault C dX12_workOut_108 fg_X12_219 ?_
      refine vv_if_ge (tgt := 130) C dX12_workOut_111 (by decide) (fun q111 => ?_) (fun q111 => ?_)
      · exact absurd q111 (nf_m1 b32)
      · skip
        refine vv_aload_n C dX12_workOut_114 rfl ?_
        refine gf_X12_at C dX12_workOut_115 fg_X12_210 ?_
        refine vs_eqi (v9 := nI q) (b30) ?_
        refine vv_aload_n C dX12_workOut_118 rfl ?_
        refine gf_X12_ends C dX12_workOut_119 fg_X12_213 ?_
        refine vs_eqi (v9 := nI L) (bI.1) ?_
        refine vv_icmp_ge (tgt := 130) C dX12_workOut_122 (by decide) (fun q122 => ?_) (fun q122 => ?_)
        · skip
          refine vv_iload C dX12_workOut_130 rfl ?_
          exact vs_iret C F dX12_workOut_132 rfl ⟨bf, fun _ => ⟨by rw [hX]; exact hval.symm, b32⟩, fun z => absurd (by rw [hX]; exact hok) z⟩
        · exact absurd (show nI L ≤ nI q by rw [xn_le (by omega) (by omega)]; omega) q122
  have loop : ∀ (n f p : Nat) (got : Bool) (val : Int32) (w6 w7 : Option Value) (Sa : vs_S), L - p < n → p ≤ L → 120 ≤ p + f → vs_fr [29, 30, 31, 32, 33] [] [] S Sa → iX Sa L B N → Sa.1 30 = nI p → Sa.1 32 = -1 → Sa.1 33 = 0 → (got = false → val = 0) → ((pzT (ab L B) 120 0).1 = (pzT (ab L B) f p).1 ∧ (pzT (ab L B) 120 0).2.1 = (pzT (ab L B) f p).2.1 ∧ ((pzT (ab L B) f p).1 = true → (pzT (ab L B) 120 0).2.2.2 N = if got = true then val else (pzT (ab L B) f p).2.2.2 N)) → vv_V g x 8 0 0 33 [some (vv_r g 65), some (.int bs), some (.int ln), some (.int (vs_b got)), some (.int val), some (.int 1), w6, w7] [] (vs_cells g Sa) := by
    intro n
    induction n with
    | zero =>
      intro f p got val w6 w7 Sa hn
      omega
    | succ n ih =>
      intro f p got val w6 w7 Sa hn hp hb9 af aI a30 a32 a33 hgv hR
      refine vv_iload C dX12_workOut_33 rfl ?_
      refine vv_if_eq (tgt := 107) C dX12_workOut_35 (by decide) (fun q35 => ?_) (fun q35 => ?_)
      · exact absurd q35 (by decide)
      · skip
        refine vv_aload_n C dX12_workOut_38 rfl ?_
        refine vs_calli C dX12_workOut_39 (c_X12_expr g Sa L B N aI p hp a30 a32 a33) mb_X12_either mv_X12_either lk_X12_250 ce_65 rfl rfl rfl rfl ⟨by omega, by omega, Nat.le_of_ble_eq_true rfl⟩ (fun r39 S39 p39 => ?_)
        have hpo := pOk_E (ab_bl (L := L) (B := B)) p hp
        have okd : ∀ (Sb : vs_S), (pzI (ab L B) p).1 = true → vs_fr [29, 30, 31, 32, 33] [] [] S Sb → iX Sb L B N → Sb.1 30 = nI (pzI (ab L B) p).2.1 → Sb.1 32 = -1 → Sb.1 33 = 0 → vv_V g x 8 0 0 74 [some (vv_r g 65), some (.int bs), some (.int ln), some (.int (vs_b got)), some (.int val), some (.int 1), some (.int ((pzI (ab L B) p).2.2.2.2 N)), some (.int (vs_b ((pzI (ab L B) p).2.2.2.1 N)))] [] (vs_cells g Sb) := by
          intro Sb hi bf bI b30 b32 b33
          have hio := pOk_I (ab_bl (L := L) (B := B)) p hp
          have okl : vv_V g x 8 0 0 74 [some (vv_r g 65), some (.int bs), some (.int ln), some (.int (vs_b got)), some (.int val), some (.int 1), some (.int ((pzI (ab L B) p).2.2.2.2 N)), some (.int (vs_b ((pzI (ab L B) p).2.2.2.1 N)))] [] (vs_cells g Sb) := by
            by_cases hc : ab L B (pzI (ab L B) p).2.1 = 59
            · obtain ⟨f1, ef, eT⟩ := pzT_c hL hp hb9 hi hc
              subst ef
              have hqL : (pzI (ab L B) p).2.1 < L := bl_nb (ab_bl (L := L) (B := B)) (fun z => bl_c z (by unfold bl; decide) hc)
              rw [eT] at hR
              have go : ∀ (g2 : Bool) (v2 : Int32), (∀ rest : Int32, (if got = true then val else if (pzI (ab L B) p).2.2.2.1 N = true then (pzI (ab L B) p).2.2.2.2 N else rest) = if g2 = true then v2 else rest) → (g2 = false → v2 = 0) → ∀ w6 w7, vv_V g x 8 0 0 33 [some (vv_r g 65), some (.int bs), some (.int ln), some (.int (vs_b g2)), some (.int v2), some (.int (vs_b true)), w6, w7] [] (vs_cells g (vs_us Sb 30 (nI ((pzI (ab L B) p).2.1 + 1)))) := by
                intro g2 v2 h1 h2 w6 w7
                refine ih f1 ((pzI (ab L B) p).2.1 + 1) g2 v2 w6 w7 _ (by omega) hqL (by omega) (bf.us (by decide)) (bI.fr (vs_fr.rf.us (by decide))) rfl b32 b33 h2 ?_
                unfold pz6 at hR
                by_cases hy : (pzT (ab L B) f1 ((pzI (ab L B) p).2.1 + 1)).1 = true
                · rw [if_pos hy] at hR
                  exact ⟨hR.1.trans hy.symm, hR.2.1, fun _ => (hR.2.2 rfl).trans (h1 _)⟩
                · rw [if_neg hy] at hR
                  exact ⟨hR.1.trans (by cases e : (pzT (ab L B) f1 ((pzI (ab L B) p).2.1 + 1)).1; rfl; exact absurd e hy), hR.2.1, fun z => absurd z hy⟩
              refine vv_aload_n C dX12_workOut_74 rfl ?_
              refine gf_X12_fault C dX12_workOut_75 fg_X12_219 ?_
              refine vv_if_ge (tgt := 96) C dX12_workOut_78 (by decide) (fun q78 => ?_) (fun q78 => ?_)
              · exact absurd q78 (nf_m1 b32)
              · skip
                refine vv_iload C dX12_workOut_81 rfl ?_
                refine vv_if_eq (tgt := 96) C dX12_workOut_83 (by decide) (fun q83 => ?_) (fun q83 => ?_)
                · have hcd : (pzI (ab L B) p).2.2.2.1 N = false := vs_b0.mp q83
                  refine vv_aload_n C dX12_workOut_96 rfl ?_
                  refine vv_bipush C dX12_workOut_97 bp_59 ?_
                  refine vs_caliF C dX12_workOut_99 (c_X12_takesY g Sb L B N bI (pzI (ab L B) p).2.1 hio.1 b30 b32 59 hc) mb_X12_takes mv_X12_takes lk_X12_229 ce_65 rfl rfl rfl rfl ⟨by omega, by omega, Nat.le_of_ble_eq_true rfl⟩ ?_
                  refine vw_istore (lv9 := [_, _, _, _, _, _, _, _]) C dX12_workOut_102 (by decide) rfl rfl ?_
                  refine vv_goto (tgt := 33) C dX12_workOut_104 (by decide) ?_
                  first
                  | exact go got val (fun rest => by rw [hcd]; rfl) hgv _ _
                  | exact go got val (fun rest => by rw [hg]; rfl) hgv _ _
                  | exact go true ((pzI (ab L B) p).2.2.2.2 N) (fun rest => by rw [hg, hcd]; rfl) (fun z => by cases z) _ _
                · have hcd : (pzI (ab L B) p).2.2.2.1 N = true := vs_b1.mp q83
                  refine vv_iload_n C dX12_workOut_86 rfl ?_
                  refine vv_if_ne (tgt := 96) C dX12_workOut_87 (by decide) (fun q87 => ?_) (fun q87 => ?_)
                  · have hg : got = true := vs_b1.mp q87
                    refine vv_aload_n C dX12_workOut_96 rfl ?_
                    refine vv_bipush C dX12_workOut_97 bp_59 ?_
                    refine vs_caliF C dX12_workOut_99 (c_X12_takesY g Sb L B N bI (pzI (ab L B) p).2.1 hio.1 b30 b32 59 hc) mb_X12_takes mv_X12_takes lk_X12_229 ce_65 rfl rfl rfl rfl ⟨by omega, by omega, Nat.le_of_ble_eq_true rfl⟩ ?_
                    refine vw_istore (lv9 := [_, _, _, _, _, _, _, _]) C dX12_workOut_102 (by decide) rfl rfl ?_
                    refine vv_goto (tgt := 33) C dX12_workOut_104 (by decide) ?_
                    first
                    | exact go got val (fun rest => by rw [hcd]; rfl) hgv _ _
                    | exact go got val (fun rest => by rw [hg]; rfl) hgv _ _
                    | exact go true ((pzI (ab L B) p).2.2.2.2 N) (fun rest => by rw [hg, hcd]; rfl) (fun z => by cases z) _ _
                  · have hg : got = false := vs_b0.mp q87
                    refine vv_iconst C dX12_workOut_90 ic_1 ?_
                    refine vw_istore_n (lv9 := [_, _, _, _, _, _, _, _]) C dX12_workOut_91 (by decide) rfl rfl ?_
                    refine vv_iload C dX12_workOut_92 rfl ?_
                    refine vw_istore (lv9 := [_, _, _, _, _, _, _, _]) C dX12_workOut_94 (by decide) rfl rfl ?_
                    refine vv_aload_n C dX12_workOut_96 rfl ?_
                    refine vv_bipush C dX12_workOut_97 bp_59 ?_
                    refine vs_caliF C dX12_workOut_99 (c_X12_takesY g Sb L B N bI (pzI (ab L B) p).2.1 hio.1 b30 b32 59 hc) mb_X12_takes mv_X12_takes lk_X12_229 ce_65 rfl rfl rfl rfl ⟨by omega, by omega, Nat.le_of_ble_eq_true rfl⟩ ?_
                    refine vw_istore (lv9 := [_, _, _, _, _, _, _, _]) C dX12_workOut_102 (by decide) rfl rfl ?_
                    refine vv_goto (tgt := 33) C dX12_workOut_104 (by decide) ?_
                    first
                    | exact go got val (fun rest => by rw [hcd]; rfl) hgv _ _
                    | exact go got val (fun rest => by rw [hg]; rfl) hgv _ _
                    | exact go true ((pzI (ab L B) p).2.2.2.2 N) (fun rest => by rw [hg, hcd]; rfl) (fun z => by cases z) _ _
            · have eT := pzT_n (f := f) hi hc
              rw [eT] at hR
              have en : ∀ (g2 : Int32) (v2 : Int32), (if got = true then val else if (pzI (ab L B) p).2.2.2.1 N = true then (pzI (ab L B) p).2.2.2.2 N else 0) = v2 → ∀ mo w6 w7, vv_V g x 8 0 0 107 [some (vv_r g 65), some (.int bs), some (.int ln), some (.int g2), some (.int v2), some (.int mo), w6, w7] [] (vs_cells g Sb) := fun g2 v2 h1 mo w6 w7 => endl (pzI (ab L B) p).2.1 g2 v2 mo w6 w7 Sb hio.1 bf bI b30 b32 hR.1 hR.2.1 ((hR.2.2 rfl).trans h1)
              refine vv_aload_n C dX12_workOut_74 rfl ?_
              refine gf_X12_fault C dX12_workOut_75 fg_X12_219 ?_
              refine vv_if_ge (tgt := 96) C dX12_workOut_78 (by decide) (fun q78 => ?_) (fun q78 => ?_)
              · exact absurd q78 (nf_m1 b32)
              · skip
                refine vv_iload C dX12_workOut_81 rfl ?_
                refine vv_if_eq (tgt := 96) C dX12_workOut_83 (by decide) (fun q83 => ?_) (fun q83 => ?_)
                · have hcd : (pzI (ab L B) p).2.2.2.1 N = false := vs_b0.mp q83
                  refine vv_aload_n C dX12_workOut_96 rfl ?_
                  refine vv_bipush C dX12_workOut_97 bp_59 ?_
                  refine vs_caliF C dX12_workOut_99 (c_X12_takesN g Sb L B N bI (pzI (ab L B) p).2.1 hio.1 b30 59 (fun z => hc z.2) (Or.inl b32)) mb_X12_takes mv_X12_takes lk_X12_229 ce_65 rfl rfl rfl rfl ⟨by omega, by omega, Nat.le_of_ble_eq_true rfl⟩ ?_
                  refine vw_istore (lv9 := [_, _, _, _, _, _, _, _]) C dX12_workOut_102 (by decide) rfl rfl ?_
                  refine vv_goto (tgt := 33) C dX12_workOut_104 (by decide) ?_
                  refine vv_iload C dX12_workOut_33 rfl ?_
                  refine vv_if_eq (tgt := 107) C dX12_workOut_35 (by decide) (fun q35 => ?_) (fun q35 => ?_)
                  · skip
                    first
                    | exact en _ val (by rw [hcd]; cases got; exact (hgv rfl).symm; rfl) _ _ _
                    | exact en _ val (by rw [hg]; rfl) _ _ _
                    | exact en _ ((pzI (ab L B) p).2.2.2.2 N) (by rw [hg, hcd]; rfl) _ _ _
                  · exact absurd rfl q35
                · have hcd : (pzI (ab L B) p).2.2.2.1 N = true := vs_b1.mp q83
                  refine vv_iload_n C dX12_workOut_86 rfl ?_
                  refine vv_if_ne (tgt := 96) C dX12_workOut_87 (by decide) (fun q87 => ?_) (fun q87 => ?_)
                  · have hg : got = true := vs_b1.mp q87
                    refine vv_aload_n C dX12_workOut_96 rfl ?_
                    refine vv_bipush C dX12_workOut_97 bp_59 ?_
                    refine vs_caliF C dX12_workOut_99 (c_X12_takesN g Sb L B N bI (pzI (ab L B) p).2.1 hio.1 b30 59 (fun z => hc z.2) (Or.inl b32)) mb_X12_takes mv_X12_takes lk_X12_229 ce_65 rfl rfl rfl rfl ⟨by omega, by omega, Nat.le_of_ble_eq_true rfl⟩ ?_
                    refine vw_istore (lv9 := [_, _, _, _, _, _, _, _]) C dX12_workOut_102 (by decide) rfl rfl ?_
                    refine vv_goto (tgt := 33) C dX12_workOut_104 (by decide) ?_
                    refine vv_iload C dX12_workOut_33 rfl ?_
                    refine vv_if_eq (tgt := 107) C dX12_workOut_35 (by decide) (fun q35 => ?_) (fun q35 => ?_)
                    · skip
                      first
                      | exact en _ val (by rw [hcd]; cases got; exact (hgv rfl).symm; rfl) _ _ _
                      | exact en _ val (by rw [hg]; rfl) _ _ _
                      | exact en _ ((pzI (ab L B) p).2.2.2.2 N) (by rw [hg, hcd]; rfl) _ _ _
                    · exact absurd rfl q35
                  · have hg : got = false := vs_b0.mp q87
                    refine vv_iconst C dX12_workOut_90 ic_1 ?_
                    refine vw_istore_n (lv9 := [_, _, _, _, _, _, _, _]) C dX12_workOut_91 (by decide) rfl rfl ?_
                    refine vv_iload C dX12_workOut_92 rfl ?_
                    refine vw_istore (lv9 := [_, _, _, _, _, _, _, _]) C dX12_workOut_94 (by decide) rfl rfl ?_
                    refine vv_aload_n C dX12_workOut_96 rfl ?_
                    refine vv_bipush C dX12_workOut_97 bp_59 ?_
                    refine vs_caliF C dX12_workOut_99 (c_X12_takesN g Sb L B N bI (pzI (ab L B) p).2.1 hio.1 b30 59 (fun z => hc z.2) (Or.inl b32)) mb_X12_takes mv_X12_takes lk_X12_229 ce_65 rfl rfl rfl rfl ⟨by omega, by omega, Nat.le_of_ble_eq_true rfl⟩ ?_
                    refine vw_istore (lv9 := [_, _, _, _, _, _, _, _]) C dX12_workOut_102 (by decide) rfl rfl ?_
                    refine vv_goto (tgt := 33) C dX12_workOut_104 (by decide) ?_
                    refine vv_iload C dX12_workOut_33 rfl ?_
                    refine vv_if_eq (tgt := 107) C dX12_workOut_35 (by decide) (fun q35 => ?_) (fun q35 => ?_)
                    · skip
                      first
                      | exact en _ val (by rw [hcd]; cases got; exact (hgv rfl).symm; rfl) _ _ _
                      | exact en _ val (by rw [hg]; rfl) _ _ _
                      | exact en _ ((pzI (ab L B) p).2.2.2.2 N) (by rw [hg, hcd]; rfl) _ _ _
                    · exact absurd rfl q35
          exact okl
        by_cases ht : (pzE (ab L B) p).1 = true
        · have e9 := p39.2 ht
          subst e9
          by_cases hq : ab L B (pzE (ab L B) p).2.1 = 63
          · have hqL : (pzE (ab L B) p).2.1 < L := bl_nb (ab_bl (L := L) (B := B)) (fun z => bl_c z (by unfold bl; decide) hq)
            refine vw_istore (lv9 := [_, _, _, _, _, _, _, _]) C dX12_workOut_42 (by decide) rfl rfl ?_
            refine vv_iconst C dX12_workOut_44 ic_1 ?_
            refine vw_istore (lv9 := [_, _, _, _, _, _, _, _]) C dX12_workOut_45 (by decide) rfl rfl ?_
            refine vv_aload_n C dX12_workOut_47 rfl ?_
            refine vv_bipush C dX12_workOut_48 bp_63 ?_
            refine vs_caliF C dX12_workOut_50 (c_X12_takesY g S39 L B N (aI.fr p39.1.1) (pzE (ab L B) p).2.1 hpo.1 p39.1.2.1 (p39.1.2.2.1 ht).1 63 hq) mb_X12_takes mv_X12_takes lk_X12_229 ce_65 rfl rfl rfl rfl ⟨by omega, by omega, Nat.le_of_ble_eq_true rfl⟩ ?_
            refine vv_if_eq (tgt := 74) C dX12_workOut_53 (by decide) (fun q53 => ?_) (fun q53 => ?_)
            · exact absurd q53 (by decide)
            · skip
              refine vv_iload C dX12_workOut_56 rfl ?_
              refine vv_if_eq (tgt := 65) C dX12_workOut_58 (by decide) (fun q58 => ?_) (fun q58 => ?_)
              · refine vv_iconst C dX12_workOut_65 ic_0 ?_
                refine vs_eqi (v9 := vs_b (!((pzE (ab L B) p).2.2.2 N == 0))) (by simp [vs_b, q58]) ?_
                refine vw_istore (lv9 := [_, _, _, _, _, _, _, _]) C dX12_workOut_66 (by decide) rfl rfl ?_
                refine vv_aload_n C dX12_workOut_68 rfl ?_
                refine vs_calli C dX12_workOut_69 (c_X12_expr g (vs_us S39 30 (nI ((pzE (ab L B) p).2.1 + 1))) L B N ((aI.fr p39.1.1).fr (vs_fr.rf.us (by decide))) ((pzE (ab L B) p).2.1 + 1) hqL rfl (p39.1.2.2.1 ht).1 ((p39.1.2.2.1 ht).2.trans a33)) mb_X12_either mv_X12_either lk_X12_250 ce_65 rfl rfl rfl rfl ⟨by omega, by omega, Nat.le_of_ble_eq_true rfl⟩ (fun r69 S69 p69 => ?_)
                refine vw_istore (lv9 := [_, _, _, _, _, _, _, _]) C dX12_workOut_72 (by decide) rfl rfl ?_
                have hyo := pOk_E (ab_bl (L := L) (B := B)) ((pzE (ab L B) p).2.1 + 1) hqL
                have bf : vs_fr [29, 30, 31, 32, 33] [] [] S S69 := ((af.tr (p39.1.1.wd (by decide) (by decide) (by decide))).us (by decide)).tr (p69.1.1.wd (by decide) (by decide) (by decide))
                have bI : iX S69 L B N := ((aI.fr p39.1.1).fr (vs_fr.rf.us (by decide))).fr p69.1.1
                by_cases hy : (pzE (ab L B) ((pzE (ab L B) p).2.1 + 1)).1 = true
                · have hv : (pzI (ab L B) p) = (true, (pzE (ab L B) ((pzE (ab L B) p).2.1 + 1)).2.1, (pzE (ab L B) p).2.2.1 ++ (-63 :: (pzE (ab L B) ((pzE (ab L B) p).2.1 + 1)).2.2.1), fun N => !((pzE (ab L B) p).2.2.2 N == 0), (pzE (ab L B) ((pzE (ab L B) p).2.1 + 1)).2.2.2) := by
                    unfold pzI pz3
                    rw [if_pos ht, if_pos hq]
                    exact if_pos hy
                  have e9 := p69.2 hy
                  subst e9
                  have k := okd S69 (by rw [hv]) bf bI (by rw [hv]; exact p69.1.2.1) (p69.1.2.2.1 hy).1 ((p69.1.2.2.1 hy).2.trans ((p39.1.2.2.1 ht).2.trans a33))
                  rw [hv] at k
                  exact k
                · have hv : (pzI (ab L B) p) = (false, (pzE (ab L B) ((pzE (ab L B) p).2.1 + 1)).2.1, [], fun _ => false, fun _ => 0) := by
                    unfold pzI pz3
                    rw [if_pos ht, if_pos hq]
                    exact if_neg hy
                  refine badl (pzE (ab L B) ((pzE (ab L B) p).2.1 + 1)).2.1 got val _ _ S69 hyo.1 bf bI p69.1.2.1 (p69.1.2.2.2 hy) ?_ ?_
                  · exact hR.1.trans (congrArg (fun t9 : pT => t9.1) (pzT_b (f := f) (p := p) (L := L) (B := B) (fun z => absurd (show false = true by rw [hv] at z; exact z) (by decide))))
                  · exact hR.2.1.trans ((congrArg (fun t9 : pT => t9.2.1) (pzT_b (f := f) (p := p) (L := L) (B := B) (fun z => absurd (show false = true by rw [hv] at z; exact z) (by decide)))).trans (congrArg (fun t9 : pL => t9.2.1) hv))
              · refine vv_iconst C dX12_workOut_61 ic_1 ?_
                refine vv_goto (tgt := 66) C dX12_workOut_62 (by decide) ?_
                refine vs_eqi (v9 := vs_b (!((pzE (ab L B) p).2.2.2 N == 0))) (by simp [vs_b, q58]) ?_
                refine vw_istore (lv9 := [_, _, _, _, _, _, _, _]) C dX12_workOut_66 (by decide) rfl rfl ?_
                refine vv_aload_n C dX12_workOut_68 rfl ?_
                refine vs_calli C dX12_workOut_69 (c_X12_expr g (vs_us S39 30 (nI ((pzE (ab L B) p).2.1 + 1))) L B N ((aI.fr p39.1.1).fr (vs_fr.rf.us (by decide))) ((pzE (ab L B) p).2.1 + 1) hqL rfl (p39.1.2.2.1 ht).1 ((p39.1.2.2.1 ht).2.trans a33)) mb_X12_either mv_X12_either lk_X12_250 ce_65 rfl rfl rfl rfl ⟨by omega, by omega, Nat.le_of_ble_eq_true rfl⟩ (fun r69 S69 p69 => ?_)
                refine vw_istore (lv9 := [_, _, _, _, _, _, _, _]) C dX12_workOut_72 (by decide) rfl rfl ?_
                have hyo := pOk_E (ab_bl (L := L) (B := B)) ((pzE (ab L B) p).2.1 + 1) hqL
                have bf : vs_fr [29, 30, 31, 32, 33] [] [] S S69 := ((af.tr (p39.1.1.wd (by decide) (by decide) (by decide))).us (by decide)).tr (p69.1.1.wd (by decide) (by decide) (by decide))
                have bI : iX S69 L B N := ((aI.fr p39.1.1).fr (vs_fr.rf.us (by decide))).fr p69.1.1
                by_cases hy : (pzE (ab L B) ((pzE (ab L B) p).2.1 + 1)).1 = true
                · have hv : (pzI (ab L B) p) = (true, (pzE (ab L B) ((pzE (ab L B) p).2.1 + 1)).2.1, (pzE (ab L B) p).2.2.1 ++ (-63 :: (pzE (ab L B) ((pzE (ab L B) p).2.1 + 1)).2.2.1), fun N => !((pzE (ab L B) p).2.2.2 N == 0), (pzE (ab L B) ((pzE (ab L B) p).2.1 + 1)).2.2.2) := by
                    unfold pzI pz3
                    rw [if_pos ht, if_pos hq]
                    exact if_pos hy
                  have e9 := p69.2 hy
                  subst e9
                  have k := okd S69 (by rw [hv]) bf bI (by rw [hv]; exact p69.1.2.1) (p69.1.2.2.1 hy).1 ((p69.1.2.2.1 hy).2.trans ((p39.1.2.2.1 ht).2.trans a33))
                  rw [hv] at k
                  exact k
                · have hv : (pzI (ab L B) p) = (false, (pzE (ab L B) ((pzE (ab L B) p).2.1 + 1)).2.1, [], fun _ => false, fun _ => 0) := by
                    unfold pzI pz3
                    rw [if_pos ht, if_pos hq]
                    exact if_neg hy
                  refine badl (pzE (ab L B) ((pzE (ab L B) p).2.1 + 1)).2.1 got val _ _ S69 hyo.1 bf bI p69.1.2.1 (p69.1.2.2.2 hy) ?_ ?_
                  · exact hR.1.trans (congrArg (fun t9 : pT => t9.1) (pzT_b (f := f) (p := p) (L := L) (B := B) (fun z => absurd (show false = true by rw [hv] at z; exact z) (by decide))))
                  · exact hR.2.1.trans ((congrArg (fun t9 : pT => t9.2.1) (pzT_b (f := f) (p := p) (L := L) (B := B) (fun z => absurd (show false = true by rw [hv] at z; exact z) (by decide)))).trans (congrArg (fun t9 : pL => t9.2.1) hv))
          · refine vw_istore (lv9 := [_, _, _, _, _, _, _, _]) C dX12_workOut_42 (by decide) rfl rfl ?_
            refine vv_iconst C dX12_workOut_44 ic_1 ?_
            refine vw_istore (lv9 := [_, _, _, _, _, _, _, _]) C dX12_workOut_45 (by decide) rfl rfl ?_
            refine vv_aload_n C dX12_workOut_47 rfl ?_
            refine vv_bipush C dX12_workOut_48 bp_63 ?_
            refine vs_caliF C dX12_workOut_50 (c_X12_takesN g S39 L B N (aI.fr p39.1.1) (pzE (ab L B) p).2.1 hpo.1 p39.1.2.1 63 (fun z => hq z.2) (Or.inl (p39.1.2.2.1 ht).1)) mb_X12_takes mv_X12_takes lk_X12_229 ce_65 rfl rfl rfl rfl ⟨by omega, by omega, Nat.le_of_ble_eq_true rfl⟩ ?_
            refine vv_if_eq (tgt := 74) C dX12_workOut_53 (by decide) (fun q53 => ?_) (fun q53 => ?_)
            · skip
              have hv : (pzI (ab L B) p) = (true, (pzE (ab L B) p).2.1, (pzE (ab L B) p).2.2.1, fun _ => true, (pzE (ab L B) p).2.2.2) := by
                unfold pzI pz3
                rw [if_pos ht, if_neg hq]
              have k := okd S39 (by rw [hv]) (af.tr (p39.1.1.wd (by decide) (by decide) (by decide))) (aI.fr p39.1.1) (by rw [hv]; exact p39.1.2.1) (p39.1.2.2.1 ht).1 ((p39.1.2.2.1 ht).2.trans a33)
              rw [hv] at k
              exact k
            · exact absurd rfl q53
        · have h32 := p39.1.2.2.2 ht
          have hy31 : (pzE (ab L B) p).2.1 < 2 ^ 31 := by have := hpo.1; omega
          refine vw_istore (lv9 := [_, _, _, _, _, _, _, _]) C dX12_workOut_42 (by decide) rfl rfl ?_
          refine vv_iconst C dX12_workOut_44 ic_1 ?_
          refine vw_istore (lv9 := [_, _, _, _, _, _, _, _]) C dX12_workOut_45 (by decide) rfl rfl ?_
          refine vv_aload_n C dX12_workOut_47 rfl ?_
          refine vv_bipush C dX12_workOut_48 bp_63 ?_
          refine vs_caliF C dX12_workOut_50 (c_X12_takesN g S39 L B N (aI.fr p39.1.1) (pzE (ab L B) p).2.1 hpo.1 p39.1.2.1 63 (fun z => nf_no hy31 h32 z.1) (Or.inr (nf_ge hy31 h32))) mb_X12_takes mv_X12_takes lk_X12_229 ce_65 rfl rfl rfl rfl ⟨by omega, by omega, Nat.le_of_ble_eq_true rfl⟩ ?_
          refine vv_if_eq (tgt := 74) C dX12_workOut_53 (by decide) (fun q53 => ?_) (fun q53 => ?_)
          · skip
            have hv : (pzI (ab L B) p) = (false, (pzE (ab L B) p).2.1, [], fun _ => false, fun _ => 0) := by
              unfold pzI pz3
              rw [if_neg ht]
            refine badl (pzE (ab L B) p).2.1 got val _ _ S39 hpo.1 (af.tr (p39.1.1.wd (by decide) (by decide) (by decide))) (aI.fr p39.1.1) p39.1.2.1 h32 ?_ ?_
            · exact hR.1.trans (congrArg (fun t9 : pT => t9.1) (pzT_b (f := f) (p := p) (L := L) (B := B) (fun z => absurd (show false = true by rw [hv] at z; exact z) (by decide))))
            · exact hR.2.1.trans ((congrArg (fun t9 : pT => t9.2.1) (pzT_b (f := f) (p := p) (L := L) (B := B) (fun z => absurd (show false = true by rw [hv] at z; exact z) (by decide)))).trans (congrArg (fun t9 : pL => t9.2.1) hv))
          · exact absurd rfl q53
  exact loop (L + 1) 120 0 false 0 _ _ _ (by omega) (Nat.zero_le _) (by omega) (((((vs_fr.rf.us (by decide)).us (by decide)).us (by decide)).us (by decide)).us (by decide)) ⟨hln, hL, hbs, hN⟩ rfl rfl rfl (fun _ => rfl) ⟨rfl, rfl, fun _ => rfl⟩
