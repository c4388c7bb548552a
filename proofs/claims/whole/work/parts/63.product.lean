def RjM (g : vv_G) (y : MethodName) (cc : ByteArray) (nL j r d : Nat) : Prop := ∀ (S : vs_S) (L : Nat) (B N : Nat → Int32), iX S L B N → ∀ (p : Nat), p ≤ L → qX S p r → vs_KI g y cc nL (some .int) d [vv_r g 65] S (fun v S1 => zX S S1 (pzR (pzO (ab L B) r) (ab L B) j p) ∧ ((pzR (pzO (ab L B) r) (ab L B) j p).1 = true → v = (pzR (pzO (ab L B) r) (ab L B) j p).2.2.2 N))
theorem tkm {b v y : Int32} (h : b = 42) : v * y = tkV b v y := by subst h; rfl
theorem tkd0 {b v y : Int32} (h : b = 47 ∨ b = 37) (hy : y = 0) : 0 = tkV b v y := by
  rcases h with e | e <;> subst e <;> subst hy <;> rfl
theorem tkd {b v y : Int32} (h : b = 47) (hy : ¬ y = 0) : v / y = tkV b v y := by subst h; exact (if_neg hy).symm
theorem tkr {b v y : Int32} (h : b = 37) (hy : ¬ y = 0) : v % y = tkV b v y := by subst h; exact (if_neg hy).symm
theorem tkpl {b v y : Int32} (h : b = 43) : v + y = tkV b v y := by subst h; rfl
theorem tkmi {b v y : Int32} (h : b = 45) : v - y = tkV b v y := by subst h; rfl
theorem tkan {b v y : Int32} (h : b = 38) : (if v = 0 ∨ y = 0 then (0 : Int32) else 1) = tkV b v y := by subst h; rfl
theorem tkor {b v y : Int32} (h : b = 124) : (if v = 0 ∧ y = 0 then (0 : Int32) else 1) = tkV b v y := by subst h; rfl
theorem tklt {b v y : Int32} (h : b = 60) : (if v < y then (1 : Int32) else 0) = tkV b v y := by subst h; rfl
theorem tkeq {b v y : Int32} (h : b = 61) : (if v = y then (1 : Int32) else 0) = tkV b v y := by subst h; rfl
theorem tkgt {b v y : Int32} (h : b = 62) : (if y < v then (1 : Int32) else 0) = tkV b v y := by subst h; rfl
theorem nf_m1 {S : vs_S} (h : S.1 32 = -1) : ¬ 0 ≤ S.1 32 := by rw [h]; decide
theorem nf_ge {S : vs_S} {k : Nat} (hk : k < 2 ^ 31) (h : S.1 32 = nI k) : 0 ≤ S.1 32 := by rw [h]; exact nI_pos' hk
theorem nf_no {S : vs_S} {k : Nat} (hk : k < 2 ^ 31) (h : S.1 32 = nI k) : ¬ S.1 32 = -1 := by rw [h]; exact nI_m1 hk

set_option maxRecDepth 20000 in
theorem c_X12_product (g : vv_G) (r d : Nat) (hr6 : r ≤ 6) (hd : 3 ≤ d) (hK : RjM g yX12_one cX12_one 5 0 r d) (S : vs_S) (L : Nat) (B N : Nat → Int32) (hI : iX S L B N) (p : Nat) (hp : p ≤ L) (hq : qX S p r) : vs_KI g yX12_product cX12_product 4 (some .int) (d + 1) [vv_r g 65] S (fun v S1 => zX S S1 (pzR (pzO (ab L B) r) (ab L B) 1 p) ∧ ((pzR (pzO (ab L B) r) (ab L B) 1 p).1 = true → v = (pzR (pzO (ab L B) r) (ab L B) 1 p).2.2.2 N)) := by
  refine vs_ofI (lv := [_, _, _, _]) mb_X12_product (Nat.le_of_ble_eq_true rfl) rfl (fun x C F => ?_)
  refine vv_aload_n C dX12_product_0 rfl ?_
  refine vs_calli C dX12_product_1 (hK S L B N hI p hp hq) mb_X12_one mv_X12_one lk_X12_241 ce_65 rfl rfl rfl rfl ⟨by omega, by omega, Nat.le_of_ble_eq_true rfl⟩ (fun r1 S1 p1 => ?_)
  have hL := hI.2.1
  have hpo := pOk_M (B := B) r 0 p hp
  have loop : ∀ (f : Nat) (t : pT) (w3 : Option Value) (Sa : vs_S), t.1 = true → zX S Sa t → pOk L p t → 120 ≤ t.2.1 + f → pzL (pzR (pzO (ab L B) r) (ab L B) 0) (ab L B) 4 f t = (pzR (pzO (ab L B) r) (ab L B) 1 p) → vv_V g x 4 0 0 10 [some (vv_r g 65), some (.int (t.2.2.2 N)), some (.int (ab L B t.2.1)), w3] [] (vs_cells g Sa) := by
    intro f
    induction f with
    | zero =>
      intro t w3 Sa ht hS hq2 hb9 he
      have hL := hI.2.1
      have hb : bl (ab L B t.2.1) := ab_bl _ (by omega)
      refine vv_aload_n C dX12_product_10 rfl ?_
      refine gf_X12_fault C dX12_product_11 fg_X12_219 ?_
      refine vv_if_ge (tgt := 94) C dX12_product_14 (by decide) (fun q14 => ?_) (fun q14 => ?_)
      · exact absurd q14 (nf_m1 (hS.2.2.1 ht).1)
      · skip
        refine vv_iload_n C dX12_product_17 rfl ?_
        refine vv_bipush C dX12_product_18 bp_42 ?_
        refine vv_icmp_eq (tgt := 35) C dX12_product_20 (by decide) (fun q20 => ?_) (fun q20 => ?_)
        · exact absurd q20 (bl_c hb (by unfold bl; decide))
        · skip
          refine vv_iload_n C dX12_product_23 rfl ?_
          refine vv_bipush C dX12_product_24 bp_47 ?_
          refine vv_icmp_eq (tgt := 35) C dX12_product_26 (by decide) (fun q26 => ?_) (fun q26 => ?_)
          · exact absurd q26 (bl_c hb (by unfold bl; decide))
          · skip
            refine vv_iload_n C dX12_product_29 rfl ?_
            refine vv_bipush C dX12_product_30 bp_37 ?_
            refine vv_icmp_ne (tgt := 94) C dX12_product_32 (by decide) (fun q32 => ?_) (fun q32 => ?_)
            · skip
              refine vv_iload_n C dX12_product_94 rfl ?_
              exact vs_iret C F dX12_product_95 rfl ⟨by rw [← he]; exact hS, fun _ => congrArg (fun t9 : pT => t9.2.2.2 N) he⟩
            · exact absurd q32 (bl_c hb (by unfold bl; decide))
    | succ f ih =>
      intro t w3 Sa ht hS hq2 hb9 he
      have hL := hI.2.1
      have hq3 := hq2.2.2 ht
      rw [pzLS f] at he
      refine vv_aload_n C dX12_product_10 rfl ?_
      refine gf_X12_fault C dX12_product_11 fg_X12_219 ?_
      refine vv_if_ge (tgt := 94) C dX12_product_14 (by decide) (fun q14 => ?_) (fun q14 => ?_)
      · exact absurd q14 (nf_m1 (hS.2.2.1 ht).1)
      · skip
        refine vv_iload_n C dX12_product_17 rfl ?_
        refine vv_bipush C dX12_product_18 bp_42 ?_
        refine vv_icmp_eq (tgt := 35) C dX12_product_20 (by decide) (fun q20 => ?_) (fun q20 => ?_)
        · have hk : tkR (ab L B t.2.1) = 4 := by rw [q20]; decide
          rw [if_pos hk] at he
          have hqL : t.2.1 < L := bl_nb ab_bl (tkR_nb (by omega) hk)
          have hop3 : ab L B t.2.1 = 42 ∨ ab L B t.2.1 = 47 ∨ ab L B t.2.1 = 37 := by simp [q20]
          refine vv_aload_n C dX12_product_35 rfl ?_
          refine vv_dup C dX12_product_36 rfl ?_
          refine gf_X12_at C dX12_product_37 fg_X12_210 ?_
          refine vs_eqi (v9 := nI t.2.1) (hS.2.1) ?_
          refine vv_iconst C dX12_product_40 ic_1 ?_
          refine vv_iadd C dX12_product_41 ?_
          refine vs_eqi (v9 := nI (t.2.1 + 1)) (nI_1 _) ?_
          refine pf_X12_at C dX12_product_42 fp_X12_210 ?_
          refine vv_aload_n C dX12_product_45 rfl ?_
          refine vs_calli C dX12_product_46 (hK (vs_us Sa 30 (nI (t.2.1 + 1))) L B N (hI.fr (hS.1.tr (vs_fr.rf.us (by decide)))) (t.2.1 + 1) hqL ⟨rfl, (hS.2.2.1 ht).1, ((hS.2.2.1 ht).2).trans hq.2.2⟩) mb_X12_one mv_X12_one lk_X12_241 ce_65 rfl rfl rfl rfl ⟨by omega, by omega, Nat.le_of_ble_eq_true rfl⟩ (fun r46 S46 p46 => ?_)
          refine vw_istore_n (lv9 := [_, _, _, _]) C dX12_product_49 (by decide) rfl rfl ?_
          have hyo := pOk_M (B := B) r 0 (t.2.1 + 1) hqL
          by_cases hy : ((pzR (pzO (ab L B) r) (ab L B) 0) (t.2.1 + 1)).1 = true
          · rw [if_pos hy] at he
            have e9 := p46.2 hy
            subst e9
            have hyp := hyo.2.2 hy
            refine vv_iload_n C dX12_product_50 rfl ?_
            refine vv_bipush C dX12_product_51 bp_42 ?_
            refine vv_icmp_ne (tgt := 62) C dX12_product_53 (by decide) (fun q53 => ?_) (fun q53 => ?_)
            · refine vv_iload_n C dX12_product_62 rfl ?_
              refine vv_if_ne (tgt := 70) C dX12_product_63 (by decide) (fun q63 => ?_) (fun q63 => ?_)
              · refine vv_iload_n C dX12_product_70 rfl ?_
                refine vv_bipush C dX12_product_71 bp_47 ?_
                refine vv_icmp_ne (tgt := 82) C dX12_product_73 (by decide) (fun q73 => ?_) (fun q73 => ?_)
                · refine vv_iload_n C dX12_product_82 rfl ?_
                  refine vv_iload_n C dX12_product_83 rfl ?_
                  refine vv_irem C dX12_product_84 q63 ?_
                  refine vs_eqi (v9 := tkV (ab L B t.2.1) (t.2.2.2 N) (((pzR (pzO (ab L B) r) (ab L B) 0) (t.2.1 + 1)).2.2.2 N)) (by first | exact tkm q53 | exact tkd0 (hop3.resolve_left q53) q63 | exact tkd q73 q63 | exact tkr ((hop3.resolve_left q53).resolve_left q73) q63) ?_
                  refine vw_istore_n (lv9 := [_, _, _, _]) C dX12_product_85 (by decide) rfl rfl ?_
                  refine vv_aload_n C dX12_product_86 rfl ?_
                  refine vs_caliF C dX12_product_87 (c_X12_byteAt g S46 L B N (hI.fr ((hS.1.tr (vs_fr.rf.us (by decide))).tr p46.1.1)) ((pzR (pzO (ab L B) r) (ab L B) 0) (t.2.1 + 1)).2.1 hyo.1 p46.1.2.1) mb_X12_byteAt mv_X12_byteAt lk_X12_222 ce_65 rfl rfl rfl rfl ⟨by omega, by omega, Nat.le_of_ble_eq_true rfl⟩ ?_
                  refine vw_istore_n (lv9 := [_, _, _, _]) C dX12_product_90 (by decide) rfl rfl ?_
                  refine vv_goto (tgt := 10) C dX12_product_91 (by decide) ?_
                  exact ih (true, ((pzR (pzO (ab L B) r) (ab L B) 0) (t.2.1 + 1)).2.1, t.2.2.1 ++ (((pzR (pzO (ab L B) r) (ab L B) 0) (t.2.1 + 1)).2.2.1 ++ [-(ab L B t.2.1)]), fun N => tkV (ab L B t.2.1) (t.2.2.2 N) (((pzR (pzO (ab L B) r) (ab L B) 0) (t.2.1 + 1)).2.2.2 N)) _ S46 rfl ⟨((hS.1.tr (vs_fr.rf.us (by decide))).tr p46.1.1), p46.1.2.1, fun _ => ⟨(p46.1.2.2.1 hy).1, (p46.1.2.2.1 hy).2.trans (hS.2.2.1 ht).2⟩, fun z => absurd rfl z⟩ ⟨hyo.1, by show p ≤ ((pzR (pzO (ab L B) r) (ab L B) 0) (t.2.1 + 1)).2.1; omega, fun _ => ⟨by
                      show p + (t.2.2.1 ++ (((pzR (pzO (ab L B) r) (ab L B) 0) (t.2.1 + 1)).2.2.1 ++ [-(ab L B t.2.1)])).length ≤ ((pzR (pzO (ab L B) r) (ab L B) 0) (t.2.1 + 1)).2.1
                      rw [List.length_append, List.length_append, List.length_singleton]
                      omega, by show p < ((pzR (pzO (ab L B) r) (ab L B) 0) (t.2.1 + 1)).2.1; omega⟩⟩ (by show 120 ≤ ((pzR (pzO (ab L B) r) (ab L B) 0) (t.2.1 + 1)).2.1 + f; omega) he
                · refine vv_iload_n C dX12_product_76 rfl ?_
                  refine vv_iload_n C dX12_product_77 rfl ?_
                  refine vv_idiv C dX12_product_78 q63 ?_
                  refine vv_goto (tgt := 85) C dX12_product_79 (by decide) ?_
                  refine vs_eqi (v9 := tkV (ab L B t.2.1) (t.2.2.2 N) (((pzR (pzO (ab L B) r) (ab L B) 0) (t.2.1 + 1)).2.2.2 N)) (by first | exact tkm q53 | exact tkd0 (hop3.resolve_left q53) q63 | exact tkd q73 q63 | exact tkr ((hop3.resolve_left q53).resolve_left q73) q63) ?_
                  refine vw_istore_n (lv9 := [_, _, _, _]) C dX12_product_85 (by decide) rfl rfl ?_
                  refine vv_aload_n C dX12_product_86 rfl ?_
                  refine vs_caliF C dX12_product_87 (c_X12_byteAt g S46 L B N (hI.fr ((hS.1.tr (vs_fr.rf.us (by decide))).tr p46.1.1)) ((pzR (pzO (ab L B) r) (ab L B) 0) (t.2.1 + 1)).2.1 hyo.1 p46.1.2.1) mb_X12_byteAt mv_X12_byteAt lk_X12_222 ce_65 rfl rfl rfl rfl ⟨by omega, by omega, Nat.le_of_ble_eq_true rfl⟩ ?_
                  refine vw_istore_n (lv9 := [_, _, _, _]) C dX12_product_90 (by decide) rfl rfl ?_
                  refine vv_goto (tgt := 10) C dX12_product_91 (by decide) ?_
                  exact ih (true, ((pzR (pzO (ab L B) r) (ab L B) 0) (t.2.1 + 1)).2.1, t.2.2.1 ++ (((pzR (pzO (ab L B) r) (ab L B) 0) (t.2.1 + 1)).2.2.1 ++ [-(ab L B t.2.1)]), fun N => tkV (ab L B t.2.1) (t.2.2.2 N) (((pzR (pzO (ab L B) r) (ab L B) 0) (t.2.1 + 1)).2.2.2 N)) _ S46 rfl ⟨((hS.1.tr (vs_fr.rf.us (by decide))).tr p46.1.1), p46.1.2.1, fun _ => ⟨(p46.1.2.2.1 hy).1, (p46.1.2.2.1 hy).2.trans (hS.2.2.1 ht).2⟩, fun z => absurd rfl z⟩ ⟨hyo.1, by show p ≤ ((pzR (pzO (ab L B) r) (ab L B) 0) (t.2.1 + 1)).2.1; omega, fun _ => ⟨by
                      show p + (t.2.2.1 ++ (((pzR (pzO (ab L B) r) (ab L B) 0) (t.2.1 + 1)).2.2.1 ++ [-(ab L B t.2.1)])).length ≤ ((pzR (pzO (ab L B) r) (ab L B) 0) (t.2.1 + 1)).2.1
                      rw [List.length_append, List.length_append, List.length_singleton]
                      omega, by show p < ((pzR (pzO (ab L B) r) (ab L B) 0) (t.2.1 + 1)).2.1; omega⟩⟩ (by show 120 ≤ ((pzR (pzO (ab L B) r) (ab L B) 0) (t.2.1 + 1)).2.1 + f; omega) he
              · refine vv_iconst C dX12_product_66 ic_0 ?_
                refine vv_goto (tgt := 85) C dX12_product_67 (by decide) ?_
                refine vs_eqi (v9 := tkV (ab L B t.2.1) (t.2.2.2 N) (((pzR (pzO (ab L B) r) (ab L B) 0) (t.2.1 + 1)).2.2.2 N)) (by first | exact tkm q53 | exact tkd0 (hop3.resolve_left q53) q63 | exact tkd q73 q63 | exact tkr ((hop3.resolve_left q53).resolve_left q73) q63) ?_
                refine vw_istore_n (lv9 := [_, _, _, _]) C dX12_product_85 (by decide) rfl rfl ?_
                refine vv_aload_n C dX12_product_86 rfl ?_
                refine vs_caliF C dX12_product_87 (c_X12_byteAt g S46 L B N (hI.fr ((hS.1.tr (vs_fr.rf.us (by decide))).tr p46.1.1)) ((pzR (pzO (ab L B) r) (ab L B) 0) (t.2.1 + 1)).2.1 hyo.1 p46.1.2.1) mb_X12_byteAt mv_X12_byteAt lk_X12_222 ce_65 rfl rfl rfl rfl ⟨by omega, by omega, Nat.le_of_ble_eq_true rfl⟩ ?_
                refine vw_istore_n (lv9 := [_, _, _, _]) C dX12_product_90 (by decide) rfl rfl ?_
                refine vv_goto (tgt := 10) C dX12_product_91 (by decide) ?_
                exact ih (true, ((pzR (pzO (ab L B) r) (ab L B) 0) (t.2.1 + 1)).2.1, t.2.2.1 ++ (((pzR (pzO (ab L B) r) (ab L B) 0) (t.2.1 + 1)).2.2.1 ++ [-(ab L B t.2.1)]), fun N => tkV (ab L B t.2.1) (t.2.2.2 N) (((pzR (pzO (ab L B) r) (ab L B) 0) (t.2.1 + 1)).2.2.2 N)) _ S46 rfl ⟨((hS.1.tr (vs_fr.rf.us (by decide))).tr p46.1.1), p46.1.2.1, fun _ => ⟨(p46.1.2.2.1 hy).1, (p46.1.2.2.1 hy).2.trans (hS.2.2.1 ht).2⟩, fun z => absurd rfl z⟩ ⟨hyo.1, by show p ≤ ((pzR (pzO (ab L B) r) (ab L B) 0) (t.2.1 + 1)).2.1; omega, fun _ => ⟨by
                    show p + (t.2.2.1 ++ (((pzR (pzO (ab L B) r) (ab L B) 0) (t.2.1 + 1)).2.2.1 ++ [-(ab L B t.2.1)])).length ≤ ((pzR (pzO (ab L B) r) (ab L B) 0) (t.2.1 + 1)).2.1
                    rw [List.length_append, List.length_append, List.length_singleton]
                    omega, by show p < ((pzR (pzO (ab L B) r) (ab L B) 0) (t.2.1 + 1)).2.1; omega⟩⟩ (by show 120 ≤ ((pzR (pzO (ab L B) r) (ab L B) 0) (t.2.1 + 1)).2.1 + f; omega) he
            · refine vv_iload_n C dX12_product_56 rfl ?_
              refine vv_iload_n C dX12_product_57 rfl ?_
              refine vv_imul C dX12_product_58 ?_
              refine vv_goto (tgt := 85) C dX12_product_59 (by decide) ?_
              refine vs_eqi (v9 := tkV (ab L B t.2.1) (t.2.2.2 N) (((pzR (pzO (ab L B) r) (ab L B) 0) (t.2.1 + 1)).2.2.2 N)) (by first | exact tkm q53 | exact tkd0 (hop3.resolve_left q53) q63 | exact tkd q73 q63 | exact tkr ((hop3.resolve_left q53).resolve_left q73) q63) ?_
              refine vw_istore_n (lv9 := [_, _, _, _]) C dX12_product_85 (by decide) rfl rfl ?_
              refine vv_aload_n C dX12_product_86 rfl ?_
              refine vs_caliF C dX12_product_87 (c_X12_byteAt g S46 L B N (hI.fr ((hS.1.tr (vs_fr.rf.us (by decide))).tr p46.1.1)) ((pzR (pzO (ab L B) r) (ab L B) 0) (t.2.1 + 1)).2.1 hyo.1 p46.1.2.1) mb_X12_byteAt mv_X12_byteAt lk_X12_222 ce_65 rfl rfl rfl rfl ⟨by omega, by omega, Nat.le_of_ble_eq_true rfl⟩ ?_
              refine vw_istore_n (lv9 := [_, _, _, _]) C dX12_product_90 (by decide) rfl rfl ?_
              refine vv_goto (tgt := 10) C dX12_product_91 (by decide) ?_
              exact ih (true, ((pzR (pzO (ab L B) r) (ab L B) 0) (t.2.1 + 1)).2.1, t.2.2.1 ++ (((pzR (pzO (ab L B) r) (ab L B) 0) (t.2.1 + 1)).2.2.1 ++ [-(ab L B t.2.1)]), fun N => tkV (ab L B t.2.1) (t.2.2.2 N) (((pzR (pzO (ab L B) r) (ab L B) 0) (t.2.1 + 1)).2.2.2 N)) _ S46 rfl ⟨((hS.1.tr (vs_fr.rf.us (by decide))).tr p46.1.1), p46.1.2.1, fun _ => ⟨(p46.1.2.2.1 hy).1, (p46.1.2.2.1 hy).2.trans (hS.2.2.1 ht).2⟩, fun z => absurd rfl z⟩ ⟨hyo.1, by show p ≤ ((pzR (pzO (ab L B) r) (ab L B) 0) (t.2.1 + 1)).2.1; omega, fun _ => ⟨by
                  show p + (t.2.2.1 ++ (((pzR (pzO (ab L B) r) (ab L B) 0) (t.2.1 + 1)).2.2.1 ++ [-(ab L B t.2.1)])).length ≤ ((pzR (pzO (ab L B) r) (ab L B) 0) (t.2.1 + 1)).2.1
                  rw [List.length_append, List.length_append, List.length_singleton]
                  omega, by show p < ((pzR (pzO (ab L B) r) (ab L B) 0) (t.2.1 + 1)).2.1; omega⟩⟩ (by show 120 ≤ ((pzR (pzO (ab L B) r) (ab L B) 0) (t.2.1 + 1)).2.1 + f; omega) he
          · rw [if_neg hy] at he
            have h32 := p46.1.2.2.2 hy
            have hy31 : ((pzR (pzO (ab L B) r) (ab L B) 0) (t.2.1 + 1)).2.1 < 2 ^ 31 := by have := hyo.1; omega
            refine vv_iload_n C dX12_product_50 rfl ?_
            refine vv_bipush C dX12_product_51 bp_42 ?_
            refine vv_icmp_ne (tgt := 62) C dX12_product_53 (by decide) (fun q53 => ?_) (fun q53 => ?_)
            · refine vv_iload_n C dX12_product_62 rfl ?_
              refine vv_if_ne (tgt := 70) C dX12_product_63 (by decide) (fun q63 => ?_) (fun q63 => ?_)
              · refine vv_iload_n C dX12_product_70 rfl ?_
                refine vv_bipush C dX12_product_71 bp_47 ?_
                refine vv_icmp_ne (tgt := 82) C dX12_product_73 (by decide) (fun q73 => ?_) (fun q73 => ?_)
                · refine vv_iload_n C dX12_product_82 rfl ?_
                  refine vv_iload_n C dX12_product_83 rfl ?_
                  refine vv_irem C dX12_product_84 q63 ?_
                  refine vw_istore_n (lv9 := [_, _, _, _]) C dX12_product_85 (by decide) rfl rfl ?_
                  refine vv_aload_n C dX12_product_86 rfl ?_
                  refine vs_caliF C dX12_product_87 (c_X12_byteAt g S46 L B N (hI.fr ((hS.1.tr (vs_fr.rf.us (by decide))).tr p46.1.1)) ((pzR (pzO (ab L B) r) (ab L B) 0) (t.2.1 + 1)).2.1 hyo.1 p46.1.2.1) mb_X12_byteAt mv_X12_byteAt lk_X12_222 ce_65 rfl rfl rfl rfl ⟨by omega, by omega, Nat.le_of_ble_eq_true rfl⟩ ?_
                  refine vw_istore_n (lv9 := [_, _, _, _]) C dX12_product_90 (by decide) rfl rfl ?_
                  refine vv_goto (tgt := 10) C dX12_product_91 (by decide) ?_
                  refine vv_aload_n C dX12_product_10 rfl ?_
                  refine gf_X12_fault C dX12_product_11 fg_X12_219 ?_
                  refine vv_if_ge (tgt := 94) C dX12_product_14 (by decide) (fun q14 => ?_) (fun q14 => ?_)
                  · skip
                    refine vv_iload_n C dX12_product_94 rfl ?_
                    exact vs_iret C F dX12_product_95 rfl ⟨by rw [← he]; exact ⟨((hS.1.tr (vs_fr.rf.us (by decide))).tr p46.1.1), p46.1.2.1, fun z => absurd (show false = true from z) (by decide), fun _ => h32⟩, fun z => by rw [← he] at z; cases z⟩
                  · exact absurd (nf_ge hy31 h32) q14
                · refine vv_iload_n C dX12_product_76 rfl ?_
                  refine vv_iload_n C dX12_product_77 rfl ?_
                  refine vv_idiv C dX12_product_78 q63 ?_
                  refine vv_goto (tgt := 85) C dX12_product_79 (by decide) ?_
                  refine vw_istore_n (lv9 := [_, _, _, _]) C dX12_product_85 (by decide) rfl rfl ?_
                  refine vv_aload_n C dX12_product_86 rfl ?_
                  refine vs_caliF C dX12_product_87 (c_X12_byteAt g S46 L B N (hI.fr ((hS.1.tr (vs_fr.rf.us (by decide))).tr p46.1.1)) ((pzR (pzO (ab L B) r) (ab L B) 0) (t.2.1 + 1)).2.1 hyo.1 p46.1.2.1) mb_X12_byteAt mv_X12_byteAt lk_X12_222 ce_65 rfl rfl rfl rfl ⟨by omega, by omega, Nat.le_of_ble_eq_true rfl⟩ ?_
                  refine vw_istore_n (lv9 := [_, _, _, _]) C dX12_product_90 (by decide) rfl rfl ?_
                  refine vv_goto (tgt := 10) C dX12_product_91 (by decide) ?_
                  refine vv_aload_n C dX12_product_10 rfl ?_
                  refine gf_X12_fault C dX12_product_11 fg_X12_219 ?_
                  refine vv_if_ge (tgt := 94) C dX12_product_14 (by decide) (fun q14 => ?_) (fun q14 => ?_)
                  · skip
                    refine vv_iload_n C dX12_product_94 rfl ?_
                    exact vs_iret C F dX12_product_95 rfl ⟨by rw [← he]; exact ⟨((hS.1.tr (vs_fr.rf.us (by decide))).tr p46.1.1), p46.1.2.1, fun z => absurd (show false = true from z) (by decide), fun _ => h32⟩, fun z => by rw [← he] at z; cases z⟩
                  · exact absurd (nf_ge hy31 h32) q14
              · refine vv_iconst C dX12_product_66 ic_0 ?_
                refine vv_goto (tgt := 85) C dX12_product_67 (by decide) ?_
                refine vw_istore_n (lv9 := [_, _, _, _]) C dX12_product_85 (by decide) rfl rfl ?_
                refine vv_aload_n C dX12_product_86 rfl ?_
                refine vs_caliF C dX12_product_87 (c_X12_byteAt g S46 L B N (hI.fr ((hS.1.tr (vs_fr.rf.us (by decide))).tr p46.1.1)) ((pzR (pzO (ab L B) r) (ab L B) 0) (t.2.1 + 1)).2.1 hyo.1 p46.1.2.1) mb_X12_byteAt mv_X12_byteAt lk_X12_222 ce_65 rfl rfl rfl rfl ⟨by omega, by omega, Nat.le_of_ble_eq_true rfl⟩ ?_
                refine vw_istore_n (lv9 := [_, _, _, _]) C dX12_product_90 (by decide) rfl rfl ?_
                refine vv_goto (tgt := 10) C dX12_product_91 (by decide) ?_
                refine vv_aload_n C dX12_product_10 rfl ?_
                refine gf_X12_fault C dX12_product_11 fg_X12_219 ?_
                refine vv_if_ge (tgt := 94) C dX12_product_14 (by decide) (fun q14 => ?_) (fun q14 => ?_)
                · skip
                  refine vv_iload_n C dX12_product_94 rfl ?_
                  exact vs_iret C F dX12_product_95 rfl ⟨by rw [← he]; exact ⟨((hS.1.tr (vs_fr.rf.us (by decide))).tr p46.1.1), p46.1.2.1, fun z => absurd (show false = true from z) (by decide), fun _ => h32⟩, fun z => by rw [← he] at z; cases z⟩
                · exact absurd (nf_ge hy31 h32) q14
            · refine vv_iload_n C dX12_product_56 rfl ?_
              refine vv_iload_n C dX12_product_57 rfl ?_
              refine vv_imul C dX12_product_58 ?_
              refine vv_goto (tgt := 85) C dX12_product_59 (by decide) ?_
              refine vw_istore_n (lv9 := [_, _, _, _]) C dX12_product_85 (by decide) rfl rfl ?_
              refine vv_aload_n C dX12_product_86 rfl ?_
              refine vs_caliF C dX12_product_87 (c_X12_byteAt g S46 L B N (hI.fr ((hS.1.tr (vs_fr.rf.us (by decide))).tr p46.1.1)) ((pzR (pzO (ab L B) r) (ab L B) 0) (t.2.1 + 1)).2.1 hyo.1 p46.1.2.1) mb_X12_byteAt mv_X12_byteAt lk_X12_222 ce_65 rfl rfl rfl rfl ⟨by omega, by omega, Nat.le_of_ble_eq_true rfl⟩ ?_
              refine vw_istore_n (lv9 := [_, _, _, _]) C dX12_product_90 (by decide) rfl rfl ?_
              refine vv_goto (tgt := 10) C dX12_product_91 (by decide) ?_
              refine vv_aload_n C dX12_product_10 rfl ?_
              refine gf_X12_fault C dX12_product_11 fg_X12_219 ?_
              refine vv_if_ge (tgt := 94) C dX12_product_14 (by decide) (fun q14 => ?_) (fun q14 => ?_)
              · skip
                refine vv_iload_n C dX12_product_94 rfl ?_
                exact vs_iret C F dX12_product_95 rfl ⟨by rw [← he]; exact ⟨((hS.1.tr (vs_fr.rf.us (by decide))).tr p46.1.1), p46.1.2.1, fun z => absurd (show false = true from z) (by decide), fun _ => h32⟩, fun z => by rw [← he] at z; cases z⟩
              · exact absurd (nf_ge hy31 h32) q14
        · skip
          refine vv_iload_n C dX12_product_23 rfl ?_
          refine vv_bipush C dX12_product_24 bp_47 ?_
          refine vv_icmp_eq (tgt := 35) C dX12_product_26 (by decide) (fun q26 => ?_) (fun q26 => ?_)
          · have hk : tkR (ab L B t.2.1) = 4 := by rw [q26]; decide
            rw [if_pos hk] at he
            have hqL : t.2.1 < L := bl_nb ab_bl (tkR_nb (by omega) hk)
            have hop3 : ab L B t.2.1 = 42 ∨ ab L B t.2.1 = 47 ∨ ab L B t.2.1 = 37 := by simp [q26]
            refine vv_aload_n C dX12_product_35 rfl ?_
            refine vv_dup C dX12_product_36 rfl ?_
            refine gf_X12_at C dX12_product_37 fg_X12_210 ?_
            refine vs_eqi (v9 := nI t.2.1) (hS.2.1) ?_
            refine vv_iconst C dX12_product_40 ic_1 ?_
            refine vv_iadd C dX12_product_41 ?_
            refine vs_eqi (v9 := nI (t.2.1 + 1)) (nI_1 _) ?_
            refine pf_X12_at C dX12_product_42 fp_X12_210 ?_
            refine vv_aload_n C dX12_product_45 rfl ?_
            refine vs_calli C dX12_product_46 (hK (vs_us Sa 30 (nI (t.2.1 + 1))) L B N (hI.fr (hS.1.tr (vs_fr.rf.us (by decide)))) (t.2.1 + 1) hqL ⟨rfl, (hS.2.2.1 ht).1, ((hS.2.2.1 ht).2).trans hq.2.2⟩) mb_X12_one mv_X12_one lk_X12_241 ce_65 rfl rfl rfl rfl ⟨by omega, by omega, Nat.le_of_ble_eq_true rfl⟩ (fun r46 S46 p46 => ?_)
            refine vw_istore_n (lv9 := [_, _, _, _]) C dX12_product_49 (by decide) rfl rfl ?_
            have hyo := pOk_M (B := B) r 0 (t.2.1 + 1) hqL
            by_cases hy : ((pzR (pzO (ab L B) r) (ab L B) 0) (t.2.1 + 1)).1 = true
            · rw [if_pos hy] at he
              have e9 := p46.2 hy
              subst e9
              have hyp := hyo.2.2 hy
              refine vv_iload_n C dX12_product_50 rfl ?_
              refine vv_bipush C dX12_product_51 bp_42 ?_
              refine vv_icmp_ne (tgt := 62) C dX12_product_53 (by decide) (fun q53 => ?_) (fun q53 => ?_)
              · refine vv_iload_n C dX12_product_62 rfl ?_
                refine vv_if_ne (tgt := 70) C dX12_product_63 (by decide) (fun q63 => ?_) (fun q63 => ?_)
                · refine vv_iload_n C dX12_product_70 rfl ?_
                  refine vv_bipush C dX12_product_71 bp_47 ?_
                  refine vv_icmp_ne (tgt := 82) C dX12_product_73 (by decide) (fun q73 => ?_) (fun q73 => ?_)
                  · refine vv_iload_n C dX12_product_82 rfl ?_
                    refine vv_iload_n C dX12_product_83 rfl ?_
                    refine vv_irem C dX12_product_84 q63 ?_
                    refine vs_eqi (v9 := tkV (ab L B t.2.1) (t.2.2.2 N) (((pzR (pzO (ab L B) r) (ab L B) 0) (t.2.1 + 1)).2.2.2 N)) (by first | exact tkm q53 | exact tkd0 (hop3.resolve_left q53) q63 | exact tkd q73 q63 | exact tkr ((hop3.resolve_left q53).resolve_left q73) q63) ?_
                    refine vw_istore_n (lv9 := [_, _, _, _]) C dX12_product_85 (by decide) rfl rfl ?_
                    refine vv_aload_n C dX12_product_86 rfl ?_
                    refine vs_caliF C dX12_product_87 (c_X12_byteAt g S46 L B N (hI.fr ((hS.1.tr (vs_fr.rf.us (by decide))).tr p46.1.1)) ((pzR (pzO (ab L B) r) (ab L B) 0) (t.2.1 + 1)).2.1 hyo.1 p46.1.2.1) mb_X12_byteAt mv_X12_byteAt lk_X12_222 ce_65 rfl rfl rfl rfl ⟨by omega, by omega, Nat.le_of_ble_eq_true rfl⟩ ?_
                    refine vw_istore_n (lv9 := [_, _, _, _]) C dX12_product_90 (by decide) rfl rfl ?_
                    refine vv_goto (tgt := 10) C dX12_product_91 (by decide) ?_
                    exact ih (true, ((pzR (pzO (ab L B) r) (ab L B) 0) (t.2.1 + 1)).2.1, t.2.2.1 ++ (((pzR (pzO (ab L B) r) (ab L B) 0) (t.2.1 + 1)).2.2.1 ++ [-(ab L B t.2.1)]), fun N => tkV (ab L B t.2.1) (t.2.2.2 N) (((pzR (pzO (ab L B) r) (ab L B) 0) (t.2.1 + 1)).2.2.2 N)) _ S46 rfl ⟨((hS.1.tr (vs_fr.rf.us (by decide))).tr p46.1.1), p46.1.2.1, fun _ => ⟨(p46.1.2.2.1 hy).1, (p46.1.2.2.1 hy).2.trans (hS.2.2.1 ht).2⟩, fun z => absurd rfl z⟩ ⟨hyo.1, by show p ≤ ((pzR (pzO (ab L B) r) (ab L B) 0) (t.2.1 + 1)).2.1; omega, fun _ => ⟨by
                        show p + (t.2.2.1 ++ (((pzR (pzO (ab L B) r) (ab L B) 0) (t.2.1 + 1)).2.2.1 ++ [-(ab L B t.2.1)])).length ≤ ((pzR (pzO (ab L B) r) (ab L B) 0) (t.2.1 + 1)).2.1
                        rw [List.length_append, List.length_append, List.length_singleton]
                        omega, by show p < ((pzR (pzO (ab L B) r) (ab L B) 0) (t.2.1 + 1)).2.1; omega⟩⟩ (by show 120 ≤ ((pzR (pzO (ab L B) r) (ab L B) 0) (t.2.1 + 1)).2.1 + f; omega) he
                  · refine vv_iload_n C dX12_product_76 rfl ?_
                    refine vv_iload_n C dX12_product_77 rfl ?_
                    refine vv_idiv C dX12_product_78 q63 ?_
                    refine vv_goto (tgt := 85) C dX12_product_79 (by decide) ?_
                    refine vs_eqi (v9 := tkV (ab L B t.2.1) (t.2.2.2 N) (((pzR (pzO (ab L B) r) (ab L B) 0) (t.2.1 + 1)).2.2.2 N)) (by first | exact tkm q53 | exact tkd0 (hop3.resolve_left q53) q63 | exact tkd q73 q63 | exact tkr ((hop3.resolve_left q53).resolve_left q73) q63) ?_
                    refine vw_istore_n (lv9 := [_, _, _, _]) C dX12_product_85 (by decide) rfl rfl ?_
                    refine vv_aload_n C dX12_product_86 rfl ?_
                    refine vs_caliF C dX12_product_87 (c_X12_byteAt g S46 L B N (hI.fr ((hS.1.tr (vs_fr.rf.us (by decide))).tr p46.1.1)) ((pzR (pzO (ab L B) r) (ab L B) 0) (t.2.1 + 1)).2.1 hyo.1 p46.1.2.1) mb_X12_byteAt mv_X12_byteAt lk_X12_222 ce_65 rfl rfl rfl rfl ⟨by omega, by omega, Nat.le_of_ble_eq_true rfl⟩ ?_
                    refine vw_istore_n (lv9 := [_, _, _, _]) C dX12_product_90 (by decide) rfl rfl ?_
                    refine vv_goto (tgt := 10) C dX12_product_91 (by decide) ?_
                    exact ih (true, ((pzR (pzO (ab L B) r) (ab L B) 0) (t.2.1 + 1)).2.1, t.2.2.1 ++ (((pzR (pzO (ab L B) r) (ab L B) 0) (t.2.1 + 1)).2.2.1 ++ [-(ab L B t.2.1)]), fun N => tkV (ab L B t.2.1) (t.2.2.2 N) (((pzR (pzO (ab L B) r) (ab L B) 0) (t.2.1 + 1)).2.2.2 N)) _ S46 rfl ⟨((hS.1.tr (vs_fr.rf.us (by decide))).tr p46.1.1), p46.1.2.1, fun _ => ⟨(p46.1.2.2.1 hy).1, (p46.1.2.2.1 hy).2.trans (hS.2.2.1 ht).2⟩, fun z => absurd rfl z⟩ ⟨hyo.1, by show p ≤ ((pzR (pzO (ab L B) r) (ab L B) 0) (t.2.1 + 1)).2.1; omega, fun _ => ⟨by
                        show p + (t.2.2.1 ++ (((pzR (pzO (ab L B) r) (ab L B) 0) (t.2.1 + 1)).2.2.1 ++ [-(ab L B t.2.1)])).length ≤ ((pzR (pzO (ab L B) r) (ab L B) 0) (t.2.1 + 1)).2.1
                        rw [List.length_append, List.length_append, List.length_singleton]
                        omega, by show p < ((pzR (pzO (ab L B) r) (ab L B) 0) (t.2.1 + 1)).2.1; omega⟩⟩ (by show 120 ≤ ((pzR (pzO (ab L B) r) (ab L B) 0) (t.2.1 + 1)).2.1 + f; omega) he
                · refine vv_iconst C dX12_product_66 ic_0 ?_
                  refine vv_goto (tgt := 85) C dX12_product_67 (by decide) ?_
                  refine vs_eqi (v9 := tkV (ab L B t.2.1) (t.2.2.2 N) (((pzR (pzO (ab L B) r) (ab L B) 0) (t.2.1 + 1)).2.2.2 N)) (by first | exact tkm q53 | exact tkd0 (hop3.resolve_left q53) q63 | exact tkd q73 q63 | exact tkr ((hop3.resolve_left q53).resolve_left q73) q63) ?_
                  refine vw_istore_n (lv9 := [_, _, _, _]) C dX12_product_85 (by decide) rfl rfl ?_
                  refine vv_aload_n C dX12_product_86 rfl ?_
                  refine vs_caliF C dX12_product_87 (c_X12_byteAt g S46 L B N (hI.fr ((hS.1.tr (vs_fr.rf.us (by decide))).tr p46.1.1)) ((pzR (pzO (ab L B) r) (ab L B) 0) (t.2.1 + 1)).2.1 hyo.1 p46.1.2.1) mb_X12_byteAt mv_X12_byteAt lk_X12_222 ce_65 rfl rfl rfl rfl ⟨by omega, by omega, Nat.le_of_ble_eq_true rfl⟩ ?_
                  refine vw_istore_n (lv9 := [_, _, _, _]) C dX12_product_90 (by decide) rfl rfl ?_
                  refine vv_goto (tgt := 10) C dX12_product_91 (by decide) ?_
                  exact ih (true, ((pzR (pzO (ab L B) r) (ab L B) 0) (t.2.1 + 1)).2.1, t.2.2.1 ++ (((pzR (pzO (ab L B) r) (ab L B) 0) (t.2.1 + 1)).2.2.1 ++ [-(ab L B t.2.1)]), fun N => tkV (ab L B t.2.1) (t.2.2.2 N) (((pzR (pzO (ab L B) r) (ab L B) 0) (t.2.1 + 1)).2.2.2 N)) _ S46 rfl ⟨((hS.1.tr (vs_fr.rf.us (by decide))).tr p46.1.1), p46.1.2.1, fun _ => ⟨(p46.1.2.2.1 hy).1, (p46.1.2.2.1 hy).2.trans (hS.2.2.1 ht).2⟩, fun z => absurd rfl z⟩ ⟨hyo.1, by show p ≤ ((pzR (pzO (ab L B) r) (ab L B) 0) (t.2.1 + 1)).2.1; omega, fun _ => ⟨by
                      show p + (t.2.2.1 ++ (((pzR (pzO (ab L B) r) (ab L B) 0) (t.2.1 + 1)).2.2.1 ++ [-(ab L B t.2.1)])).length ≤ ((pzR (pzO (ab L B) r) (ab L B) 0) (t.2.1 + 1)).2.1
                      rw [List.length_append, List.length_append, List.length_singleton]
                      omega, by show p < ((pzR (pzO (ab L B) r) (ab L B) 0) (t.2.1 + 1)).2.1; omega⟩⟩ (by show 120 ≤ ((pzR (pzO (ab L B) r) (ab L B) 0) (t.2.1 + 1)).2.1 + f; omega) he
              · refine vv_iload_n C dX12_product_56 rfl ?_
                refine vv_iload_n C dX12_product_57 rfl ?_
                refine vv_imul C dX12_product_58 ?_
                refine vv_goto (tgt := 85) C dX12_product_59 (by decide) ?_
                refine vs_eqi (v9 := tkV (ab L B t.2.1) (t.2.2.2 N) (((pzR (pzO (ab L B) r) (ab L B) 0) (t.2.1 + 1)).2.2.2 N)) (by first | exact tkm q53 | exact tkd0 (hop3.resolve_left q53) q63 | exact tkd q73 q63 | exact tkr ((hop3.resolve_left q53).resolve_left q73) q63) ?_
                refine vw_istore_n (lv9 := [_, _, _, _]) C dX12_product_85 (by decide) rfl rfl ?_
                refine vv_aload_n C dX12_product_86 rfl ?_
                refine vs_caliF C dX12_product_87 (c_X12_byteAt g S46 L B N (hI.fr ((hS.1.tr (vs_fr.rf.us (by decide))).tr p46.1.1)) ((pzR (pzO (ab L B) r) (ab L B) 0) (t.2.1 + 1)).2.1 hyo.1 p46.1.2.1) mb_X12_byteAt mv_X12_byteAt lk_X12_222 ce_65 rfl rfl rfl rfl ⟨by omega, by omega, Nat.le_of_ble_eq_true rfl⟩ ?_
                refine vw_istore_n (lv9 := [_, _, _, _]) C dX12_product_90 (by decide) rfl rfl ?_
                refine vv_goto (tgt := 10) C dX12_product_91 (by decide) ?_
                exact ih (true, ((pzR (pzO (ab L B) r) (ab L B) 0) (t.2.1 + 1)).2.1, t.2.2.1 ++ (((pzR (pzO (ab L B) r) (ab L B) 0) (t.2.1 + 1)).2.2.1 ++ [-(ab L B t.2.1)]), fun N => tkV (ab L B t.2.1) (t.2.2.2 N) (((pzR (pzO (ab L B) r) (ab L B) 0) (t.2.1 + 1)).2.2.2 N)) _ S46 rfl ⟨((hS.1.tr (vs_fr.rf.us (by decide))).tr p46.1.1), p46.1.2.1, fun _ => ⟨(p46.1.2.2.1 hy).1, (p46.1.2.2.1 hy).2.trans (hS.2.2.1 ht).2⟩, fun z => absurd rfl z⟩ ⟨hyo.1, by show p ≤ ((pzR (pzO (ab L B) r) (ab L B) 0) (t.2.1 + 1)).2.1; omega, fun _ => ⟨by
                    show p + (t.2.2.1 ++ (((pzR (pzO (ab L B) r) (ab L B) 0) (t.2.1 + 1)).2.2.1 ++ [-(ab L B t.2.1)])).length ≤ ((pzR (pzO (ab L B) r) (ab L B) 0) (t.2.1 + 1)).2.1
                    rw [List.length_append, List.length_append, List.length_singleton]
                    omega, by show p < ((pzR (pzO (ab L B) r) (ab L B) 0) (t.2.1 + 1)).2.1; omega⟩⟩ (by show 120 ≤ ((pzR (pzO (ab L B) r) (ab L B) 0) (t.2.1 + 1)).2.1 + f; omega) he
            · rw [if_neg hy] at he
              have h32 := p46.1.2.2.2 hy
              have hy31 : ((pzR (pzO (ab L B) r) (ab L B) 0) (t.2.1 + 1)).2.1 < 2 ^ 31 := by have := hyo.1; omega
              refine vv_iload_n C dX12_product_50 rfl ?_
              refine vv_bipush C dX12_product_51 bp_42 ?_
              refine vv_icmp_ne (tgt := 62) C dX12_product_53 (by decide) (fun q53 => ?_) (fun q53 => ?_)
              · refine vv_iload_n C dX12_product_62 rfl ?_
                refine vv_if_ne (tgt := 70) C dX12_product_63 (by decide) (fun q63 => ?_) (fun q63 => ?_)
                · refine vv_iload_n C dX12_product_70 rfl ?_
                  refine vv_bipush C dX12_product_71 bp_47 ?_
                  refine vv_icmp_ne (tgt := 82) C dX12_product_73 (by decide) (fun q73 => ?_) (fun q73 => ?_)
                  · refine vv_iload_n C dX12_product_82 rfl ?_
                    refine vv_iload_n C dX12_product_83 rfl ?_
                    refine vv_irem C dX12_product_84 q63 ?_
                    refine vw_istore_n (lv9 := [_, _, _, _]) C dX12_product_85 (by decide) rfl rfl ?_
                    refine vv_aload_n C dX12_product_86 rfl ?_
                    refine vs_caliF C dX12_product_87 (c_X12_byteAt g S46 L B N (hI.fr ((hS.1.tr (vs_fr.rf.us (by decide))).tr p46.1.1)) ((pzR (pzO (ab L B) r) (ab L B) 0) (t.2.1 + 1)).2.1 hyo.1 p46.1.2.1) mb_X12_byteAt mv_X12_byteAt lk_X12_222 ce_65 rfl rfl rfl rfl ⟨by omega, by omega, Nat.le_of_ble_eq_true rfl⟩ ?_
                    refine vw_istore_n (lv9 := [_, _, _, _]) C dX12_product_90 (by decide) rfl rfl ?_
                    refine vv_goto (tgt := 10) C dX12_product_91 (by decide) ?_
                    refine vv_aload_n C dX12_product_10 rfl ?_
                    refine gf_X12_fault C dX12_product_11 fg_X12_219 ?_
                    refine vv_if_ge (tgt := 94) C dX12_product_14 (by decide) (fun q14 => ?_) (fun q14 => ?_)
                    · skip
                      refine vv_iload_n C dX12_product_94 rfl ?_
                      exact vs_iret C F dX12_product_95 rfl ⟨by rw [← he]; exact ⟨((hS.1.tr (vs_fr.rf.us (by decide))).tr p46.1.1), p46.1.2.1, fun z => absurd (show false = true from z) (by decide), fun _ => h32⟩, fun z => by rw [← he] at z; cases z⟩
                    · exact absurd (nf_ge hy31 h32) q14
                  · refine vv_iload_n C dX12_product_76 rfl ?_
                    refine vv_iload_n C dX12_product_77 rfl ?_
                    refine vv_idiv C dX12_product_78 q63 ?_
                    refine vv_goto (tgt := 85) C dX12_product_79 (by decide) ?_
                    refine vw_istore_n (lv9 := [_, _, _, _]) C dX12_product_85 (by decide) rfl rfl ?_
                    refine vv_aload_n C dX12_product_86 rfl ?_
                    refine vs_caliF C dX12_product_87 (c_X12_byteAt g S46 L B N (hI.fr ((hS.1.tr (vs_fr.rf.us (by decide))).tr p46.1.1)) ((pzR (pzO (ab L B) r) (ab L B) 0) (t.2.1 + 1)).2.1 hyo.1 p46.1.2.1) mb_X12_byteAt mv_X12_byteAt lk_X12_222 ce_65 rfl rfl rfl rfl ⟨by omega, by omega, Nat.le_of_ble_eq_true rfl⟩ ?_
                    refine vw_istore_n (lv9 := [_, _, _, _]) C dX12_product_90 (by decide) rfl rfl ?_
                    refine vv_goto (tgt := 10) C dX12_product_91 (by decide) ?_
                    refine vv_aload_n C dX12_product_10 rfl ?_
                    refine gf_X12_fault C dX12_product_11 fg_X12_219 ?_
                    refine vv_if_ge (tgt := 94) C dX12_product_14 (by decide) (fun q14 => ?_) (fun q14 => ?_)
                    · skip
                      refine vv_iload_n C dX12_product_94 rfl ?_
                      exact vs_iret C F dX12_product_95 rfl ⟨by rw [← he]; exact ⟨((hS.1.tr (vs_fr.rf.us (by decide))).tr p46.1.1), p46.1.2.1, fun z => absurd (show false = true from z) (by decide), fun _ => h32⟩, fun z => by rw [← he] at z; cases z⟩
                    · exact absurd (nf_ge hy31 h32) q14
                · refine vv_iconst C dX12_product_66 ic_0 ?_
                  refine vv_goto (tgt := 85) C dX12_product_67 (by decide) ?_
                  refine vw_istore_n (lv9 := [_, _, _, _]) C dX12_product_85 (by decide) rfl rfl ?_
                  refine vv_aload_n C dX12_product_86 rfl ?_
                  refine vs_caliF C dX12_product_87 (c_X12_byteAt g S46 L B N (hI.fr ((hS.1.tr (vs_fr.rf.us (by decide))).tr p46.1.1)) ((pzR (pzO (ab L B) r) (ab L B) 0) (t.2.1 + 1)).2.1 hyo.1 p46.1.2.1) mb_X12_byteAt mv_X12_byteAt lk_X12_222 ce_65 rfl rfl rfl rfl ⟨by omega, by omega, Nat.le_of_ble_eq_true rfl⟩ ?_
                  refine vw_istore_n (lv9 := [_, _, _, _]) C dX12_product_90 (by decide) rfl rfl ?_
                  refine vv_goto (tgt := 10) C dX12_product_91 (by decide) ?_
                  refine vv_aload_n C dX12_product_10 rfl ?_
                  refine gf_X12_fault C dX12_product_11 fg_X12_219 ?_
                  refine vv_if_ge (tgt := 94) C dX12_product_14 (by decide) (fun q14 => ?_) (fun q14 => ?_)
                  · skip
                    refine vv_iload_n C dX12_product_94 rfl ?_
                    exact vs_iret C F dX12_product_95 rfl ⟨by rw [← he]; exact ⟨((hS.1.tr (vs_fr.rf.us (by decide))).tr p46.1.1), p46.1.2.1, fun z => absurd (show false = true from z) (by decide), fun _ => h32⟩, fun z => by rw [← he] at z; cases z⟩
                  · exact absurd (nf_ge hy31 h32) q14
              · refine vv_iload_n C dX12_product_56 rfl ?_
                refine vv_iload_n C dX12_product_57 rfl ?_
                refine vv_imul C dX12_product_58 ?_
                refine vv_goto (tgt := 85) C dX12_product_59 (by decide) ?_
                refine vw_istore_n (lv9 := [_, _, _, _]) C dX12_product_85 (by decide) rfl rfl ?_
                refine vv_aload_n C dX12_product_86 rfl ?_
                refine vs_caliF C dX12_product_87 (c_X12_byteAt g S46 L B N (hI.fr ((hS.1.tr (vs_fr.rf.us (by decide))).tr p46.1.1)) ((pzR (pzO (ab L B) r) (ab L B) 0) (t.2.1 + 1)).2.1 hyo.1 p46.1.2.1) mb_X12_byteAt mv_X12_byteAt lk_X12_222 ce_65 rfl rfl rfl rfl ⟨by omega, by omega, Nat.le_of_ble_eq_true rfl⟩ ?_
                refine vw_istore_n (lv9 := [_, _, _, _]) C dX12_product_90 (by decide) rfl rfl ?_
                refine vv_goto (tgt := 10) C dX12_product_91 (by decide) ?_
                refine vv_aload_n C dX12_product_10 rfl ?_
                refine gf_X12_fault C dX12_product_11 fg_X12_219 ?_
                refine vv_if_ge (tgt := 94) C dX12_product_14 (by decide) (fun q14 => ?_) (fun q14 => ?_)
                · skip
                  refine vv_iload_n C dX12_product_94 rfl ?_
                  exact vs_iret C F dX12_product_95 rfl ⟨by rw [← he]; exact ⟨((hS.1.tr (vs_fr.rf.us (by decide))).tr p46.1.1), p46.1.2.1, fun z => absurd (show false = true from z) (by decide), fun _ => h32⟩, fun z => by rw [← he] at z; cases z⟩
                · exact absurd (nf_ge hy31 h32) q14
          · skip
            refine vv_iload_n C dX12_product_29 rfl ?_
            refine vv_bipush C dX12_product_30 bp_37 ?_
            refine vv_icmp_ne (tgt := 94) C dX12_product_32 (by decide) (fun q32 => ?_) (fun q32 => ?_)
            · have hne : ¬ tkR (ab L B t.2.1) = 4 := fun z => (tk4 z).elim q32 (fun z => z.elim q20 q26)
              rw [if_neg hne] at he
              refine vv_iload_n C dX12_product_94 rfl ?_
              exact vs_iret C F dX12_product_95 rfl ⟨by rw [← he]; exact hS, fun _ => congrArg (fun t9 : pT => t9.2.2.2 N) he⟩
            · have hk : tkR (ab L B t.2.1) = 4 := by rw [q32]; decide
              rw [if_pos hk] at he
              have hqL : t.2.1 < L := bl_nb ab_bl (tkR_nb (by omega) hk)
              have hop3 : ab L B t.2.1 = 42 ∨ ab L B t.2.1 = 47 ∨ ab L B t.2.1 = 37 := by simp [q32]
              refine vv_aload_n C dX12_product_35 rfl ?_
              refine vv_dup C dX12_product_36 rfl ?_
              refine gf_X12_at C dX12_product_37 fg_X12_210 ?_
              refine vs_eqi (v9 := nI t.2.1) (hS.2.1) ?_
              refine vv_iconst C dX12_product_40 ic_1 ?_
              refine vv_iadd C dX12_product_41 ?_
              refine vs_eqi (v9 := nI (t.2.1 + 1)) (nI_1 _) ?_
              refine pf_X12_at C dX12_product_42 fp_X12_210 ?_
              refine vv_aload_n C dX12_product_45 rfl ?_
              refine vs_calli C dX12_product_46 (hK (vs_us Sa 30 (nI (t.2.1 + 1))) L B N (hI.fr (hS.1.tr (vs_fr.rf.us (by decide)))) (t.2.1 + 1) hqL ⟨rfl, (hS.2.2.1 ht).1, ((hS.2.2.1 ht).2).trans hq.2.2⟩) mb_X12_one mv_X12_one lk_X12_241 ce_65 rfl rfl rfl rfl ⟨by omega, by omega, Nat.le_of_ble_eq_true rfl⟩ (fun r46 S46 p46 => ?_)
              refine vw_istore_n (lv9 := [_, _, _, _]) C dX12_product_49 (by decide) rfl rfl ?_
              have hyo := pOk_M (B := B) r 0 (t.2.1 + 1) hqL
              by_cases hy : ((pzR (pzO (ab L B) r) (ab L B) 0) (t.2.1 + 1)).1 = true
              · rw [if_pos hy] at he
                have e9 := p46.2 hy
                subst e9
                have hyp := hyo.2.2 hy
                refine vv_iload_n C dX12_product_50 rfl ?_
                refine vv_bipush C dX12_product_51 bp_42 ?_
                refine vv_icmp_ne (tgt := 62) C dX12_product_53 (by decide) (fun q53 => ?_) (fun q53 => ?_)
                · refine vv_iload_n C dX12_product_62 rfl ?_
                  refine vv_if_ne (tgt := 70) C dX12_product_63 (by decide) (fun q63 => ?_) (fun q63 => ?_)
                  · refine vv_iload_n C dX12_product_70 rfl ?_
                    refine vv_bipush C dX12_product_71 bp_47 ?_
                    refine vv_icmp_ne (tgt := 82) C dX12_product_73 (by decide) (fun q73 => ?_) (fun q73 => ?_)
                    · refine vv_iload_n C dX12_product_82 rfl ?_
                      refine vv_iload_n C dX12_product_83 rfl ?_
                      refine vv_irem C dX12_product_84 q63 ?_
                      refine vs_eqi (v9 := tkV (ab L B t.2.1) (t.2.2.2 N) (((pzR (pzO (ab L B) r) (ab L B) 0) (t.2.1 + 1)).2.2.2 N)) (by first | exact tkm q53 | exact tkd0 (hop3.resolve_left q53) q63 | exact tkd q73 q63 | exact tkr ((hop3.resolve_left q53).resolve_left q73) q63) ?_
                      refine vw_istore_n (lv9 := [_, _, _, _]) C dX12_product_85 (by decide) rfl rfl ?_
                      refine vv_aload_n C dX12_product_86 rfl ?_
                      refine vs_caliF C dX12_product_87 (c_X12_byteAt g S46 L B N (hI.fr ((hS.1.tr (vs_fr.rf.us (by decide))).tr p46.1.1)) ((pzR (pzO (ab L B) r) (ab L B) 0) (t.2.1 + 1)).2.1 hyo.1 p46.1.2.1) mb_X12_byteAt mv_X12_byteAt lk_X12_222 ce_65 rfl rfl rfl rfl ⟨by omega, by omega, Nat.le_of_ble_eq_true rfl⟩ ?_
                      refine vw_istore_n (lv9 := [_, _, _, _]) C dX12_product_90 (by decide) rfl rfl ?_
                      refine vv_goto (tgt := 10) C dX12_product_91 (by decide) ?_
                      exact ih (true, ((pzR (pzO (ab L B) r) (ab L B) 0) (t.2.1 + 1)).2.1, t.2.2.1 ++ (((pzR (pzO (ab L B) r) (ab L B) 0) (t.2.1 + 1)).2.2.1 ++ [-(ab L B t.2.1)]), fun N => tkV (ab L B t.2.1) (t.2.2.2 N) (((pzR (pzO (ab L B) r) (ab L B) 0) (t.2.1 + 1)).2.2.2 N)) _ S46 rfl ⟨((hS.1.tr (vs_fr.rf.us (by decide))).tr p46.1.1), p46.1.2.1, fun _ => ⟨(p46.1.2.2.1 hy).1, (p46.1.2.2.1 hy).2.trans (hS.2.2.1 ht).2⟩, fun z => absurd rfl z⟩ ⟨hyo.1, by show p ≤ ((pzR (pzO (ab L B) r) (ab L B) 0) (t.2.1 + 1)).2.1; omega, fun _ => ⟨by
                          show p + (t.2.2.1 ++ (((pzR (pzO (ab L B) r) (ab L B) 0) (t.2.1 + 1)).2.2.1 ++ [-(ab L B t.2.1)])).length ≤ ((pzR (pzO (ab L B) r) (ab L B) 0) (t.2.1 + 1)).2.1
                          rw [List.length_append, List.length_append, List.length_singleton]
                          omega, by show p < ((pzR (pzO (ab L B) r) (ab L B) 0) (t.2.1 + 1)).2.1; omega⟩⟩ (by show 120 ≤ ((pzR (pzO (ab L B) r) (ab L B) 0) (t.2.1 + 1)).2.1 + f; omega) he
                    · refine vv_iload_n C dX12_product_76 rfl ?_
                      refine vv_iload_n C dX12_product_77 rfl ?_
                      refine vv_idiv C dX12_product_78 q63 ?_
                      refine vv_goto (tgt := 85) C dX12_product_79 (by decide) ?_
                      refine vs_eqi (v9 := tkV (ab L B t.2.1) (t.2.2.2 N) (((pzR (pzO (ab L B) r) (ab L B) 0) (t.2.1 + 1)).2.2.2 N)) (by first | exact tkm q53 | exact tkd0 (hop3.resolve_left q53) q63 | exact tkd q73 q63 | exact tkr ((hop3.resolve_left q53).resolve_left q73) q63) ?_
                      refine vw_istore_n (lv9 := [_, _, _, _]) C dX12_product_85 (by decide) rfl rfl ?_
                      refine vv_aload_n C dX12_product_86 rfl ?_
                      refine vs_caliF C dX12_product_87 (c_X12_byteAt g S46 L B N (hI.fr ((hS.1.tr (vs_fr.rf.us (by decide))).tr p46.1.1)) ((pzR (pzO (ab L B) r) (ab L B) 0) (t.2.1 + 1)).2.1 hyo.1 p46.1.2.1) mb_X12_byteAt mv_X12_byteAt lk_X12_222 ce_65 rfl rfl rfl rfl ⟨by omega, by omega, Nat.le_of_ble_eq_true rfl⟩ ?_
                      refine vw_istore_n (lv9 := [_, _, _, _]) C dX12_product_90 (by decide) rfl rfl ?_
                      refine vv_goto (tgt := 10) C dX12_product_91 (by decide) ?_
                      exact ih (true, ((pzR (pzO (ab L B) r) (ab L B) 0) (t.2.1 + 1)).2.1, t.2.2.1 ++ (((pzR (pzO (ab L B) r) (ab L B) 0) (t.2.1 + 1)).2.2.1 ++ [-(ab L B t.2.1)]), fun N => tkV (ab L B t.2.1) (t.2.2.2 N) (((pzR (pzO (ab L B) r) (ab L B) 0) (t.2.1 + 1)).2.2.2 N)) _ S46 rfl ⟨((hS.1.tr (vs_fr.rf.us (by decide))).tr p46.1.1), p46.1.2.1, fun _ => ⟨(p46.1.2.2.1 hy).1, (p46.1.2.2.1 hy).2.trans (hS.2.2.1 ht).2⟩, fun z => absurd rfl z⟩ ⟨hyo.1, by show p ≤ ((pzR (pzO (ab L B) r) (ab L B) 0) (t.2.1 + 1)).2.1; omega, fun _ => ⟨by
                          show p + (t.2.2.1 ++ (((pzR (pzO (ab L B) r) (ab L B) 0) (t.2.1 + 1)).2.2.1 ++ [-(ab L B t.2.1)])).length ≤ ((pzR (pzO (ab L B) r) (ab L B) 0) (t.2.1 + 1)).2.1
                          rw [List.length_append, List.length_append, List.length_singleton]
                          omega, by show p < ((pzR (pzO (ab L B) r) (ab L B) 0) (t.2.1 + 1)).2.1; omega⟩⟩ (by show 120 ≤ ((pzR (pzO (ab L B) r) (ab L B) 0) (t.2.1 + 1)).2.1 + f; omega) he
                  · refine vv_iconst C dX12_product_66 ic_0 ?_
                    refine vv_goto (tgt := 85) C dX12_product_67 (by decide) ?_
                    refine vs_eqi (v9 := tkV (ab L B t.2.1) (t.2.2.2 N) (((pzR (pzO (ab L B) r) (ab L B) 0) (t.2.1 + 1)).2.2.2 N)) (by first | exact tkm q53 | exact tkd0 (hop3.resolve_left q53) q63 | exact tkd q73 q63 | exact tkr ((hop3.resolve_left q53).resolve_left q73) q63) ?_
                    refine vw_istore_n (lv9 := [_, _, _, _]) C dX12_product_85 (by decide) rfl rfl ?_
                    refine vv_aload_n C dX12_product_86 rfl ?_
                    refine vs_caliF C dX12_product_87 (c_X12_byteAt g S46 L B N (hI.fr ((hS.1.tr (vs_fr.rf.us (by decide))).tr p46.1.1)) ((pzR (pzO (ab L B) r) (ab L B) 0) (t.2.1 + 1)).2.1 hyo.1 p46.1.2.1) mb_X12_byteAt mv_X12_byteAt lk_X12_222 ce_65 rfl rfl rfl rfl ⟨by omega, by omega, Nat.le_of_ble_eq_true rfl⟩ ?_
                    refine vw_istore_n (lv9 := [_, _, _, _]) C dX12_product_90 (by decide) rfl rfl ?_
                    refine vv_goto (tgt := 10) C dX12_product_91 (by decide) ?_
                    exact ih (true, ((pzR (pzO (ab L B) r) (ab L B) 0) (t.2.1 + 1)).2.1, t.2.2.1 ++ (((pzR (pzO (ab L B) r) (ab L B) 0) (t.2.1 + 1)).2.2.1 ++ [-(ab L B t.2.1)]), fun N => tkV (ab L B t.2.1) (t.2.2.2 N) (((pzR (pzO (ab L B) r) (ab L B) 0) (t.2.1 + 1)).2.2.2 N)) _ S46 rfl ⟨((hS.1.tr (vs_fr.rf.us (by decide))).tr p46.1.1), p46.1.2.1, fun _ => ⟨(p46.1.2.2.1 hy).1, (p46.1.2.2.1 hy).2.trans (hS.2.2.1 ht).2⟩, fun z => absurd rfl z⟩ ⟨hyo.1, by show p ≤ ((pzR (pzO (ab L B) r) (ab L B) 0) (t.2.1 + 1)).2.1; omega, fun _ => ⟨by
                        show p + (t.2.2.1 ++ (((pzR (pzO (ab L B) r) (ab L B) 0) (t.2.1 + 1)).2.2.1 ++ [-(ab L B t.2.1)])).length ≤ ((pzR (pzO (ab L B) r) (ab L B) 0) (t.2.1 + 1)).2.1
                        rw [List.length_append, List.length_append, List.length_singleton]
                        omega, by show p < ((pzR (pzO (ab L B) r) (ab L B) 0) (t.2.1 + 1)).2.1; omega⟩⟩ (by show 120 ≤ ((pzR (pzO (ab L B) r) (ab L B) 0) (t.2.1 + 1)).2.1 + f; omega) he
                · refine vv_iload_n C dX12_product_56 rfl ?_
                  refine vv_iload_n C dX12_product_57 rfl ?_
                  refine vv_imul C dX12_product_58 ?_
                  refine vv_goto (tgt := 85) C dX12_product_59 (by decide) ?_
                  refine vs_eqi (v9 := tkV (ab L B t.2.1) (t.2.2.2 N) (((pzR (pzO (ab L B) r) (ab L B) 0) (t.2.1 + 1)).2.2.2 N)) (by first | exact tkm q53 | exact tkd0 (hop3.resolve_left q53) q63 | exact tkd q73 q63 | exact tkr ((hop3.resolve_left q53).resolve_left q73) q63) ?_
                  refine vw_istore_n (lv9 := [_, _, _, _]) C dX12_product_85 (by decide) rfl rfl ?_
                  refine vv_aload_n C dX12_product_86 rfl ?_
                  refine vs_caliF C dX12_product_87 (c_X12_byteAt g S46 L B N (hI.fr ((hS.1.tr (vs_fr.rf.us (by decide))).tr p46.1.1)) ((pzR (pzO (ab L B) r) (ab L B) 0) (t.2.1 + 1)).2.1 hyo.1 p46.1.2.1) mb_X12_byteAt mv_X12_byteAt lk_X12_222 ce_65 rfl rfl rfl rfl ⟨by omega, by omega, Nat.le_of_ble_eq_true rfl⟩ ?_
                  refine vw_istore_n (lv9 := [_, _, _, _]) C dX12_product_90 (by decide) rfl rfl ?_
                  refine vv_goto (tgt := 10) C dX12_product_91 (by decide) ?_
                  exact ih (true, ((pzR (pzO (ab L B) r) (ab L B) 0) (t.2.1 + 1)).2.1, t.2.2.1 ++ (((pzR (pzO (ab L B) r) (ab L B) 0) (t.2.1 + 1)).2.2.1 ++ [-(ab L B t.2.1)]), fun N => tkV (ab L B t.2.1) (t.2.2.2 N) (((pzR (pzO (ab L B) r) (ab L B) 0) (t.2.1 + 1)).2.2.2 N)) _ S46 rfl ⟨((hS.1.tr (vs_fr.rf.us (by decide))).tr p46.1.1), p46.1.2.1, fun _ => ⟨(p46.1.2.2.1 hy).1, (p46.1.2.2.1 hy).2.trans (hS.2.2.1 ht).2⟩, fun z => absurd rfl z⟩ ⟨hyo.1, by show p ≤ ((pzR (pzO (ab L B) r) (ab L B) 0) (t.2.1 + 1)).2.1; omega, fun _ => ⟨by
                      show p + (t.2.2.1 ++ (((pzR (pzO (ab L B) r) (ab L B) 0) (t.2.1 + 1)).2.2.1 ++ [-(ab L B t.2.1)])).length ≤ ((pzR (pzO (ab L B) r) (ab L B) 0) (t.2.1 + 1)).2.1
                      rw [List.length_append, List.length_append, List.length_singleton]
                      omega, by show p < ((pzR (pzO (ab L B) r) (ab L B) 0) (t.2.1 + 1)).2.1; omega⟩⟩ (by show 120 ≤ ((pzR (pzO (ab L B) r) (ab L B) 0) (t.2.1 + 1)).2.1 + f; omega) he
              · rw [if_neg hy] at he
                have h32 := p46.1.2.2.2 hy
                have hy31 : ((pzR (pzO (ab L B) r) (ab L B) 0) (t.2.1 + 1)).2.1 < 2 ^ 31 := by have := hyo.1; omega
                refine vv_iload_n C dX12_product_50 rfl ?_
                refine vv_bipush C dX12_product_51 bp_42 ?_
                refine vv_icmp_ne (tgt := 62) C dX12_product_53 (by decide) (fun q53 => ?_) (fun q53 => ?_)
                · refine vv_iload_n C dX12_product_62 rfl ?_
                  refine vv_if_ne (tgt := 70) C dX12_product_63 (by decide) (fun q63 => ?_) (fun q63 => ?_)
                  · refine vv_iload_n C dX12_product_70 rfl ?_
                    refine vv_bipush C dX12_product_71 bp_47 ?_
                    refine vv_icmp_ne (tgt := 82) C dX12_product_73 (by decide) (fun q73 => ?_) (fun q73 => ?_)
                    · refine vv_iload_n C dX12_product_82 rfl ?_
                      refine vv_iload_n C dX12_product_83 rfl ?_
                      refine vv_irem C dX12_product_84 q63 ?_
                      refine vw_istore_n (lv9 := [_, _, _, _]) C dX12_product_85 (by decide) rfl rfl ?_
                      refine vv_aload_n C dX12_product_86 rfl ?_
                      refine vs_caliF C dX12_product_87 (c_X12_byteAt g S46 L B N (hI.fr ((hS.1.tr (vs_fr.rf.us (by decide))).tr p46.1.1)) ((pzR (pzO (ab L B) r) (ab L B) 0) (t.2.1 + 1)).2.1 hyo.1 p46.1.2.1) mb_X12_byteAt mv_X12_byteAt lk_X12_222 ce_65 rfl rfl rfl rfl ⟨by omega, by omega, Nat.le_of_ble_eq_true rfl⟩ ?_
                      refine vw_istore_n (lv9 := [_, _, _, _]) C dX12_product_90 (by decide) rfl rfl ?_
                      refine vv_goto (tgt := 10) C dX12_product_91 (by decide) ?_
                      refine vv_aload_n C dX12_product_10 rfl ?_
                      refine gf_X12_fault C dX12_product_11 fg_X12_219 ?_
                      refine vv_if_ge (tgt := 94) C dX12_product_14 (by decide) (fun q14 => ?_) (fun q14 => ?_)
                      · skip
                        refine vv_iload_n C dX12_product_94 rfl ?_
                        exact vs_iret C F dX12_product_95 rfl ⟨by rw [← he]; exact ⟨((hS.1.tr (vs_fr.rf.us (by decide))).tr p46.1.1), p46.1.2.1, fun z => absurd (show false = true from z) (by decide), fun _ => h32⟩, fun z => by rw [← he] at z; cases z⟩
                      · exact absurd (nf_ge hy31 h32) q14
                    · refine vv_iload_n C dX12_product_76 rfl ?_
                      refine vv_iload_n C dX12_product_77 rfl ?_
                      refine vv_idiv C dX12_product_78 q63 ?_
                      refine vv_goto (tgt := 85) C dX12_product_79 (by decide) ?_
                      refine vw_istore_n (lv9 := [_, _, _, _]) C dX12_product_85 (by decide) rfl rfl ?_
                      refine vv_aload_n C dX12_product_86 rfl ?_
                      refine vs_caliF C dX12_product_87 (c_X12_byteAt g S46 L B N (hI.fr ((hS.1.tr (vs_fr.rf.us (by decide))).tr p46.1.1)) ((pzR (pzO (ab L B) r) (ab L B) 0) (t.2.1 + 1)).2.1 hyo.1 p46.1.2.1) mb_X12_byteAt mv_X12_byteAt lk_X12_222 ce_65 rfl rfl rfl rfl ⟨by omega, by omega, Nat.le_of_ble_eq_true rfl⟩ ?_
                      refine vw_istore_n (lv9 := [_, _, _, _]) C dX12_product_90 (by decide) rfl rfl ?_
                      refine vv_goto (tgt := 10) C dX12_product_91 (by decide) ?_
                      refine vv_aload_n C dX12_product_10 rfl ?_
                      refine gf_X12_fault C dX12_product_11 fg_X12_219 ?_
                      refine vv_if_ge (tgt := 94) C dX12_product_14 (by decide) (fun q14 => ?_) (fun q14 => ?_)
                      · skip
                        refine vv_iload_n C dX12_product_94 rfl ?_
                        exact vs_iret C F dX12_product_95 rfl ⟨by rw [← he]; exact ⟨((hS.1.tr (vs_fr.rf.us (by decide))).tr p46.1.1), p46.1.2.1, fun z => absurd (show false = true from z) (by decide), fun _ => h32⟩, fun z => by rw [← he] at z; cases z⟩
                      · exact absurd (nf_ge hy31 h32) q14
                  · refine vv_iconst C dX12_product_66 ic_0 ?_
                    refine vv_goto (tgt := 85) C dX12_product_67 (by decide) ?_
                    refine vw_istore_n (lv9 := [_, _, _, _]) C dX12_product_85 (by decide) rfl rfl ?_
                    refine vv_aload_n C dX12_product_86 rfl ?_
                    refine vs_caliF C dX12_product_87 (c_X12_byteAt g S46 L B N (hI.fr ((hS.1.tr (vs_fr.rf.us (by decide))).tr p46.1.1)) ((pzR (pzO (ab L B) r) (ab L B) 0) (t.2.1 + 1)).2.1 hyo.1 p46.1.2.1) mb_X12_byteAt mv_X12_byteAt lk_X12_222 ce_65 rfl rfl rfl rfl ⟨by omega, by omega, Nat.le_of_ble_eq_true rfl⟩ ?_
                    refine vw_istore_n (lv9 := [_, _, _, _]) C dX12_product_90 (by decide) rfl rfl ?_
                    refine vv_goto (tgt := 10) C dX12_product_91 (by decide) ?_
                    refine vv_aload_n C dX12_product_10 rfl ?_
                    refine gf_X12_fault C dX12_product_11 fg_X12_219 ?_
                    refine vv_if_ge (tgt := 94) C dX12_product_14 (by decide) (fun q14 => ?_) (fun q14 => ?_)
                    · skip
                      refine vv_iload_n C dX12_product_94 rfl ?_
                      exact vs_iret C F dX12_product_95 rfl ⟨by rw [← he]; exact ⟨((hS.1.tr (vs_fr.rf.us (by decide))).tr p46.1.1), p46.1.2.1, fun z => absurd (show false = true from z) (by decide), fun _ => h32⟩, fun z => by rw [← he] at z; cases z⟩
                    · exact absurd (nf_ge hy31 h32) q14
                · refine vv_iload_n C dX12_product_56 rfl ?_
                  refine vv_iload_n C dX12_product_57 rfl ?_
                  refine vv_imul C dX12_product_58 ?_
                  refine vv_goto (tgt := 85) C dX12_product_59 (by decide) ?_
                  refine vw_istore_n (lv9 := [_, _, _, _]) C dX12_product_85 (by decide) rfl rfl ?_
                  refine vv_aload_n C dX12_product_86 rfl ?_
                  refine vs_caliF C dX12_product_87 (c_X12_byteAt g S46 L B N (hI.fr ((hS.1.tr (vs_fr.rf.us (by decide))).tr p46.1.1)) ((pzR (pzO (ab L B) r) (ab L B) 0) (t.2.1 + 1)).2.1 hyo.1 p46.1.2.1) mb_X12_byteAt mv_X12_byteAt lk_X12_222 ce_65 rfl rfl rfl rfl ⟨by omega, by omega, Nat.le_of_ble_eq_true rfl⟩ ?_
                  refine vw_istore_n (lv9 := [_, _, _, _]) C dX12_product_90 (by decide) rfl rfl ?_
                  refine vv_goto (tgt := 10) C dX12_product_91 (by decide) ?_
                  refine vv_aload_n C dX12_product_10 rfl ?_
                  refine gf_X12_fault C dX12_product_11 fg_X12_219 ?_
                  refine vv_if_ge (tgt := 94) C dX12_product_14 (by decide) (fun q14 => ?_) (fun q14 => ?_)
                  · skip
                    refine vv_iload_n C dX12_product_94 rfl ?_
                    exact vs_iret C F dX12_product_95 rfl ⟨by rw [← he]; exact ⟨((hS.1.tr (vs_fr.rf.us (by decide))).tr p46.1.1), p46.1.2.1, fun z => absurd (show false = true from z) (by decide), fun _ => h32⟩, fun z => by rw [← he] at z; cases z⟩
                  · exact absurd (nf_ge hy31 h32) q14
  by_cases ht0 : ((pzR (pzO (ab L B) r) (ab L B) 0) p).1 = true
  · have e9 := p1.2 ht0
    subst e9
    refine vw_istore_n (lv9 := [_, _, _, _]) C dX12_product_4 (by decide) rfl rfl ?_
    refine vv_aload_n C dX12_product_5 rfl ?_
    refine vs_caliF C dX12_product_6 (c_X12_byteAt g S1 L B N (hI.fr p1.1.1) ((pzR (pzO (ab L B) r) (ab L B) 0) p).2.1 hpo.1 p1.1.2.1) mb_X12_byteAt mv_X12_byteAt lk_X12_222 ce_65 rfl rfl rfl rfl ⟨by omega, by omega, Nat.le_of_ble_eq_true rfl⟩ ?_
    refine vw_istore_n (lv9 := [_, _, _, _]) C dX12_product_9 (by decide) rfl rfl ?_
    exact loop 120 ((pzR (pzO (ab L B) r) (ab L B) 0) p) _ S1 ht0 p1.1 hpo (by omega) (by show _ = if ((pzR (pzO (ab L B) r) (ab L B) 0) p).1 = true then _ else _; rw [if_pos ht0]; rfl)
  · have h32 := p1.1.2.2.2 ht0
    have hy31 : ((pzR (pzO (ab L B) r) (ab L B) 0) p).2.1 < 2 ^ 31 := by have := hpo.1; omega
    have hfin : (pzR (pzO (ab L B) r) (ab L B) 1 p) = pF ((pzR (pzO (ab L B) r) (ab L B) 0) p).2.1 := if_neg ht0
    refine vw_istore_n (lv9 := [_, _, _, _]) C dX12_product_4 (by decide) rfl rfl ?_
    refine vv_aload_n C dX12_product_5 rfl ?_
    refine vs_caliF C dX12_product_6 (c_X12_byteAt g S1 L B N (hI.fr p1.1.1) ((pzR (pzO (ab L B) r) (ab L B) 0) p).2.1 hpo.1 p1.1.2.1) mb_X12_byteAt mv_X12_byteAt lk_X12_222 ce_65 rfl rfl rfl rfl ⟨by omega, by omega, Nat.le_of_ble_eq_true rfl⟩ ?_
    refine vw_istore_n (lv9 := [_, _, _, _]) C dX12_product_9 (by decide) rfl rfl ?_
    refine vv_aload_n C dX12_product_10 rfl ?_
    refine gf_X12_fault C dX12_product_11 fg_X12_219 ?_
    refine vv_if_ge (tgt := 94) C dX12_product_14 (by decide) (fun q14 => ?_) (fun q14 => ?_)
    · skip
      refine vv_iload_n C dX12_product_94 rfl ?_
      exact vs_iret C F dX12_product_95 rfl ⟨by rw [hfin]; exact ⟨p1.1.1, p1.1.2.1, fun z => absurd (show false = true from z) (by decide), fun _ => h32⟩, fun z => by rw [hfin] at z; cases z⟩
    · exact absurd (nf_ge hy31 h32) q14
