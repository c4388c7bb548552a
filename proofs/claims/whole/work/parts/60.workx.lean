/-- what a seller's text brings, price by price: how many, the chosen one -/
def k_cs (P : Nat → Bool) (sv : (Nat → Int32) → Int32) : Nat → Nat → Int32 → Nat → Int32 × Int32 → Nat × Int32 × Int32
  | 0, _, _, c, b => (c, b)
  | f + 1, x, pv, c, b => if P x = true then k_cs P sv f (x + 1) (nI x) (c + 1) (if c = 0 ∨ b.2 < sv (nmF (nI x) (if pv = -2 then 0 else nI x - pv) (nI (c + 1))) then (nI x, sv (nmF (nI x) (if pv = -2 then 0 else nI x - pv) (nI (c + 1)))) else b) else k_cs P sv f (x + 1) pv c b
theorem k_csS (f : Nat) {P : Nat → Bool} {sv : (Nat → Int32) → Int32} {x c : Nat} {pv : Int32} {b : Int32 × Int32} : k_cs P sv (f + 1) x pv c b = if P x = true then k_cs P sv f (x + 1) (nI x) (c + 1) (if c = 0 ∨ b.2 < sv (nmF (nI x) (if pv = -2 then 0 else nI x - pv) (nI (c + 1))) then (nI x, sv (nmF (nI x) (if pv = -2 then 0 else nI x - pv) (nI (c + 1)))) else b) else k_cs P sv f (x + 1) pv c b := rfl
def k_ch (P : Nat → Bool) (sv : (Nat → Int32) → Int32) (a b : Nat) : Nat × Int32 × Int32 := k_cs P sv (b + 1 - a) a (lw_dn P (nI a - 1).toNatClampNeg) 0 (0, 0)
def k_chosen (P : Nat → Bool) (sv : (Nat → Int32) → Int32) (a b w : Int32) : Int32 := if (((decide (0 ≤ a) && decide (a ≤ b)) && decide (b ≤ 100000)) && (decide (b - a ≤ 2000) && vs_w w 0 1)) = true then (if (k_ch P sv a.toNatClampNeg b.toNatClampNeg).1 = 0 then -2000000000 else if w = 0 then (k_ch P sv a.toNatClampNeg b.toNatClampNeg).2.1 else (k_ch P sv a.toNatClampNeg b.toNatClampNeg).2.2) else -2000000000
theorem tks_len {N : Nat → Int32} {o : Int32} {st : List Int32} : (tks N o st).length ≤ st.length + 1 := by
  unfold tks
  split
  · exact Nat.le_refl _
  · split
    · rw [List.length_cons, tl_len]; omega
    · split
      · rw [List.length_cons, tl_len]; omega
      · rw [List.length_cons, tl_len, tl_len]; omega
theorem ch_ab {a b : Int32} (h : ((decide (0 ≤ a) && decide (a ≤ b)) && decide (b ≤ 100000)) = true) : ∃ x y, x ≤ y ∧ y ≤ 100000 ∧ a = nI x ∧ b = nI y := by
  simp only [Bool.and_eq_true, decide_eq_true_eq] at h
  obtain ⟨⟨h1, h2⟩, h3⟩ := h
  obtain ⟨y, hy, e⟩ := xn_of (n := 100000) (by omega) (Int32.le_trans h1 h2) h3
  subst e
  obtain ⟨x, hx, e⟩ := xn_of (n := y) (by omega) h1 h2
  subst e
  exact ⟨x, y, hx, hy, rfl, rfl⟩

set_option maxRecDepth 20000 in
theorem c_X7_learn (g : vv_G) (S : vs_S) (cd : List Int32) (hc : hc0 S cd) (hlen : cd.length ≤ 121) : vs_KV g yX7_learn cX7_learn 3 none 2 [vv_r g 45, vv_r g 48] S (fun S1 => slX S1 cd ∧ vs_fr [10] [46] [] S S1) := by
  refine vs_ofV (lv := [_, _, _]) mb_X7_learn (Nat.le_of_ble_eq_true rfl) rfl (fun x C F => ?_)
  refine vv_aload_n C dX7_learn_0 rfl ?_
  refine vv_aload_n C dX7_learn_1 rfl ?_
  refine vs_caliF C dX7_learn_2 (c_X6_written g S) mb_X6_written mv_X6_written lk_X7_28 ce_48 rfl rfl rfl rfl ⟨Nat.le_of_ble_eq_true rfl, Nat.le_of_ble_eq_true rfl, Nat.le_of_ble_eq_true rfl⟩ ?_
  refine vs_eqi (v9 := nI cd.length) (hc.1) ?_
  refine vv_aload_n C dX7_learn_5 rfl ?_
  refine gf_X7_steps C dX7_learn_6 fg_X7_11 ?_
  refine ln_46 C dX7_learn_9 ?_
  refine vv_mmin C dX7_learn_10 lk_X7_32 ⟨Nat.le_of_ble_eq_true rfl, Nat.le_of_ble_eq_true rfl, Nat.zero_le _, Nat.zero_le _⟩ ?_
  refine vs_eqi (v9 := nI cd.length) (if_neg (by rw [xn_lit, xn_lt (by omega) (by omega)]; omega)) ?_
  refine pf_X7_length C dX7_learn_13 fp_X7_24 ?_
  refine vv_iconst C dX7_learn_16 ic_0 ?_
  refine vw_istore_n (lv9 := [_, _, _]) C dX7_learn_17 (by decide) rfl rfl ?_
  have loop : ∀ (f i : Nat) (S1 : vs_S), i + f = cd.length → vs_fr [10] [46] [] S S1 → S1.1 10 = nI cd.length → (∀ p, p < i → S1.2.1 46 p = cd.getD p 0) → vv_V g x 3 0 0 18 [some (vv_r g 45), some (vv_r g 48), some (.int (nI i))] [] (vs_cells g S1) := by
    intro f
    induction f with
    | zero =>
      intro i S1 hi hf h10 hf1
      have e4 : i = cd.length := by omega
      subst e4
      refine vv_iload_n C dX7_learn_18 rfl ?_
      refine vv_aload_n C dX7_learn_19 rfl ?_
      refine gf_X7_length C dX7_learn_20 fg_X7_24 ?_
      refine vs_eqi (v9 := nI cd.length) (h10) ?_
      refine vv_icmp_ge (tgt := 43) C dX7_learn_23 (by decide) (fun q23 => ?_) (fun q23 => ?_)
      · skip
        exact vs_vret C F dX7_learn_43 rfl ⟨⟨h10, hlen, hf1⟩, hf⟩
      · exact absurd (Int32.le_refl _) q23
    | succ f ih =>
      intro i S1 hi hf h10 hf1
      refine vv_iload_n C dX7_learn_18 rfl ?_
      refine vv_aload_n C dX7_learn_19 rfl ?_
      refine gf_X7_length C dX7_learn_20 fg_X7_24 ?_
      refine vs_eqi (v9 := nI cd.length) (h10) ?_
      refine vv_icmp_ge (tgt := 43) C dX7_learn_23 (by decide) (fun q23 => ?_) (fun q23 => ?_)
      · exact absurd q23 (by rw [xn_le (by omega) (by omega)]; omega)
      · skip
        refine vv_aload_n C dX7_learn_26 rfl ?_
        refine gf_X7_steps C dX7_learn_27 fg_X7_11 ?_
        refine vv_iload_n C dX7_learn_30 rfl ?_
        refine vv_aload_n C dX7_learn_31 rfl ?_
        refine vv_iload_n C dX7_learn_32 rfl ?_
        refine vs_caliF C dX7_learn_33 (c_X6_step g S1 _ (xn_in (by omega) (by omega))) mb_X6_step mv_X6_step lk_X7_38 ce_48 rfl rfl rfl rfl ⟨Nat.le_of_ble_eq_true rfl, Nat.le_of_ble_eq_true rfl, Nat.le_of_ble_eq_true rfl⟩ ?_
        refine vs_eqi (v9 := cd.getD i 0) (by rw [xn_cl (by omega), hf.2.1 50 (by decide)]; exact hc.2 i (by omega)) ?_
        refine st_46 C dX7_learn_36 (xn_in (by omega) (by omega)) ?_
        refine vw_iinc (lv9 := [_, _, _]) C dX7_learn_37 rfl ic_1 (by decide) rfl rfl ?_
        refine vv_goto (tgt := 18) C dX7_learn_40 (by decide) ?_
        rw [nI_1]
        refine ih (i + 1) _ (by omega) (hf.ua (by decide)) h10 (fun p hp => ?_)
        show upd (S1.2.1 46) (nI i).toNatClampNeg (cd.getD i 0) p = _
        rw [xn_cl (by omega), xn_upd (α := Nat)]
        by_cases z : p = i
        · rw [if_pos z, z]
        · rw [if_neg z]
          exact hf1 p (by omega)
  exact loop cd.length 0 _ (by omega) (vs_fr.rf.us (by decide)) rfl (fun p hp => absurd hp (Nat.not_lt_zero p))
set_option maxRecDepth 20000 in
theorem c_X11_seller (g : vv_G) (S : vs_S) (L : Nat) (B : Nat → Int32) (hT : tp S L B) : vs_KI g yX11_seller cX11_seller 2 (some .int) 60 [vv_r g 0] S (fun r S1 => r = (if (pzX (ah L B) L).1 = true then 1 else -100 - nI (pzX (ah L B) L).2.1) ∧ vs_fr [10, 14, 15, 16, 17] [46, 50] [] S S1 ∧ S1.1 14 = 0 ∧ ((pzX (ah L B) L).1 = true → slX S1 (pzX (ah L B) L).2.2.1) ∧ (¬ (pzX (ah L B) L).1 = true → S1.1 10 = S.1 10 ∧ S1.2.1 46 = S.2.1 46)) := by
  have hL := hT.2.1
  refine vs_ofI (lv := [_, _]) mb_X11_seller (Nat.le_of_ble_eq_true rfl) rfl (fun x C F => ?_)
  refine vv_aload_n C dX11_seller_0 rfl ?_
  refine gf_X11_reader C dX11_seller_1 fg_X11_74 ?_
  refine vs_calli C dX11_seller_4 (c_X6_readText g S L B hT) mb_X6_readText mv_X6_readText lk_X11_191 ce_48 rfl rfl rfl rfl ⟨by omega, by omega, Nat.le_of_ble_eq_true rfl⟩ (fun r4 S4 p4 => ?_)
  have hpo := (pOk_T (ah_bl (L := L) (B := B)) 120 0 (Nat.zero_le _))
  refine vw_istore_n (lv9 := [_, _]) C dX11_seller_7 (by decide) rfl rfl ?_
  refine vv_iload_n C dX11_seller_8 rfl ?_
  refine vv_if_lt (tgt := 17) C dX11_seller_9 (by decide) (fun q9 => ?_) (fun q9 => ?_)
  · have ht : (pzX (ah L B) L).1 = true := by
      apply Decidable.byContradiction
      intro z
      have e := p4.1
      rw [if_neg z] at e
      rw [e] at q9
      have hle : (pzX (ah L B) L).2.1 ≤ L := by
        have e2 : (pzX (ah L B) L) = pzT (ah L B) 120 0 ∨ (pzX (ah L B) L) = pF (pzT (ah L B) 120 0).2.1 := by
          unfold pzX pz7
          split
          · exact Or.inr rfl
          · exact Or.inl rfl
        rcases e2 with e2 | e2 <;> rw [e2]
        · exact hpo.1
        · exact hpo.1
      exact xn_neg (by omega) q9
    have hR : (pzX (ah L B) L) = pzT (ah L B) 120 0 := by
      unfold pzX pz7 at ht ⊢
      split
      · rename_i z
        rw [if_pos z] at ht
        exact absurd (show false = true from ht) (by decide)
      · rfl
    have hlen : (pzX (ah L B) L).2.2.1.length ≤ 121 := by
      have z := hpo.2 (by rw [← hR]; exact ht)
      rw [← hR] at z
      have z1 := hpo.1
      rw [← hR] at z1
      omega
    refine vv_aload_n C dX11_seller_17 rfl ?_
    refine gf_X11_seller C dX11_seller_18 fg_X11_67 ?_
    refine vv_aload_n C dX11_seller_21 rfl ?_
    refine gf_X11_reader C dX11_seller_22 fg_X11_74 ?_
    refine vs_callv C dX11_seller_25 (c_X7_learn g S4 (pzX (ah L B) L).2.2.1 (p4.2.2.2 ht) hlen) mb_X7_learn mv_X7_learn lk_X11_194 ce_45 rfl rfl rfl rfl ⟨by omega, by omega, Nat.le_of_ble_eq_true rfl⟩ (fun S25 p25 => ?_)
    refine vv_iconst C dX11_seller_28 ic_1 ?_
    exact vs_iret C F dX11_seller_29 rfl ⟨(if_pos ht).symm, (p4.2.1.wd (by decide) (by decide) (by decide)).tr (p25.2.wd (by decide) (by decide) (by decide)), (p25.2.1 14 (by decide)).trans p4.2.2.1, fun _ => p25.1, fun z => absurd ht z⟩
  · have ht : ¬ (pzX (ah L B) L).1 = true := by
      intro z
      have e := p4.1
      rw [if_pos z] at e
      rw [e] at q9
      exact q9 (by decide)
    refine vv_bipush C dX11_seller_12 bp_m100 ?_
    refine vv_iload_n C dX11_seller_14 rfl ?_
    refine vv_isub C dX11_seller_15 ?_
    exact vs_iret C F dX11_seller_16 rfl ⟨by rw [if_neg ht, p4.1, if_neg ht], p4.2.1.wd (by decide) (by decide) (by decide), p4.2.2.1, fun z => absurd z ht, fun _ => ⟨p4.2.1.1 10 (by decide), p4.2.1.2.1 46 (by decide)⟩⟩
set_option maxRecDepth 20000 in
theorem c_X7_workOut (g : vv_G) (S : vs_S) (cd : List Int32) (hs : slX S cd) (px a n : Int32) : vs_KI g yX7_workOut cX7_workOut 7 (some .int) 4 [vv_r g 45, .int px, .int a, .int n] S (fun r S1 => r = mch (nmF px a n) cd true [] ∧ vs_fr [11] [47] [] S S1) := by
  refine vs_ofI (lv := [_, _, _, _, _, _, _]) mb_X7_workOut (Nat.le_of_ble_eq_true rfl) rfl (fun x C F => ?_)
  refine vv_aload_n C dX7_workOut_0 rfl ?_
  refine vv_iconst C dX7_workOut_1 ic_0 ?_
  refine pf_X7_high C dX7_workOut_2 fp_X7_61 ?_
  refine vv_iconst C dX7_workOut_5 ic_1 ?_
  refine vw_istore (lv9 := [_, _, _, _, _, _, _]) C dX7_workOut_6 (by decide) rfl rfl ?_
  refine vv_iconst C dX7_workOut_8 ic_0 ?_
  refine vw_istore (lv9 := [_, _, _, _, _, _, _]) C dX7_workOut_9 (by decide) rfl rfl ?_
  have loop : ∀ (f i : Nat) (u : Bool) (st : List Int32) (w6 : Option Value) (S1 : vs_S), i + f = cd.length → vs_fr [11] [47] [] S S1 → kX S1 st → st.length ≤ i → mch (nmF px a n) (cd.drop i) u st = mch (nmF px a n) cd true [] → vv_V g x 7 0 0 11 [some (vv_r g 45), some (.int px), some (.int a), some (.int n), some (.int (vs_b u)), some (.int (nI i)), w6] [] (vs_cells g S1) := by
    intro f
    induction f with
    | zero =>
      intro i u st w6 S1 hi hf hk hst he
      have hs1 := hs.fr hf (by decide) (by decide)
      have hl121 := hs.2.1
      have e4 : i = cd.length := by omega
      subst e4
      rw [List.drop_length] at he
      refine vv_iload C dX7_workOut_11 rfl ?_
      refine vv_aload_n C dX7_workOut_13 rfl ?_
      refine gf_X7_length C dX7_workOut_14 fg_X7_24 ?_
      refine vs_eqi (v9 := nI cd.length) (hs1.1) ?_
      refine vv_icmp_ge (tgt := 111) C dX7_workOut_17 (by decide) (fun q17 => ?_) (fun q17 => ?_)
      · skip
        refine vv_iconst C dX7_workOut_111 ic_0 ?_
        exact vs_iret C F dX7_workOut_112 rfl ⟨he, hf⟩
      · exact absurd (Int32.le_refl _) q17
    | succ f ih =>
      intro i u st w6 S1 hi hf hk hst he
      have hs1 := hs.fr hf (by decide) (by decide)
      have hl121 := hs.2.1
      have hlt : i < cd.length := by omega
      rw [dr_c hlt, mchS] at he
      refine vv_iload C dX7_workOut_11 rfl ?_
      refine vv_aload_n C dX7_workOut_13 rfl ?_
      refine gf_X7_length C dX7_workOut_14 fg_X7_24 ?_
      refine vs_eqi (v9 := nI cd.length) (hs1.1) ?_
      refine vv_icmp_ge (tgt := 111) C dX7_workOut_17 (by decide) (fun q17 => ?_) (fun q17 => ?_)
      · exact absurd q17 (by rw [xn_le (by omega) (by omega)]; omega)
      · skip
        refine vv_aload_n C dX7_workOut_20 rfl ?_
        refine gf_X7_steps C dX7_workOut_21 fg_X7_11 ?_
        refine vv_iload C dX7_workOut_24 rfl ?_
        refine ld_46 C dX7_workOut_26 (xn_in (by omega) (by omega)) ?_
        refine vs_eqi (v9 := cd.getD i 0) (by rw [xn_cl (by omega)]; exact hs1.2.2 i hlt) ?_
        refine vw_istore (lv9 := [_, _, _, _, _, _, _]) C dX7_workOut_27 (by decide) rfl rfl ?_
        refine vv_iload C dX7_workOut_29 rfl ?_
        refine vv_if_lt (tgt := 43) C dX7_workOut_31 (by decide) (fun q31 => ?_) (fun q31 => ?_)
        · rw [if_neg (Int32.not_le.mpr q31)] at he
          refine vv_iload C dX7_workOut_43 rfl ?_
          refine vv_bipush C dX7_workOut_45 bp_m63 ?_
          refine vv_icmp_ne (tgt := 67) C dX7_workOut_47 (by decide) (fun q47 => ?_) (fun q47 => ?_)
          · rw [if_neg q47] at he
            refine vv_iload C dX7_workOut_67 rfl ?_
            refine vv_bipush C dX7_workOut_69 bp_m59 ?_
            refine vv_icmp_eq (tgt := 87) C dX7_workOut_71 (by decide) (fun q71 => ?_) (fun q71 => ?_)
            · rw [if_pos q71] at he
              refine vv_iload C dX7_workOut_87 rfl ?_
              refine vv_if_eq (tgt := 97) C dX7_workOut_89 (by decide) (fun q89 => ?_) (fun q89 => ?_)
              · have hu : u = false := vs_b0.mp q89
                subst hu
                rw [if_neg (by decide)] at he
                refine vv_iconst C dX7_workOut_97 ic_1 ?_
                refine vw_istore (lv9 := [_, _, _, _, _, _, _]) C dX7_workOut_98 (by decide) rfl rfl ?_
                refine vv_aload_n C dX7_workOut_100 rfl ?_
                refine vv_iconst C dX7_workOut_101 ic_0 ?_
                refine pf_X7_high C dX7_workOut_102 fp_X7_61 ?_
                refine vw_iinc (lv9 := [_, _, _, _, _, _, _]) C dX7_workOut_105 rfl ic_1 (by decide) rfl rfl ?_
                refine vv_goto (tgt := 11) C dX7_workOut_108 (by decide) ?_
                rw [nI_1]
                first
                | exact ih (i + 1) u _ _ _ (by omega) (hf.tr p37.2) p37.1 (by rw [List.length_cons]; omega) he
                | exact ih (i + 1) _ _ _ _ (by omega) (hf.tr p51.2.2) p51.2.1 (by rw [tl_len]; omega) he
                | exact ih (i + 1) u _ _ _ (by omega) (hf.tr p81.2) p81.1 (Nat.le_trans tks_len (by omega)) he
                | exact ih (i + 1) true [] _ _ (by omega) (hf.us (by decide)) ⟨rfl, fun i hi => absurd hi (Nat.not_lt_zero i)⟩ (Nat.zero_le _) he
              · have hu : u = true := vs_b1.mp q89
                subst hu
                rw [if_pos rfl] at he
                refine vv_aload_n C dX7_workOut_92 rfl ?_
                refine vs_calli C dX7_workOut_93 (c_X7_pop g S1 st hk (by omega)) mb_X7_pop mv_X7_pop lk_X7_68 ce_45 rfl rfl rfl rfl ⟨Nat.le_of_ble_eq_true rfl, Nat.le_of_ble_eq_true rfl, Nat.le_of_ble_eq_true rfl⟩ (fun r93 S93 p93 => ?_)
                exact vs_iret C F dX7_workOut_96 rfl ⟨by rw [p93.1]; exact he, hf.tr p93.2.2⟩
            · rw [if_neg q71] at he
              refine vv_aload_n C dX7_workOut_74 rfl ?_
              refine vv_iload C dX7_workOut_75 rfl ?_
              refine vv_ineg C dX7_workOut_77 ?_
              refine vv_iload_n C dX7_workOut_78 rfl ?_
              refine vv_iload_n C dX7_workOut_79 rfl ?_
              refine vv_iload_n C dX7_workOut_80 rfl ?_
              refine vs_callv C dX7_workOut_81 (c_X7_takeStep g S1 st hk (by omega) (-(cd.getD i 0)) px a n) mb_X7_takeStep mv_X7_takeStep lk_X7_71 ce_45 rfl rfl rfl rfl ⟨Nat.le_of_ble_eq_true rfl, Nat.le_of_ble_eq_true rfl, Nat.le_of_ble_eq_true rfl⟩ (fun S81 p81 => ?_)
              refine vv_goto (tgt := 105) C dX7_workOut_84 (by decide) ?_
              refine vw_iinc (lv9 := [_, _, _, _, _, _, _]) C dX7_workOut_105 rfl ic_1 (by decide) rfl rfl ?_
              refine vv_goto (tgt := 11) C dX7_workOut_108 (by decide) ?_
              rw [nI_1]
              first
              | exact ih (i + 1) u _ _ _ (by omega) (hf.tr p37.2) p37.1 (by rw [List.length_cons]; omega) he
              | exact ih (i + 1) _ _ _ _ (by omega) (hf.tr p51.2.2) p51.2.1 (by rw [tl_len]; omega) he
              | exact ih (i + 1) u _ _ _ (by omega) (hf.tr p81.2) p81.1 (Nat.le_trans tks_len (by omega)) he
              | exact ih (i + 1) true [] _ _ (by omega) (hf.us (by decide)) ⟨rfl, fun i hi => absurd hi (Nat.not_lt_zero i)⟩ (Nat.zero_le _) he
          · rw [if_pos q47] at he
            refine vv_aload_n C dX7_workOut_50 rfl ?_
            refine vs_calli C dX7_workOut_51 (c_X7_pop g S1 st hk (by omega)) mb_X7_pop mv_X7_pop lk_X7_68 ce_45 rfl rfl rfl rfl ⟨Nat.le_of_ble_eq_true rfl, Nat.le_of_ble_eq_true rfl, Nat.le_of_ble_eq_true rfl⟩ (fun r51 S51 p51 => ?_)
            refine vv_if_eq (tgt := 61) C dX7_workOut_54 (by decide) (fun q54 => ?_) (fun q54 => ?_)
            · refine vv_iconst C dX7_workOut_61 ic_0 ?_
              refine vs_eqi (v9 := vs_b (!(hd0 st == 0))) (by rw [p51.1] at q54; simp [vs_b, q54]) ?_
              refine vw_istore (lv9 := [_, _, _, _, _, _, _]) C dX7_workOut_62 (by decide) rfl rfl ?_
              refine vv_goto (tgt := 105) C dX7_workOut_64 (by decide) ?_
              refine vw_iinc (lv9 := [_, _, _, _, _, _, _]) C dX7_workOut_105 rfl ic_1 (by decide) rfl rfl ?_
              refine vv_goto (tgt := 11) C dX7_workOut_108 (by decide) ?_
              rw [nI_1]
              first
              | exact ih (i + 1) u _ _ _ (by omega) (hf.tr p37.2) p37.1 (by rw [List.length_cons]; omega) he
              | exact ih (i + 1) _ _ _ _ (by omega) (hf.tr p51.2.2) p51.2.1 (by rw [tl_len]; omega) he
              | exact ih (i + 1) u _ _ _ (by omega) (hf.tr p81.2) p81.1 (Nat.le_trans tks_len (by omega)) he
              | exact ih (i + 1) true [] _ _ (by omega) (hf.us (by decide)) ⟨rfl, fun i hi => absurd hi (Nat.not_lt_zero i)⟩ (Nat.zero_le _) he
            · refine vv_iconst C dX7_workOut_57 ic_1 ?_
              refine vv_goto (tgt := 62) C dX7_workOut_58 (by decide) ?_
              refine vs_eqi (v9 := vs_b (!(hd0 st == 0))) (by rw [p51.1] at q54; simp [vs_b, q54]) ?_
              refine vw_istore (lv9 := [_, _, _, _, _, _, _]) C dX7_workOut_62 (by decide) rfl rfl ?_
              refine vv_goto (tgt := 105) C dX7_workOut_64 (by decide) ?_
              refine vw_iinc (lv9 := [_, _, _, _, _, _, _]) C dX7_workOut_105 rfl ic_1 (by decide) rfl rfl ?_
              refine vv_goto (tgt := 11) C dX7_workOut_108 (by decide) ?_
              rw [nI_1]
              first
              | exact ih (i + 1) u _ _ _ (by omega) (hf.tr p37.2) p37.1 (by rw [List.length_cons]; omega) he
              | exact ih (i + 1) _ _ _ _ (by omega) (hf.tr p51.2.2) p51.2.1 (by rw [tl_len]; omega) he
              | exact ih (i + 1) u _ _ _ (by omega) (hf.tr p81.2) p81.1 (Nat.le_trans tks_len (by omega)) he
              | exact ih (i + 1) true [] _ _ (by omega) (hf.us (by decide)) ⟨rfl, fun i hi => absurd hi (Nat.not_lt_zero i)⟩ (Nat.zero_le _) he
        · rw [if_pos (Int32.not_lt.mp q31)] at he
          refine vv_aload_n C dX7_workOut_34 rfl ?_
          refine vv_iload C dX7_workOut_35 rfl ?_
          refine vs_callv C dX7_workOut_37 (c_X7_push g S1 st hk (by omega) (cd.getD i 0)) mb_X7_push mv_X7_push lk_X7_64 ce_45 rfl rfl rfl rfl ⟨Nat.le_of_ble_eq_true rfl, Nat.le_of_ble_eq_true rfl, Nat.le_of_ble_eq_true rfl⟩ (fun S37 p37 => ?_)
          refine vv_goto (tgt := 105) C dX7_workOut_40 (by decide) ?_
          refine vw_iinc (lv9 := [_, _, _, _, _, _, _]) C dX7_workOut_105 rfl ic_1 (by decide) rfl rfl ?_
          refine vv_goto (tgt := 11) C dX7_workOut_108 (by decide) ?_
          rw [nI_1]
          first
          | exact ih (i + 1) u _ _ _ (by omega) (hf.tr p37.2) p37.1 (by rw [List.length_cons]; omega) he
          | exact ih (i + 1) _ _ _ _ (by omega) (hf.tr p51.2.2) p51.2.1 (by rw [tl_len]; omega) he
          | exact ih (i + 1) u _ _ _ (by omega) (hf.tr p81.2) p81.1 (Nat.le_trans tks_len (by omega)) he
          | exact ih (i + 1) true [] _ _ (by omega) (hf.us (by decide)) ⟨rfl, fun i hi => absurd hi (Nat.not_lt_zero i)⟩ (Nat.zero_le _) he
  exact loop cd.length 0 true [] _ (vs_us S 11 0) (by omega) (vs_fr.rf.us (by decide)) ⟨rfl, fun i hi => absurd hi (Nat.not_lt_zero i)⟩ (Nat.le_refl _) rfl
