/-! THE SELLER, both sides -/
abbrev qT : Type := Option (Nat × (Nat → Int32))
def slM (S : vs_S) (q : qT) : Prop := match q with
  | none => S.1 28 = -1
  | some (L, B) => S.1 28 = nI L ∧ L ≤ 120 ∧ (∀ i, i < L → S.2.1 77 i = B i) ∧ (pzX (ab L B) L).1 = true
def sv (q : qT) (N : Nat → Int32) : Int32 := match q with
  | none => N 0
  | some (L, B) => (pzX (ab L B) L).2.2.2 N
def cdq (q : qT) : List Int32 := match q with
  | none => [-112, -59]
  | some (L, B) => (pzX (ab L B) L).2.2.1
def okq (q : qT) : Prop := match q with
  | none => True
  | some (L, B) => L ≤ 120 ∧ (pzX (ab L B) L).1 = true
theorem slM.ok {S : vs_S} {q : qT} (h : slM S q) : okq q := by
  cases q with
  | none => trivial
  | some p => exact ⟨h.2.1, h.2.2.2⟩
theorem pzX_ok {tb : Nat → Int32} {L : Nat} (h : (pzX tb L).1 = true) : pzX tb L = pzT tb 120 0 := by
  unfold pzX pz7 at h ⊢
  split
  · rename_i z
    rw [if_pos z] at h
    exact absurd (show false = true from h) (by decide)
  · rfl
theorem mch_sv {q : qT} (h : okq q) (N : Nat → Int32) : mch N (cdq q) true [] = sv q N := by
  cases q with
  | none => rfl
  | some p =>
    have e := pzX_ok h.2
    show mch N (pzX (ab p.1 p.2) p.1).2.2.1 true [] = (pzX (ab p.1 p.2) p.1).2.2.2 N
    rw [e]
    exact pGo_T N 120 0 (by rw [← e]; exact h.2)
theorem mch_N {N M : Nat → Int32} (h : ∀ k, k < 5 → N k = M k) : ∀ (c : List Int32) (u : Bool) (st : List Int32), mch N c u st = mch M c u st
  | [], _, _ => rfl
  | s :: c, u, st => by
    rw [mchS, mchS, mch_N h c, mch_N h c, mch_N h c, mch_N h c]
    have e : tks N (-s) st = tks M (-s) st := by
      unfold tks
      by_cases z : tkN (-s) < 5
      · rw [if_pos z, if_pos z, h _ z]
      · rw [if_neg z, if_neg z]
    rw [e]
theorem sv_N {q : qT} (h : okq q) {N M : Nat → Int32} (e : ∀ k, k < 5 → N k = M k) : sv q N = sv q M := by
  rw [← mch_sv h, ← mch_sv h, mch_N e]
theorem slM.fr {S S1 : vs_S} {q : qT} {ks is js : List Nat} (h : slM S q) (f : vs_fr ks is js S S1) (h1 : 28 ∉ ks) (h2 : 77 ∉ is) : slM S1 q := by
  cases q with
  | none => exact (f.1 28 h1).trans h
  | some p => exact ⟨(f.1 28 h1).trans h.1, h.2.1, fun i hi => by rw [f.2.1 77 h2]; exact h.2.2.1 i hi, h.2.2.2⟩
theorem slM_lt {S : vs_S} {q : qT} (h : slM S q) (z : S.1 28 < 0) : q = none := by
  cases q with
  | none => rfl
  | some p => rw [h.1] at z; exact absurd z (xn_neg (by have := h.2.1; omega))
theorem slM_ge {S : vs_S} {q : qT} (h : slM S q) (z : 0 ≤ S.1 28) : ∃ L B, q = some (L, B) ∧ S.1 28 = nI L ∧ L ≤ 120 ∧ (∀ i, i < L → S.2.1 77 i = B i) ∧ (pzX (ab L B) L).1 = true := by
  cases q with
  | none => rw [show S.1 28 = -1 from h] at z; exact absurd z (by decide)
  | some p => exact ⟨p.1, p.2, rfl, h⟩
theorem lw_dlt (P : Nat → Bool) (v : Int32) : lw_dn P v.toNatClampNeg < 0 ↔ lw_dn P v.toNatClampNeg = -2 := by
  obtain ⟨n, hn, _, e⟩ := xn_any v
  rw [e]
  exact lw_dnn n hn

set_option maxRecDepth 20000 in
theorem c_X12_seller (g : vv_G) (S : vs_S) (L : Nat) (B : Nat → Int32) (hT : tpM S L B) : vs_KI g yX12_seller cX12_seller 4 (some .int) 46 [vv_r g 65] S (fun r S1 => r = (if (pzX (ab L B) L).1 = true then 1 else -100 - nI (pzX (ab L B) L).2.1) ∧ vs_fr [27, 28, 29, 30, 31, 32, 33] [77] [] S S1 ∧ S1.1 27 = 0 ∧ ((pzX (ab L B) L).1 = true → S1.1 28 = nI L ∧ ∀ k, k < L → S1.2.1 77 k = B k) ∧ (¬ (pzX (ab L B) L).1 = true → S1.1 28 = S.1 28 ∧ S1.2.1 77 = S.2.1 77)) := by
  have hL := hT.2.1
  refine vs_ofI (lv := [_, _, _, _]) mb_X12_seller (Nat.le_of_ble_eq_true rfl) rfl (fun x C F => ?_)
  refine vv_aload_n C dX12_seller_0 rfl ?_
  refine vv_iconst C dX12_seller_1 ic_m1 ?_
  refine vv_aload_n C dX12_seller_2 rfl ?_
  refine gf_X12_tapeMany C dX12_seller_3 fg_X12_207 ?_
  refine vs_calli C dX12_seller_6 (c_X12_workOut g S L B (S.2.1 78) hL (-1) (S.1 27) hT.1 (Or.inl ⟨rfl, hT.2.2⟩) rfl) mb_X12_workOut mv_X12_workOut lk_X12_256 ce_65 rfl rfl rfl rfl ⟨by omega, by omega, Nat.le_of_ble_eq_true rfl⟩ (fun r6 S6 p6 => ?_)
  generalize r6 = r1
  refine vw_istore_n (lv9 := [_, _, _, _]) C dX12_seller_9 (by decide) rfl rfl ?_
  refine vv_aload_n C dX12_seller_10 rfl ?_
  refine gf_X12_tapeMany C dX12_seller_11 fg_X12_207 ?_
  refine vs_eqi (v9 := nI L) ((p6.1.1 27 (by decide)).trans hT.1) ?_
  refine vw_istore_n (lv9 := [_, _, _, _]) C dX12_seller_14 (by decide) rfl rfl ?_
  refine vv_aload_n C dX12_seller_15 rfl ?_
  refine vv_iconst C dX12_seller_16 ic_0 ?_
  refine pf_X12_tapeMany C dX12_seller_17 fp_X12_207 ?_
  refine vv_aload_n C dX12_seller_20 rfl ?_
  refine gf_X12_fault C dX12_seller_21 fg_X12_219 ?_
  refine vv_if_lt (tgt := 35) C dX12_seller_24 (by decide) (fun q24 => ?_) (fun q24 => ?_)
  · have ht : (pzX (ab L B) L).1 = true := by
      apply Decidable.byContradiction
      intro z
      have e := p6.2.2 z
      have hpo : (pzX (ab L B) L).2.1 ≤ L := by
        have hpo := (pOk_T (ab_bl (L := L) (B := B)) 120 0 (Nat.zero_le _))
        have e2 : (pzX (ab L B) L) = pzT (ab L B) 120 0 ∨ (pzX (ab L B) L) = pF (pzT (ab L B) 120 0).2.1 := by
          unfold pzX pz7
          split
          · exact Or.inr rfl
          · exact Or.inl rfl
        rcases e2 with e2 | e2 <;> rw [e2]
        · exact hpo.1
        · exact hpo.1
      exact xn_neg (show (pzX (ab L B) L).2.1 < 2 ^ 31 by omega) (by rw [← e]; exact q24)
    refine vv_iconst C dX12_seller_35 ic_0 ?_
    refine vw_istore_n (lv9 := [_, _, _, _]) C dX12_seller_36 (by decide) rfl rfl ?_
    have loop : ∀ (f i : Nat) (S1 : vs_S), i + f = L → vs_fr [27, 28, 29, 30, 31, 32, 33] [77] [] S S1 → S1.1 27 = 0 → (∀ k, k < i → S1.2.1 77 k = B k) → vv_V g x 4 0 0 37 [some (vv_r g 65), some (.int r1), some (.int (nI L)), some (.int (nI i))] [] (vs_cells g S1) := by
      intro f
      induction f with
      | zero =>
        intro i S1 hi hf h27 hf1
        have e4 : L = i := by omega
        subst e4
        refine vv_iload_n C dX12_seller_37 rfl ?_
        refine vv_iload_n C dX12_seller_38 rfl ?_
        refine vv_icmp_ge (tgt := 60) C dX12_seller_39 (by decide) (fun q39 => ?_) (fun q39 => ?_)
        · skip
          refine vv_aload_n C dX12_seller_60 rfl ?_
          refine vv_iload_n C dX12_seller_61 rfl ?_
          refine pf_X12_textMany C dX12_seller_62 fp_X12_80 ?_
          refine vv_iconst C dX12_seller_65 ic_1 ?_
          exact vs_iret C F dX12_seller_66 rfl ⟨(if_pos ht).symm, hf.us (by decide), h27, fun _ => ⟨rfl, fun k hk => hf1 k (by omega)⟩, fun z => absurd ht z⟩
        · exact absurd (Int32.le_refl _) q39
      | succ f ih =>
        intro i S1 hi hf h27 hf1
        refine vv_iload_n C dX12_seller_37 rfl ?_
        refine vv_iload_n C dX12_seller_38 rfl ?_
        refine vv_icmp_ge (tgt := 60) C dX12_seller_39 (by decide) (fun q39 => ?_) (fun q39 => ?_)
        · exact absurd q39 (by rw [xn_le (by omega) (by omega)]; omega)
        · skip
          refine vv_aload_n C dX12_seller_42 rfl ?_
          refine gf_X12_text C dX12_seller_43 fg_X12_47 ?_
          refine vv_iload_n C dX12_seller_46 rfl ?_
          refine vv_aload_n C dX12_seller_47 rfl ?_
          refine gf_X12_tape C dX12_seller_48 fg_X12_44 ?_
          refine vv_iload_n C dX12_seller_51 rfl ?_
          refine ld_76 C dX12_seller_52 (xn_in (by omega) (by omega)) ?_
          refine vs_eqi (v9 := B i) (by rw [xn_cl (by omega), hf.2.1 76 (by decide)]; exact hT.2.2 i (by omega)) ?_
          refine st_77 C dX12_seller_53 (xn_in (by omega) (by omega)) ?_
          refine vw_iinc (lv9 := [_, _, _, _]) C dX12_seller_54 rfl ic_1 (by decide) rfl rfl ?_
          refine vv_goto (tgt := 37) C dX12_seller_57 (by decide) ?_
          rw [nI_1]
          refine ih (i + 1) _ (by omega) (hf.ua (by decide)) h27 (fun k hk => ?_)
          show upd (S1.2.1 77) (nI i).toNatClampNeg (B i) k = _
          rw [xn_cl (by omega), xn_upd (α := Nat)]
          by_cases z : k = i
          · rw [if_pos z, z]
          · rw [if_neg z]
            exact hf1 k (by omega)
    exact loop L 0 (vs_us S6 27 0) (by omega) ((p6.1.wd (by decide) (by decide) (by decide) : vs_fr [27, 28, 29, 30, 31, 32, 33] [77] [] S S6).us (by decide)) rfl (fun k hk => absurd hk (Nat.not_lt_zero k))
  · have ht : ¬ (pzX (ab L B) L).1 = true := fun z => by
      have e := (p6.2.1 z).2
      exact q24 (show S6.1 32 < 0 by rw [e]; decide)
    refine vv_bipush C dX12_seller_27 bp_m100 ?_
    refine vv_aload_n C dX12_seller_29 rfl ?_
    refine gf_X12_fault C dX12_seller_30 fg_X12_219 ?_
    refine vs_eqi (v9 := nI (pzX (ab L B) L).2.1) (p6.2.2 ht) ?_
    refine vv_isub C dX12_seller_33 ?_
    exact vs_iret C F dX12_seller_34 rfl ⟨(if_neg ht).symm, (p6.1.wd (by decide) (by decide) (by decide) : vs_fr [27, 28, 29, 30, 31, 32, 33] [77] [] S S6).us (by decide), rfl, fun z => absurd z ht, fun _ => ⟨p6.1.1 28 (by decide), p6.1.2.1 77 (by decide)⟩⟩
