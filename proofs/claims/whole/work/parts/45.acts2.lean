/-! ACTS as the reference runs them -/
def pS (self : Int32) (k : Nat) (v : Int32) : pR := if k = 1 ∨ k = 4 then (v + self + 3, [20, 1]) else if k = 5 ∨ k = 6 then ((v + self) * 2, [60, 1]) else (v + self, [1])
def qS (own : Nat) (self : Int32) (k : Nat) (v : Int32) : pR := if k = 3 then ((v ^^^ self) * 3, [40, 11]) else if k = 4 then ((v ^^^ self) - (pS self own 2).1, 50 :: 11 :: (pS self own 2).2) else (v ^^^ self, [11])
def oB (own : Nat) (self : Int32) (v : Int32) : pR := ((pS self own v).1 * 2, 10 :: (pS self own v).2)
def oS (own : Nat) (self : Int32) (k : Nat) (v : Int32) : pR := if k = 3 then (-(oB own self (v + 1)).1, 41 :: 30 :: (oB own self (v + 1)).2) else if k = 2 then (-(oB own self v).1, 30 :: (oB own self v).2) else if k = 7 then ((oB own self v).1 + (qS own self own 2).1, 80 :: ((oB own self v).2 ++ (qS own self own 2).2)) else oB own self v
def tB (own : Nat) (self : Int32) (v : Int32) : pR := ((oS own self own v).1 - (qS own self own 1).1, 2 :: ((oS own self own v).2 ++ (qS own self own 1).2))
def tS (own : Nat) (self : Int32) (k : Nat) (v : Int32) : pR := if k = 6 then ((tB own self v).1 ^^^ 5, 70 :: (tB own self v).2) else if k = 7 then ((tB own self v).1 - 1, 81 :: (tB own self v).2) else tB own self v
def aS (act own : Nat) (self : Int32) (v : Int32) : pR := if act = 0 then pS self own v else if act = 1 then oS own self own v else if act = 2 then qS own self own v else tS own self own v
set_option maxRecDepth 20000 in
theorem ar_aS {act own : Nat} {self v : Int32} (ha : act < 4) (ho : own < 8) : ar own self 21 act own v = aS act own self v := by
  have h1 : act = 0 ∨ act = 1 ∨ act = 2 ∨ act = 3 := by omega
  have h2 : own = 0 ∨ own = 1 ∨ own = 2 ∨ own = 3 ∨ own = 4 ∨ own = 5 ∨ own = 6 ∨ own = 7 := by omega
  rcases h1 with e | e | e | e <;> subst e <;> rcases h2 with e | e | e | e | e | e | e | e <;> subst e <;> rfl
theorem pS_len {self : Int32} {k : Nat} {v : Int32} : (pS self k v).2.length ≤ 2 := by
  unfold pS
  by_cases h : k = 1 ∨ k = 4
  · rw [if_pos h]; exact Nat.le_refl 2
  · rw [if_neg h]
    by_cases h2 : k = 5 ∨ k = 6
    · rw [if_pos h2]; exact Nat.le_refl 2
    · rw [if_neg h2]; exact Nat.le_succ 1
theorem qS_len {own : Nat} {self : Int32} {k : Nat} {v : Int32} : (qS own self k v).2.length ≤ 4 := by
  have := pS_len (self := self) (k := own) (v := 2)
  unfold qS
  by_cases h : k = 3
  · rw [if_pos h]; show 2 ≤ 4; omega
  · rw [if_neg h]
    by_cases h2 : k = 4
    · rw [if_pos h2]; simp only [List.length_cons]; omega
    · rw [if_neg h2]; show 1 ≤ 4; omega
theorem oB_len {own : Nat} {self v : Int32} : (oB own self v).2.length ≤ 3 := by
  have := pS_len (self := self) (k := own) (v := v)
  unfold oB
  simp only [List.length_cons]
  omega
theorem oS_len {own : Nat} {self : Int32} {k : Nat} {v : Int32} : (oS own self k v).2.length ≤ 8 := by
  have h1 := oB_len (own := own) (self := self) (v := v)
  have h2 := oB_len (own := own) (self := self) (v := v + 1)
  have h3 := qS_len (own := own) (self := self) (k := own) (v := 2)
  unfold oS
  by_cases h : k = 3
  · rw [if_pos h]; simp only [List.length_cons]; omega
  · rw [if_neg h]
    by_cases h4 : k = 2
    · rw [if_pos h4]; simp only [List.length_cons]; omega
    · rw [if_neg h4]
      by_cases h5 : k = 7
      · rw [if_pos h5]; simp only [List.length_cons, List.length_append]; omega
      · rw [if_neg h5]; omega
theorem tB_len {own : Nat} {self v : Int32} : (tB own self v).2.length ≤ 13 := by
  have h1 := oS_len (own := own) (self := self) (k := own) (v := v)
  have h3 := qS_len (own := own) (self := self) (k := own) (v := 1)
  unfold tB
  simp only [List.length_cons, List.length_append]
  omega
theorem tS_len {own : Nat} {self : Int32} {k : Nat} {v : Int32} : (tS own self k v).2.length ≤ 14 := by
  have h1 := tB_len (own := own) (self := self) (v := v)
  unfold tS
  by_cases h : k = 6
  · rw [if_pos h]; simp only [List.length_cons]; omega
  · rw [if_neg h]
    by_cases h5 : k = 7
    · rw [if_pos h5]; simp only [List.length_cons]; omega
    · rw [if_neg h5]; omega
theorem aS_len {act own : Nat} {self v : Int32} : (aS act own self v).2.length ≤ 14 := by
  have h1 := pS_len (self := self) (k := own) (v := v)
  have h2 := oS_len (own := own) (self := self) (k := own) (v := v)
  have h3 := qS_len (own := own) (self := self) (k := own) (v := v)
  have h4 := tS_len (own := own) (self := self) (k := own) (v := v)
  unfold aS
  by_cases h : act = 0
  · rw [if_pos h]; omega
  · rw [if_neg h]
    by_cases h5 : act = 1
    · rw [if_pos h5]; omega
    · rw [if_neg h5]
      by_cases h6 : act = 2
      · rw [if_pos h6]; omega
      · rw [if_neg h6]; exact h4
/-- what an act answers and leaves -/
def aV (m : Nat) (K : Nat → Nat) (b act v : Int32) : pR := if (vs_w b 0 (nI m - 1) && vs_w act 0 3) = true then aS act.toNatClampNeg (K b.toNatClampNeg) b v else (0, [])
theorem aV_len {m : Nat} {K : Nat → Nat} {b act v : Int32} : (aV m K b act v).2.length ≤ 14 := by
  unfold aV
  split
  · exact aS_len
  · exact Nat.zero_le _
def tv (l : List Nat) (i : Int32) : Int32 := if i < 0 then -1 else if i.toNatClampNeg < 24 ∧ i.toNatClampNeg < l.length then nI (l.getD i.toNatClampNeg 0) else -1
def plX (S : vs_S) (m : Nat) (K : Nat → Nat) : Prop := S.1 18 = nI m ∧ m ≤ 50 ∧ ∀ i, i < m → S.2.1 52 i = nI (K i) ∧ K i < 8
def plM (S : vs_S) (m : Nat) (K : Nat → Nat) : Prop := S.1 37 = nI m ∧ m ≤ 50 ∧ ∀ i, i < m → S.2.1 82 i = nI (K i) ∧ K i < 8
theorem plX_i {m : Nat} {b : Int32} (hm : m ≤ 50) (h : vs_w b 0 (nI m - 1) = true) : ∃ k, k < m ∧ b = nI k := by
  cases m with
  | zero =>
    have h1 := vs_wT h
    exact absurd (Int32.le_trans h1.1 h1.2) (by decide)
  | succ n =>
    rw [nI_pred] at h
    obtain ⟨k, h1, h2, h3⟩ := vs_wN (a := 0) (by omega) (by omega) h
    exact ⟨k, by omega, h3⟩
theorem tM_len {S : vs_S} {l l2 : List Nat} (h : tM S l) (e : l = l2) : tM S l2 := e ▸ h

set_option maxRecDepth 20000 in
theorem c_X4_perform (g : vv_G) (S : vs_S) (m : Nat) (K : Nat → Nat) (hp : plX S m K) (b act v : Int32) : vs_KI g yX4_perform cX4_perform 4 (some .int) 25 [vv_r g 51, .int b, .int act, .int v] S (fun r S1 => r = (aV m K b act v).1 ∧ tX S1 (aV m K b act v).2 ∧ vs_fr [19, 20] [53] [] S S1) := by
  refine vs_ofI (lv := [_, _, _, _]) mb_X4_perform (Nat.le_of_ble_eq_true rfl) rfl (fun x C F => ?_)
  refine vv_aload_n C dX4_perform_0 rfl ?_
  refine vv_iconst C dX4_perform_1 ic_0 ?_
  refine pf_X4_ran C dX4_perform_2 fp_X4_22 ?_
  refine vv_iload_n C dX4_perform_5 rfl ?_
  refine vv_iconst C dX4_perform_6 ic_0 ?_
  refine vv_aload_n C dX4_perform_7 rfl ?_
  refine gf_X4_size C dX4_perform_8 fg_X4_18 ?_
  refine vs_eqi (v9 := nI m) (hp.1) ?_
  refine vv_iconst C dX4_perform_11 ic_1 ?_
  refine vv_isub C dX4_perform_12 ?_
  refine vs_calNiF (host := "LawfulSums") C dX4_perform_13 (c_X11_within g (vs_us S 19 0) _ _ _) mb_X11_within ms_X11_within (by decide) rfl rfl ⟨Nat.le_of_ble_eq_true rfl, Nat.le_of_ble_eq_true rfl, Nat.le_of_ble_eq_true rfl⟩ ?_
  refine vv_if_eq (tgt := 28) C dX4_perform_16 (by decide) (fun q16 => ?_) (fun q16 => ?_)
  · have hw : ¬ (vs_w b 0 (nI m - 1) && vs_w act 0 3) = true := by rw [show vs_w b 0 (nI m - 1) = false from vs_b0.mp q16, Bool.false_and]; decide
    refine vv_iconst C dX4_perform_28 ic_0 ?_
    exact vs_iret C F dX4_perform_29 rfl ⟨by unfold aV; rw [if_neg hw], by unfold aV; rw [if_neg hw]; exact ⟨rfl, fun i h1 h2 => absurd h2 (Nat.not_lt_zero i)⟩, vs_fr.rf.us (by decide)⟩
  · have w1 : vs_w b 0 (nI m - 1) = true := vs_b1.mp q16
    refine vv_iload_n C dX4_perform_19 rfl ?_
    refine vv_iconst C dX4_perform_20 ic_0 ?_
    refine vv_iconst C dX4_perform_21 ic_3 ?_
    refine vs_calNiF (host := "LawfulSums") C dX4_perform_22 (c_X11_within g (vs_us S 19 0) _ _ _) mb_X11_within ms_X11_within (by decide) rfl rfl ⟨Nat.le_of_ble_eq_true rfl, Nat.le_of_ble_eq_true rfl, Nat.le_of_ble_eq_true rfl⟩ ?_
    refine vv_if_ne (tgt := 30) C dX4_perform_25 (by decide) (fun q25 => ?_) (fun q25 => ?_)
    · have w2 : vs_w act 0 3 = true := vs_b1.mp q25
      have hw : (vs_w b 0 (nI m - 1) && vs_w act 0 3) = true := by rw [w1, w2]; rfl
      have hm5 := hp.2.1
      obtain ⟨k, hk, ek⟩ := plX_i hm5 w1
      obtain ⟨a, _, ha, ea⟩ := vs_wN (a := 0) (b := 3) (by omega) (by omega) w2
      subst ek
      subst ea
      have hv : aV m K (nI k) (nI a) v = ar (K k) (nI k) 21 a (K k) v := by
        unfold aV
        rw [if_pos hw, xn_cl (n := k) (by omega), xn_cl (n := a) (by omega), ar_aS (by omega) (hp.2.2 k hk).2]
      refine vv_aload_n C dX4_perform_30 rfl ?_
      refine vv_iload_n C dX4_perform_31 rfl ?_
      refine pf_X4_self C dX4_perform_32 fp_X4_32 ?_
      refine vv_aload_n C dX4_perform_35 rfl ?_
      refine vv_iload_n C dX4_perform_36 rfl ?_
      refine vv_aload_n C dX4_perform_37 rfl ?_
      refine gf_X4_kinds C dX4_perform_38 fg_X4_11 ?_
      refine vv_iload_n C dX4_perform_41 rfl ?_
      refine ld_52 C dX4_perform_42 (xn_in (by omega) (by omega)) ?_
      refine vs_eqi (v9 := nI (K k)) (by rw [xn_cl (by omega)]; exact (hp.2.2 k hk).1) ?_
      refine vv_iload_n C dX4_perform_43 rfl ?_
      refine vv_iconst C dX4_perform_44 ic_0 ?_
      refine vs_calli C dX4_perform_45 (c_X4_run g (K k) k (nI k) (hp.2.2 k hk).2 (by omega) rfl 21 (vs_us (vs_us S 19 0) 20 (nI k)) [] a (K k) v 0 rfl ⟨rfl, fun i h1 h2 => absurd h2 (Nat.not_lt_zero i)⟩ (by decide) (by omega) (hp.2.2 k hk).2 rfl (hp.2.2 k hk).1) mb_X4_run mv_X4_run lk_X4_35 ce_51 rfl rfl rfl rfl ⟨Nat.le_of_ble_eq_true rfl, Nat.le_of_ble_eq_true rfl, Nat.le_of_ble_eq_true rfl⟩ (fun r45 S45 p45 => ?_)
      exact vs_iret C F dX4_perform_48 rfl ⟨by rw [hv]; exact p45.1, by rw [hv]; exact p45.2.1, ((vs_fr.rf.us (by decide)).us (by decide)).tr (p45.2.2.wd (by decide) (by decide) (by decide))⟩
    · have hw : ¬ (vs_w b 0 (nI m - 1) && vs_w act 0 3) = true := by rw [show vs_w act 0 3 = false from vs_b0.mp q25, Bool.and_false]; decide
      refine vv_iconst C dX4_perform_28 ic_0 ?_
      exact vs_iret C F dX4_perform_29 rfl ⟨by unfold aV; rw [if_neg hw], by unfold aV; rw [if_neg hw]; exact ⟨rfl, fun i h1 h2 => absurd h2 (Nat.not_lt_zero i)⟩, vs_fr.rf.us (by decide)⟩
set_option maxRecDepth 20000 in
theorem c_X11_act (g : vv_G) (S : vs_S) (m : Nat) (K : Nat → Nat) (hp : plX S m K) (b act v : Int32) : vs_KI g yX11_act cX11_act 4 (some .int) 26 [vv_r g 0, .int b, .int act, .int v] S (fun r S1 => r = (aV m K b act v).1 ∧ tX S1 (aV m K b act v).2 ∧ vs_fr [19, 20] [53] [] S S1) := by
  refine vs_ofI (lv := [_, _, _, _]) mb_X11_act (Nat.le_of_ble_eq_true rfl) rfl (fun x C F => ?_)
  refine vv_aload_n C dX11_act_0 rfl ?_
  refine gf_X11_payments C dX11_act_1 fg_X11_81 ?_
  refine vv_iload_n C dX11_act_4 rfl ?_
  refine vv_iload_n C dX11_act_5 rfl ?_
  refine vv_iload_n C dX11_act_6 rfl ?_
  refine vs_calli C dX11_act_7 (c_X4_perform g S m K hp b act v) mb_X4_perform mv_X4_perform lk_X11_261 ce_51 rfl rfl rfl rfl ⟨Nat.le_of_ble_eq_true rfl, Nat.le_of_ble_eq_true rfl, Nat.le_of_ble_eq_true rfl⟩ (fun r7 S7 p7 => ?_)
  exact vs_iret C F dX11_act_10 rfl p7
set_option maxRecDepth 20000 in
theorem c_X4_traced (g : vv_G) (S : vs_S) (l : List Nat) (ht : tX S l) (hlen : l.length < 2 ^ 29) (i : Int32) : vs_FI g yX4_traced cX4_traced 2 (some .int) 1 [vv_r g 51, .int i] S (tv l i) S := by
  refine vs_ofI (lv := [_, _]) mb_X4_traced (Nat.le_of_ble_eq_true rfl) rfl (fun x C F => ?_)
  refine vv_iload_n C dX4_traced_0 rfl ?_
  refine vv_if_lt (tgt := 27) C dX4_traced_1 (by decide) (fun q1 => ?_) (fun q1 => ?_)
  · have hv : tv l i = -1 := if_pos q1
    refine vv_iconst C dX4_traced_27 ic_m1 ?_
    exact vs_iret C F dX4_traced_28 rfl ⟨hv.symm, rfl⟩
  · obtain ⟨k, hk, ek⟩ := nI_of q1
    subst ek
    have hv : tv l (nI k) = if k < 24 ∧ k < l.length then nI (l.getD k 0) else -1 := by
      unfold tv
      rw [if_neg q1, xn_cl hk]
    refine vv_iload_n C dX4_traced_4 rfl ?_
    refine vv_bipush C dX4_traced_5 bp_24 ?_
    refine vv_icmp_ge (tgt := 27) C dX4_traced_7 (by decide) (fun q7 => ?_) (fun q7 => ?_)
    · rw [if_neg (fun z => by rw [xn_lit, xn_le (by omega) (by omega)] at q7; omega)] at hv
      refine vv_iconst C dX4_traced_27 ic_m1 ?_
      exact vs_iret C F dX4_traced_28 rfl ⟨hv.symm, rfl⟩
    · have h24 : k < 24 := by rw [xn_lit, xn_le (by omega) (by omega)] at q7; omega
      refine vv_iload_n C dX4_traced_10 rfl ?_
      refine vv_aload_n C dX4_traced_11 rfl ?_
      refine gf_X4_ran C dX4_traced_12 fg_X4_22 ?_
      refine vs_eqi (v9 := nI l.length) (ht.1) ?_
      refine vv_icmp_ge (tgt := 27) C dX4_traced_15 (by decide) (fun q15 => ?_) (fun q15 => ?_)
      · rw [if_neg (fun z => by rw [xn_le (by omega) (by omega)] at q15; omega)] at hv
        refine vv_iconst C dX4_traced_27 ic_m1 ?_
        exact vs_iret C F dX4_traced_28 rfl ⟨hv.symm, rfl⟩
      · have hln : k < l.length := by rw [xn_le (by omega) (by omega)] at q15; omega
        rw [if_pos ⟨h24, hln⟩] at hv
        refine vv_aload_n C dX4_traced_18 rfl ?_
        refine gf_X4_trace C dX4_traced_19 fg_X4_15 ?_
        refine vv_iload_n C dX4_traced_22 rfl ?_
        refine ld_53 C dX4_traced_23 (xn_in (by omega) (by omega)) ?_
        refine vs_eqi (v9 := nI (l.getD k 0)) (by rw [xn_cl (by omega)]; exact ht.2 k h24 hln) ?_
        refine vv_goto (tgt := 28) C dX4_traced_24 (by decide) ?_
        exact vs_iret C F dX4_traced_28 rfl ⟨hv.symm, rfl⟩
set_option maxRecDepth 20000 in
theorem c_X12_trace (g : vv_G) (S : vs_S) (l : List Nat) (ht : tM S l) (hlen : l.length < 2 ^ 29) (i : Int32) : vs_FI g yX12_trace cX12_trace 2 (some .int) 1 [vv_r g 65, .int i] S (tv l i) S := by
  refine vs_ofI (lv := [_, _]) mb_X12_trace (Nat.le_of_ble_eq_true rfl) rfl (fun x C F => ?_)
  refine vv_iload_n C dX12_trace_0 rfl ?_
  refine vv_if_lt (tgt := 27) C dX12_trace_1 (by decide) (fun q1 => ?_) (fun q1 => ?_)
  · have hv : tv l i = -1 := if_pos q1
    refine vv_iconst C dX12_trace_27 ic_m1 ?_
    exact vs_iret C F dX12_trace_28 rfl ⟨hv.symm, rfl⟩
  · obtain ⟨k, hk, ek⟩ := nI_of q1
    subst ek
    have hv : tv l (nI k) = if k < 24 ∧ k < l.length then nI (l.getD k 0) else -1 := by
      unfold tv
      rw [if_neg q1, xn_cl hk]
    refine vv_iload_n C dX12_trace_4 rfl ?_
    refine vv_aload_n C dX12_trace_5 rfl ?_
    refine gf_X12_ran C dX12_trace_6 fg_X12_317 ?_
    refine vs_eqi (v9 := nI l.length) (ht.1) ?_
    refine vv_icmp_ge (tgt := 27) C dX12_trace_9 (by decide) (fun q9 => ?_) (fun q9 => ?_)
    · rw [if_neg (fun z => by rw [xn_le (by omega) (by omega)] at q9; omega)] at hv
      refine vv_iconst C dX12_trace_27 ic_m1 ?_
      exact vs_iret C F dX12_trace_28 rfl ⟨hv.symm, rfl⟩
    · have hln : k < l.length := by rw [xn_le (by omega) (by omega)] at q9; omega
      refine vv_iload_n C dX12_trace_12 rfl ?_
      refine vv_bipush C dX12_trace_13 bp_24 ?_
      refine vv_icmp_ge (tgt := 27) C dX12_trace_15 (by decide) (fun q15 => ?_) (fun q15 => ?_)
      · rw [if_neg (fun z => by rw [xn_lit, xn_le (by omega) (by omega)] at q15; omega)] at hv
        refine vv_iconst C dX12_trace_27 ic_m1 ?_
        exact vs_iret C F dX12_trace_28 rfl ⟨hv.symm, rfl⟩
      · have h24 : k < 24 := by rw [xn_lit, xn_le (by omega) (by omega)] at q15; omega
        rw [if_pos ⟨h24, hln⟩] at hv
        refine vv_aload_n C dX12_trace_18 rfl ?_
        refine gf_X12_trace C dX12_trace_19 fg_X12_65 ?_
        refine vv_iload_n C dX12_trace_22 rfl ?_
        refine ld_83 C dX12_trace_23 (xn_in (by omega) (by omega)) ?_
        refine vs_eqi (v9 := nI (l.getD k 0)) (by rw [xn_cl (by omega)]; exact ht.2 k h24 hln) ?_
        refine vv_goto (tgt := 28) C dX12_trace_24 (by decide) ?_
        exact vs_iret C F dX12_trace_28 rfl ⟨hv.symm, rfl⟩
set_option maxRecDepth 20000 in
theorem c_X11_trace (g : vv_G) (S : vs_S) (l : List Nat) (ht : tX S l) (hlen : l.length < 2 ^ 29) (i : Int32) : vs_FI g yX11_trace cX11_trace 2 (some .int) 2 [vv_r g 0, .int i] S (tv l i) S := by
  refine vs_ofI (lv := [_, _]) mb_X11_trace (Nat.le_of_ble_eq_true rfl) rfl (fun x C F => ?_)
  refine vv_aload_n C dX11_trace_0 rfl ?_
  refine gf_X11_payments C dX11_trace_1 fg_X11_81 ?_
  refine vv_iload_n C dX11_trace_4 rfl ?_
  refine vs_caliF C dX11_trace_5 (c_X4_traced g S l ht hlen i) mb_X4_traced mv_X4_traced lk_X11_264 ce_51 rfl rfl rfl rfl ⟨Nat.le_of_ble_eq_true rfl, Nat.le_of_ble_eq_true rfl, Nat.le_of_ble_eq_true rfl⟩ ?_
  exact vs_iret C F dX11_trace_8 rfl ⟨rfl, rfl⟩
set_option maxRecDepth 20000 in
theorem c_X4_add (g : vv_G) (S : vs_S) (m : Nat) (K : Nat → Nat) (hp : plX S m K) (k : Nat) (hk8 : k < 8) : vs_KI g yX4_add cX4_add 2 (some .int) 1 [vv_r g 51, .int (nI k)] S (fun r S1 => r = (if m = 50 then -3 else nI m) ∧ plX S1 (if m = 50 then m else m + 1) (if m = 50 then K else va_up K m k) ∧ vs_fr [18] [52] [] S S1) := by
  have hm5 := hp.2.1
  refine vs_ofI (lv := [_, _]) mb_X4_add (Nat.le_of_ble_eq_true rfl) rfl (fun x C F => ?_)
  refine vv_aload_n C dX4_add_0 rfl ?_
  refine gf_X4_size C dX4_add_1 fg_X4_18 ?_
  refine vs_eqi (v9 := nI m) (hp.1) ?_
  refine vv_bipush C dX4_add_4 bp_50 ?_
  refine vv_icmp_ne (tgt := 12) C dX4_add_6 (by decide) (fun q6 => ?_) (fun q6 => ?_)
  · have hc : ¬ m = 50 := fun z => q6 (by rw [z]; rfl)
    refine vv_aload_n C dX4_add_12 rfl ?_
    refine gf_X4_kinds C dX4_add_13 fg_X4_11 ?_
    refine vv_aload_n C dX4_add_16 rfl ?_
    refine gf_X4_size C dX4_add_17 fg_X4_18 ?_
    refine vs_eqi (v9 := nI m) (hp.1) ?_
    refine vv_iload_n C dX4_add_20 rfl ?_
    refine st_52 C dX4_add_21 (xn_in (by omega) (by omega)) ?_
    refine vv_aload_n C dX4_add_22 rfl ?_
    refine vv_dup C dX4_add_23 rfl ?_
    refine gf_X4_size C dX4_add_24 fg_X4_18 ?_
    refine vs_eqi (v9 := nI m) (hp.1) ?_
    refine vv_iconst C dX4_add_27 ic_1 ?_
    refine vv_iadd C dX4_add_28 ?_
    refine vs_eqi (v9 := nI (m + 1)) (nI_1 _) ?_
    refine pf_X4_size C dX4_add_29 fp_X4_18 ?_
    refine vv_aload_n C dX4_add_32 rfl ?_
    refine gf_X4_size C dX4_add_33 fg_X4_18 ?_
    refine vv_iconst C dX4_add_36 ic_1 ?_
    refine vv_isub C dX4_add_37 ?_
    refine vs_eqi (v9 := nI m) ((by show nI (m + 1) - 1 = nI m; exact nI_pred m)) ?_
    refine vs_iret C F dX4_add_38 rfl ⟨by rw [if_neg hc], ?_, (vs_fr.rf.ua (by decide)).us (by decide)⟩
    rw [if_neg hc, if_neg hc]
    refine ⟨rfl, by omega, fun i hi => ?_⟩
    show upd (S.2.1 52) (nI m).toNatClampNeg (nI k) i = _ ∧ _
    rw [xn_cl (by omega), xn_upd (α := Nat), va_up1]
    split
    · exact ⟨rfl, hk8⟩
    · exact hp.2.2 i (by omega)
  · have hc : m = 50 := (xn_eq (by omega) (by omega)).mp q6
    refine vv_bipush C dX4_add_9 bp_m3 ?_
    exact vs_iret C F dX4_add_11 rfl ⟨by rw [if_pos hc], by rw [if_pos hc, if_pos hc]; exact hp, vs_fr.rf⟩
set_option maxRecDepth 20000 in
theorem c_X11_body (g : vv_G) (S : vs_S) (m : Nat) (K : Nat → Nat) (hp : plX S m K) (kind : Int32) : vs_KI g yX11_body cX11_body 2 (some .int) 3 [vv_r g 0, .int kind] S (fun r S1 => r = (if vs_w kind 0 7 = true then (if m = 50 then -3 else nI m) else -1) ∧ plX S1 (if vs_w kind 0 7 = true ∧ ¬ m = 50 then m + 1 else m) (if vs_w kind 0 7 = true ∧ ¬ m = 50 then va_up K m kind.toNatClampNeg else K) ∧ vs_fr [18] [52] [] S S1) := by
  refine vs_ofI (lv := [_, _]) mb_X11_body (Nat.le_of_ble_eq_true rfl) rfl (fun x C F => ?_)
  refine vv_iload_n C dX11_body_0 rfl ?_
  refine vv_iconst C dX11_body_1 ic_0 ?_
  refine vv_bipush C dX11_body_2 bp_7 ?_
  refine vs_calsiF C dX11_body_4 (c_X11_within g S _ _ _) mb_X11_within ms_X11_within lk_X11_94 rfl rfl ⟨Nat.le_of_ble_eq_true rfl, Nat.le_of_ble_eq_true rfl, Nat.le_of_ble_eq_true rfl⟩ ?_
  refine vv_if_ne (tgt := 12) C dX11_body_7 (by decide) (fun q7 => ?_) (fun q7 => ?_)
  · have w1 : vs_w kind 0 7 = true := vs_b1.mp q7
    obtain ⟨k, _, hk, ek⟩ := vs_wN (a := 0) (b := 7) (by omega) (by omega) w1
    subst ek
    refine vv_aload_n C dX11_body_12 rfl ?_
    refine gf_X11_payments C dX11_body_13 fg_X11_81 ?_
    refine vv_iload_n C dX11_body_16 rfl ?_
    refine vs_calli C dX11_body_17 (c_X4_add g S m K hp k (by omega)) mb_X4_add mv_X4_add lk_X11_258 ce_51 rfl rfl rfl rfl ⟨Nat.le_of_ble_eq_true rfl, Nat.le_of_ble_eq_true rfl, Nat.le_of_ble_eq_true rfl⟩ (fun r17 S17 p17 => ?_)
    refine vs_iret C F dX11_body_20 rfl ⟨by rw [w1, if_pos rfl]; exact p17.1, ?_, p17.2.2⟩
    have h2 := p17.2.1
    rw [w1, xn_cl (by omega)]
    by_cases hc : m = 50
    · rw [if_pos hc, if_pos hc] at h2
      rw [if_neg (fun z => z.2 hc), if_neg (fun z => z.2 hc)]
      exact h2
    · rw [if_neg hc, if_neg hc] at h2
      rw [if_pos ⟨rfl, hc⟩, if_pos ⟨rfl, hc⟩]
      exact h2
  · have w1 : vs_w kind 0 7 = false := vs_b0.mp q7
    refine vv_iconst C dX11_body_10 ic_m1 ?_
    exact vs_iret C F dX11_body_11 rfl ⟨by rw [w1]; rfl, by rw [w1]; exact hp, vs_fr.rf⟩
set_option maxRecDepth 20000 in
theorem c_X12_body (g : vv_G) (S : vs_S) (m : Nat) (K : Nat → Nat) (hp : plM S m K) (kind : Int32) : vs_KI g yX12_body cX12_body 2 (some .int) 3 [vv_r g 65, .int kind] S (fun r S1 => r = (if vs_w kind 0 7 = true then (if m = 50 then -3 else nI m) else -1) ∧ plM S1 (if vs_w kind 0 7 = true ∧ ¬ m = 50 then m + 1 else m) (if vs_w kind 0 7 = true ∧ ¬ m = 50 then va_up K m kind.toNatClampNeg else K) ∧ vs_fr [37] [82] [] S S1) := by
  have hm5 := hp.2.1
  refine vs_ofI (lv := [_, _]) mb_X12_body (Nat.le_of_ble_eq_true rfl) rfl (fun x C F => ?_)
  refine vv_iload_n C dX12_body_0 rfl ?_
  refine vv_i2l C dX12_body_1 ?_
  refine vv_lconst C dX12_body_2 lc_0 ?_
  refine vs_eql (v9 := (0 : Int32).toInt64) (by decide +kernel) ?_
  refine vv_ldc2 C dX12_body_3 kc_X12_278 ?_
  refine vs_eql (v9 := (7 : Int32).toInt64) (by decide +kernel) ?_
  refine vs_calsiF C dX12_body_6 (c_X12_within g S _ _ _) mb_X12_within ms_X12_within lk_X12_123 rfl rfl ⟨Nat.le_of_ble_eq_true rfl, Nat.le_of_ble_eq_true rfl, Nat.le_of_ble_eq_true rfl⟩ ?_
  refine vv_if_ne (tgt := 14) C dX12_body_9 (by decide) (fun q9 => ?_) (fun q9 => ?_)
  · have w1 : vs_w kind 0 7 = true := vs_b1.mp q9
    obtain ⟨k, _, hk, ek⟩ := vs_wN (a := 0) (b := 7) (by omega) (by omega) w1
    subst ek
    refine vv_aload_n C dX12_body_14 rfl ?_
    refine gf_X12_bodies C dX12_body_15 fg_X12_314 ?_
    refine vs_eqi (v9 := nI m) (hp.1) ?_
    refine vv_bipush C dX12_body_18 bp_50 ?_
    refine vv_icmp_ne (tgt := 26) C dX12_body_20 (by decide) (fun q20 => ?_) (fun q20 => ?_)
    · have hc : ¬ m = 50 := fun z => q20 (by rw [z]; rfl)
      refine vv_aload_n C dX12_body_26 rfl ?_
      refine gf_X12_bodyKind C dX12_body_27 fg_X12_62 ?_
      refine vv_aload_n C dX12_body_30 rfl ?_
      refine gf_X12_bodies C dX12_body_31 fg_X12_314 ?_
      refine vs_eqi (v9 := nI m) (hp.1) ?_
      refine vv_iload_n C dX12_body_34 rfl ?_
      refine st_82 C dX12_body_35 (xn_in (by omega) (by omega)) ?_
      refine vv_aload_n C dX12_body_36 rfl ?_
      refine vv_dup C dX12_body_37 rfl ?_
      refine gf_X12_bodies C dX12_body_38 fg_X12_314 ?_
      refine vs_eqi (v9 := nI m) (hp.1) ?_
      refine vv_iconst C dX12_body_41 ic_1 ?_
      refine vv_iadd C dX12_body_42 ?_
      refine vs_eqi (v9 := nI (m + 1)) (nI_1 _) ?_
      refine pf_X12_bodies C dX12_body_43 fp_X12_314 ?_
      refine vv_aload_n C dX12_body_46 rfl ?_
      refine gf_X12_bodies C dX12_body_47 fg_X12_314 ?_
      refine vv_iconst C dX12_body_50 ic_1 ?_
      refine vv_isub C dX12_body_51 ?_
      refine vs_eqi (v9 := nI m) ((by show nI (m + 1) - 1 = nI m; exact nI_pred m)) ?_
      refine vs_iret C F dX12_body_52 rfl ⟨by rw [w1, if_pos rfl, if_neg hc], ?_, (vs_fr.rf.ua (by decide)).us (by decide)⟩
      rw [if_pos ⟨w1, hc⟩, if_pos ⟨w1, hc⟩, xn_cl (n := k) (by omega)]
      refine ⟨rfl, by omega, fun i hi => ?_⟩
      show upd (S.2.1 82) (nI m).toNatClampNeg (nI k) i = _ ∧ _
      rw [xn_cl (by omega), xn_upd (α := Nat), va_up1]
      split
      · exact ⟨rfl, by omega⟩
      · exact hp.2.2 i (by omega)
    · have hc : m = 50 := (xn_eq (by omega) (by omega)).mp q20
      refine vv_bipush C dX12_body_23 bp_m3 ?_
      exact vs_iret C F dX12_body_25 rfl ⟨by rw [w1, if_pos rfl, if_pos hc], by rw [if_neg (fun z => z.2 hc), if_neg (fun z => z.2 hc)]; exact hp, vs_fr.rf⟩
  · have w1 : vs_w kind 0 7 = false := vs_b0.mp q9
    refine vv_iconst C dX12_body_12 ic_m1 ?_
    exact vs_iret C F dX12_body_13 rfl ⟨by rw [w1]; rfl, by rw [w1]; exact hp, vs_fr.rf⟩
