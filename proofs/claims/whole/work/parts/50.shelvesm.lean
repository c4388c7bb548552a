/-! SHELVES of the reference -/
theorem hm_n {t b : Nat} (hb : t = 1 → b < 50) (ht : t ≤ 6) : hm t b < 0 ↔ t = 0 := by
  by_cases h1 : t = 1
  · exact hm_0 (show b < 2 ^ 30 by have := hb h1; omega) ht
  · have e : hm t b = hm t 0 := by unfold hm; rw [if_neg h1, if_neg h1]
    rw [e]
    exact hm_0 (by omega) ht
theorem hm_g {t b : Nat} (hb : t = 1 → b < 50) (ht : t ≤ 6) (h0 : ¬ t = 0) : (50 : Int32) ≤ hm t b ↔ 2 ≤ t := by
  by_cases h1 : t = 1
  · exact hm_1 (hb h1) ht h0
  · have e : hm t b = hm t 0 := by unfold hm; rw [if_neg h1, if_neg h1]
    rw [e]
    exact hm_1 (by omega) ht h0
theorem hm_e {t b u c : Nat} (h2 : 2 ≤ t) (ht : t ≤ 6) (hu : u ≤ 6) (hc : u = 1 → c < 50) : hm t b = hm u c ↔ t = u := by
  rw [hm_2 h2]
  constructor
  · intro z
    by_cases u0 : u = 0
    · subst u0
      exact absurd (show nI (48 + t) < 0 by rw [z]; exact (by decide : (-1 : Int32) < 0)) (xn_neg (by omega))
    · by_cases u1 : u = 1
      · subst u1
        have := hc rfl
        have z2 : nI (48 + t) = nI c := z
        rw [xn_eq (by omega) (by omega)] at z2
        omega
      · rw [hm_2 (by omega), xn_eq (by omega) (by omega)] at z
        omega
  · intro z
    subst z
    rw [hm_2 h2]
theorem hm_5 {t b : Nat} (hb : t = 1 → b < 50) (ht : t ≤ 6) : hm t b = 53 ↔ t = 5 := by
  have e := hm_e (t := 5) (b := 0) (u := t) (c := b) (by omega) (by omega) ht hb
  have e2 : hm 5 0 = 53 := by decide
  rw [e2] at e
  exact ⟨fun z => (e.mp z.symm).symm, fun z => (e.mpr z.symm).symm⟩
theorem st_o {N : Nat} {i n : Int32} (hN : N ≤ 60) (hn : 0 ≤ n) (hi : 0 ≤ i) : i ≤ nI N - n ↔ st_ok N i n = true := by
  unfold st_ok
  rw [decide_eq_true hn, decide_eq_true hi]
  simp only [Bool.true_and, Bool.and_eq_true, decide_eq_true_eq]
  have e0 : (0 : Int32).toInt = 0 := rfl
  have n1 := Int32.le_iff_toInt_le.mp hn
  have i1 := Int32.le_iff_toInt_le.mp hi
  have n2 := Int32.toInt_lt n
  have i2 := Int32.toInt_lt i
  have eN := xn_toInt (n := N) (by omega)
  have s1 : (nI N - n).toInt = N - n.toInt := by
    rw [Int32.toInt_sub, eN]
    exact Int.bmod_eq_of_le_mul_two (by omega) (by omega)
  have s2 : (nI N - i).toInt = N - i.toInt := by
    rw [Int32.toInt_sub, eN]
    exact Int.bmod_eq_of_le_mul_two (by omega) (by omega)
  rw [Int32.le_iff_toInt_le, Int32.le_iff_toInt_le, Int32.le_iff_toInt_le, s1, s2, eN]
  omega
theorem sM_fr {S S1 : vs_S} {m : Nat} {h : hT} {ks is js : List Nat} (f : vs_fr ks is js S S1) (a : 84 ∉ is) (b : 85 ∉ is) (c : 86 ∉ js) (x : sM S m h) : sM S1 m h := by
  intro d hd
  rw [f.2.1 84 a, f.2.1 85 b, f.2.2 86 c]
  exact x d hd
theorem pA_dn : ∀ k, k < 8 → 0 < k → pA k < k := by decide +kernel
def rM (h : hT) (d i : Int32) : Int32 := if shw d = true then rf h d.toNatClampNeg i else -1
theorem rf_w {N : Nat} {i : Int32} (hN : N ≤ 60) : vs_w i 0 (nI N - 1) = (decide (0 ≤ i) && decide (i < nI N)) := by
  unfold vs_w
  by_cases h0 : 0 ≤ i
  · rw [decide_eq_true h0, Bool.true_and, Bool.true_and]
    obtain ⟨k, hk, e⟩ := xn_ofN h0
    subst e
    cases N with
    | zero =>
      have a1 : ¬ nI k ≤ nI 0 - 1 := fun y => absurd (Int32.le_trans h0 y) (by decide +kernel)
      have a2 : ¬ nI k < nI 0 := by rw [xn_lt hk (by omega)]; omega
      rw [decide_eq_false a1, decide_eq_false a2]
    | succ n =>
      rw [nI_pred]
      by_cases z : k ≤ n
      · rw [decide_eq_true ((xn_le hk (by omega)).mpr z), decide_eq_true ((xn_lt hk (by omega)).mpr (by omega))]
      · rw [decide_eq_false (fun y => z ((xn_le hk (by omega)).mp y)), decide_eq_false (fun y => z (by have := (xn_lt hk (by omega)).mp y; omega))]
  · rw [decide_eq_false h0, Bool.false_and, Bool.false_and]

theorem nI_lit (n : Nat) : nI n = Int32.ofNat n := rfl
set_option maxRecDepth 20000 in
theorem c_X12_above (g : vv_G) (S : vs_S) (n : Nat) (hn : n < 8) : vs_FI g yX12_above cX12_above 1 (some .int) 1 [.int (nI n)] S (nI (pA n)) S := by
  refine vs_ofI (lv := [_]) mb_X12_above (Nat.le_of_ble_eq_true rfl) rfl (fun x C F => ?_)
  refine vv_iload_n C dX12_above_0 rfl ?_
  refine vv_iconst C dX12_above_1 ic_3 ?_
  refine vv_icmp_ne (tgt := 9) C dX12_above_2 (by decide) (fun q2 => ?_) (fun q2 => ?_)
  · skip
    refine vv_iload_n C dX12_above_9 rfl ?_
    refine vv_iconst C dX12_above_10 ic_4 ?_
    refine vv_icmp_ne (tgt := 18) C dX12_above_11 (by decide) (fun q11 => ?_) (fun q11 => ?_)
    · refine vv_iload_n C dX12_above_18 rfl ?_
      refine vv_bipush C dX12_above_19 bp_6 ?_
      refine vv_icmp_ne (tgt := 28) C dX12_above_21 (by decide) (fun q21 => ?_) (fun q21 => ?_)
      · refine vv_iconst C dX12_above_28 ic_0 ?_
        first
        | exact vs_iret C F dX12_above_29 rfl ⟨by rw [(xn_eq (by omega) (by omega)).mp (show nI n = nI 3 from q2)]; rfl, rfl⟩
        | exact vs_iret C F dX12_above_29 rfl ⟨by rw [(xn_eq (by omega) (by omega)).mp (show nI n = nI 4 from q11)]; rfl, rfl⟩
        | exact vs_iret C F dX12_above_29 rfl ⟨by rw [(xn_eq (by omega) (by omega)).mp (show nI n = nI 6 from q21)]; rfl, rfl⟩
        | exact vs_iret C F dX12_above_29 rfl ⟨by
            have h3 : ¬ n = 3 := fun z => q2 (by rw [z]; rfl)
            have h4 : ¬ n = 4 := fun z => q11 (by rw [z]; rfl)
            have h6 : ¬ n = 6 := fun z => q21 (by rw [z]; rfl)
            have h9 : n = 0 ∨ n = 1 ∨ n = 2 ∨ n = 5 ∨ n = 7 := by omega
            rcases h9 with e | e | e | e | e <;> subst e <;> rfl, rfl⟩
      · refine vv_iconst C dX12_above_24 ic_5 ?_
        refine vv_goto (tgt := 29) C dX12_above_25 (by decide) ?_
        first
        | exact vs_iret C F dX12_above_29 rfl ⟨by rw [(xn_eq (by omega) (by omega)).mp (show nI n = nI 3 from q2)]; rfl, rfl⟩
        | exact vs_iret C F dX12_above_29 rfl ⟨by rw [(xn_eq (by omega) (by omega)).mp (show nI n = nI 4 from q11)]; rfl, rfl⟩
        | exact vs_iret C F dX12_above_29 rfl ⟨by rw [(xn_eq (by omega) (by omega)).mp (show nI n = nI 6 from q21)]; rfl, rfl⟩
        | exact vs_iret C F dX12_above_29 rfl ⟨by
            have h3 : ¬ n = 3 := fun z => q2 (by rw [z]; rfl)
            have h4 : ¬ n = 4 := fun z => q11 (by rw [z]; rfl)
            have h6 : ¬ n = 6 := fun z => q21 (by rw [z]; rfl)
            have h9 : n = 0 ∨ n = 1 ∨ n = 2 ∨ n = 5 ∨ n = 7 := by omega
            rcases h9 with e | e | e | e | e <;> subst e <;> rfl, rfl⟩
    · refine vv_iconst C dX12_above_14 ic_1 ?_
      refine vv_goto (tgt := 29) C dX12_above_15 (by decide) ?_
      first
      | exact vs_iret C F dX12_above_29 rfl ⟨by rw [(xn_eq (by omega) (by omega)).mp (show nI n = nI 3 from q2)]; rfl, rfl⟩
      | exact vs_iret C F dX12_above_29 rfl ⟨by rw [(xn_eq (by omega) (by omega)).mp (show nI n = nI 4 from q11)]; rfl, rfl⟩
      | exact vs_iret C F dX12_above_29 rfl ⟨by rw [(xn_eq (by omega) (by omega)).mp (show nI n = nI 6 from q21)]; rfl, rfl⟩
      | exact vs_iret C F dX12_above_29 rfl ⟨by
          have h3 : ¬ n = 3 := fun z => q2 (by rw [z]; rfl)
          have h4 : ¬ n = 4 := fun z => q11 (by rw [z]; rfl)
          have h6 : ¬ n = 6 := fun z => q21 (by rw [z]; rfl)
          have h9 : n = 0 ∨ n = 1 ∨ n = 2 ∨ n = 5 ∨ n = 7 := by omega
          rcases h9 with e | e | e | e | e <;> subst e <;> rfl, rfl⟩
  · skip
    refine vv_iconst C dX12_above_5 ic_2 ?_
    refine vv_goto (tgt := 29) C dX12_above_6 (by decide) ?_
    first
    | exact vs_iret C F dX12_above_29 rfl ⟨by rw [(xn_eq (by omega) (by omega)).mp (show nI n = nI 3 from q2)]; rfl, rfl⟩
    | exact vs_iret C F dX12_above_29 rfl ⟨by rw [(xn_eq (by omega) (by omega)).mp (show nI n = nI 4 from q11)]; rfl, rfl⟩
    | exact vs_iret C F dX12_above_29 rfl ⟨by rw [(xn_eq (by omega) (by omega)).mp (show nI n = nI 6 from q21)]; rfl, rfl⟩
    | exact vs_iret C F dX12_above_29 rfl ⟨by
        have h3 : ¬ n = 3 := fun z => q2 (by rw [z]; rfl)
        have h4 : ¬ n = 4 := fun z => q11 (by rw [z]; rfl)
        have h6 : ¬ n = 6 := fun z => q21 (by rw [z]; rfl)
        have h9 : n = 0 ∨ n = 1 ∨ n = 2 ∨ n = 5 ∨ n = 7 := by omega
        rcases h9 with e | e | e | e | e <;> subst e <;> rfl, rfl⟩
set_option maxRecDepth 20000 in
theorem c_X12_refusal (g : vv_G) (S : vs_S) (m : Nat) (h : hT) (hX : sM S m h) (hm5 : m ≤ 50) (d i : Int32) : vs_FI g yX12_refusal cX12_refusal 3 (some .int) 3 [vv_r g 65, .int d, .int i] S (rM h d i) S := by
  refine vs_ofI (lv := [_, _, _]) mb_X12_refusal (Nat.le_of_ble_eq_true rfl) rfl (fun x C F => ?_)
  refine vv_iload_n C dX12_refusal_0 rfl ?_
  refine vs_calsiF C dX12_refusal_1 (c_X12_isShelf g S _) mb_X12_isShelf ms_X12_isShelf lk_X12_307 rfl rfl ⟨Nat.le_of_ble_eq_true rfl, Nat.le_of_ble_eq_true rfl, Nat.le_of_ble_eq_true rfl⟩ ?_
  refine vv_if_ne (tgt := 9) C dX12_refusal_4 (by decide) (fun q4 => ?_) (fun q4 => ?_)
  · have w1 : shw d = true := vs_b1.mp q4
    obtain ⟨k, hk, ek⟩ := shw_d w1
    subst ek
    obtain ⟨ht6, h84, h1b, h57⟩ := hX k hk
    have hb5 : h.1 k = 1 → h.2.1 k < 50 := fun z => by have := h1b z; omega
    have hc1 : (nI k).toNatClampNeg = k := xn_cl (by omega)
    have hr : rM h (nI k) i = rf h k i := by unfold rM; rw [if_pos w1, hc1]
    refine vv_aload_n C dX12_refusal_9 rfl ?_
    refine gf_X12_shelf C dX12_refusal_10 fg_X12_68 ?_
    refine vv_iload_n C dX12_refusal_13 rfl ?_
    refine ld_84 C dX12_refusal_14 (xn_in (by omega) (by omega)) ?_
    refine vs_eqi (v9 := hm (h.1 k) (h.2.1 k)) (by rw [hc1]; exact h84) ?_
    refine vv_if_ge (tgt := 21) C dX12_refusal_15 (by decide) (fun q15 => ?_) (fun q15 => ?_)
    · have e0 : ¬ h.1 k = 0 := fun z => Int32.not_lt.mpr q15 ((hm_n hb5 ht6).mpr z)
      refine vv_aload_n C dX12_refusal_21 rfl ?_
      refine gf_X12_shelf C dX12_refusal_22 fg_X12_68 ?_
      refine vv_iload_n C dX12_refusal_25 rfl ?_
      refine ld_84 C dX12_refusal_26 (xn_in (by omega) (by omega)) ?_
      refine vs_eqi (v9 := hm (h.1 k) (h.2.1 k)) (by rw [hc1]; exact h84) ?_
      refine vv_bipush C dX12_refusal_27 bp_50 ?_
      refine vv_icmp_ge (tgt := 35) C dX12_refusal_29 (by decide) (fun q29 => ?_) (fun q29 => ?_)
      · have e2 : 2 ≤ h.1 k := (hm_g hb5 ht6 e0).mp q29
        obtain ⟨e57, hN, _⟩ := h57 e2
        have hg : rM h (nI k) i = if (decide (0 ≤ i) && decide (i < nI (h.2.2.1 k))) = true then 0 else -13 := hr.trans (by unfold rf; rw [if_neg e0, if_neg (by omega), rf_w hN])
        refine vv_iload_n C dX12_refusal_35 rfl ?_
        refine vv_if_lt (tgt := 53) C dX12_refusal_36 (by decide) (fun q36 => ?_) (fun q36 => ?_)
        · have hv : rM h (nI k) i = -13 := by rw [hg, decide_eq_false (Int32.not_le.mpr q36)]; rfl
          refine vv_bipush C dX12_refusal_53 bp_m13 ?_
          exact vs_iret C F dX12_refusal_55 rfl ⟨hv.symm, rfl⟩
        · have hi : decide (0 ≤ i) = true := decide_eq_true (Int32.not_lt.mp q36)
          refine vv_iload_n C dX12_refusal_39 rfl ?_
          refine vv_aload_n C dX12_refusal_40 rfl ?_
          refine gf_X12_many C dX12_refusal_41 fg_X12_71 ?_
          refine vv_iload_n C dX12_refusal_44 rfl ?_
          refine ld_85 C dX12_refusal_45 (xn_in (by omega) (by omega)) ?_
          refine vs_eqi (v9 := nI (h.2.2.1 k)) (by rw [hc1]; exact e57) ?_
          refine vv_icmp_ge (tgt := 53) C dX12_refusal_46 (by decide) (fun q46 => ?_) (fun q46 => ?_)
          · have hv : rM h (nI k) i = -13 := by rw [hg, hi, decide_eq_false (Int32.not_lt.mpr q46)]; rfl
            refine vv_bipush C dX12_refusal_53 bp_m13 ?_
            exact vs_iret C F dX12_refusal_55 rfl ⟨hv.symm, rfl⟩
          · have hv : rM h (nI k) i = 0 := by rw [hg, hi, decide_eq_true (Int32.not_le.mp q46)]; rfl
            refine vv_iconst C dX12_refusal_49 ic_0 ?_
            refine vv_goto (tgt := 55) C dX12_refusal_50 (by decide) ?_
            exact vs_iret C F dX12_refusal_55 rfl ⟨hv.symm, rfl⟩
      · have e1 : h.1 k = 1 := by
          have : ¬ 2 ≤ h.1 k := fun z => q29 ((hm_g hb5 ht6 e0).mpr z)
          omega
        have hv : rM h (nI k) i = -12 := hr.trans (by unfold rf; rw [if_neg e0, if_pos e1])
        refine vv_bipush C dX12_refusal_32 bp_m12 ?_
        exact vs_iret C F dX12_refusal_34 rfl ⟨hv.symm, rfl⟩
    · have e0 := (hm_n hb5 ht6).mp (Int32.not_le.mp q15)
      have hv : rM h (nI k) i = -11 := hr.trans (if_pos e0)
      refine vv_bipush C dX12_refusal_18 bp_m11 ?_
      exact vs_iret C F dX12_refusal_20 rfl ⟨hv.symm, rfl⟩
  · have w0 : shw d = false := vs_b0.mp q4
    have hv : rM h d i = -1 := by unfold rM; rw [w0]; rfl
    refine vv_iconst C dX12_refusal_7 ic_m1 ?_
    exact vs_iret C F dX12_refusal_8 rfl ⟨hv.symm, rfl⟩
set_option maxRecDepth 20000 in
theorem c_X12_asSort (g : vv_G) (S : vs_S) (s : Nat) (hs : s ≤ 4) (v : Int64) : vs_FL g yX12_asSort cX12_asSort 3 (some .long) 1 [.int (nI s), .long v] S (lo s v) S := by
  refine vs_ofL (lv := [_, _, _]) mb_X12_asSort (Nat.le_of_ble_eq_true rfl) rfl (fun x C F => ?_)
  refine vv_iload_n C dX12_asSort_0 rfl ?_
  refine vv_if_ne (tgt := 11) C dX12_asSort_1 (by decide) (fun q1 => ?_) (fun q1 => ?_)
  · have n0 : ¬ s = 0 := fun z => q1 (by rw [z]; rfl)
    refine vv_iload_n C dX12_asSort_11 rfl ?_
    refine vv_iconst C dX12_asSort_12 ic_1 ?_
    refine vv_icmp_ne (tgt := 23) C dX12_asSort_13 (by decide) (fun q13 => ?_) (fun q13 => ?_)
    · have n1 : ¬ s = 1 := fun z => q13 (by rw [z]; rfl)
      refine vv_iload_n C dX12_asSort_23 rfl ?_
      refine vv_iconst C dX12_asSort_24 ic_2 ?_
      refine vv_icmp_ne (tgt := 34) C dX12_asSort_25 (by decide) (fun q25 => ?_) (fun q25 => ?_)
      · have n2 : ¬ s = 2 := fun z => q25 (by rw [z]; rfl)
        refine vv_iload_n C dX12_asSort_34 rfl ?_
        refine vv_iconst C dX12_asSort_35 ic_4 ?_
        refine vv_icmp_ne (tgt := 53) C dX12_asSort_36 (by decide) (fun q36 => ?_) (fun q36 => ?_)
        · have n4 : ¬ s = 4 := fun z => q36 (by rw [z]; rfl)
          refine vv_lload_n C dX12_asSort_53 rfl ?_
          first
          | exact vs_lret C F dX12_asSort_54 rfl ⟨by unfold lo; rw [if_pos n0], rfl⟩
          | exact vs_lret C F dX12_asSort_54 rfl ⟨by unfold lo; rw [if_neg n0, if_pos n1], rfl⟩
          | exact vs_lret C F dX12_asSort_54 rfl ⟨by unfold lo; rw [if_neg n0, if_neg n1, if_pos n2], rfl⟩
          | exact vs_lret C F dX12_asSort_54 rfl ⟨by unfold lo; rw [if_neg (by omega), if_neg (by omega), if_neg (by omega), if_neg (by omega), if_pos z], rfl⟩
          | exact vs_lret C F dX12_asSort_54 rfl ⟨by unfold lo; rw [if_neg (by omega), if_neg (by omega), if_neg (by omega), if_neg (by omega), if_neg z], rfl⟩
          | exact vs_lret C F dX12_asSort_54 rfl ⟨by unfold lo; rw [if_neg n0, if_neg n1, if_neg n2, if_pos (by omega)], rfl⟩
        · have n4 : s = 4 := (xn_eq (by omega) (by omega)).mp (show nI s = nI 4 from q36)
          refine vv_lload_n C dX12_asSort_39 rfl ?_
          refine vv_lconst C dX12_asSort_40 lc_0 ?_
          refine vv_lcmp C dX12_asSort_41 ?_
          refine vv_if_eq (tgt := 49) C dX12_asSort_42 (by decide) (fun q42 => ?_) (fun q42 => ?_)
          · have z : v = 0 := (lg_cmp_eq _ _).mp q42
            refine vv_lconst C dX12_asSort_49 lc_0 ?_
            refine vv_goto (tgt := 54) C dX12_asSort_50 (by decide) ?_
            first
            | exact vs_lret C F dX12_asSort_54 rfl ⟨by unfold lo; rw [if_pos n0], rfl⟩
            | exact vs_lret C F dX12_asSort_54 rfl ⟨by unfold lo; rw [if_neg n0, if_pos n1], rfl⟩
            | exact vs_lret C F dX12_asSort_54 rfl ⟨by unfold lo; rw [if_neg n0, if_neg n1, if_pos n2], rfl⟩
            | exact vs_lret C F dX12_asSort_54 rfl ⟨by unfold lo; rw [if_neg (by omega), if_neg (by omega), if_neg (by omega), if_neg (by omega), if_pos z], rfl⟩
            | exact vs_lret C F dX12_asSort_54 rfl ⟨by unfold lo; rw [if_neg (by omega), if_neg (by omega), if_neg (by omega), if_neg (by omega), if_neg z], rfl⟩
            | exact vs_lret C F dX12_asSort_54 rfl ⟨by unfold lo; rw [if_neg n0, if_neg n1, if_neg n2, if_pos (by omega)], rfl⟩
          · have z : ¬ v = 0 := fun z => q42 ((lg_cmp_eq _ _).mpr z)
            refine vv_lconst C dX12_asSort_45 lc_1 ?_
            refine vv_goto (tgt := 54) C dX12_asSort_46 (by decide) ?_
            first
            | exact vs_lret C F dX12_asSort_54 rfl ⟨by unfold lo; rw [if_pos n0], rfl⟩
            | exact vs_lret C F dX12_asSort_54 rfl ⟨by unfold lo; rw [if_neg n0, if_pos n1], rfl⟩
            | exact vs_lret C F dX12_asSort_54 rfl ⟨by unfold lo; rw [if_neg n0, if_neg n1, if_pos n2], rfl⟩
            | exact vs_lret C F dX12_asSort_54 rfl ⟨by unfold lo; rw [if_neg (by omega), if_neg (by omega), if_neg (by omega), if_neg (by omega), if_pos z], rfl⟩
            | exact vs_lret C F dX12_asSort_54 rfl ⟨by unfold lo; rw [if_neg (by omega), if_neg (by omega), if_neg (by omega), if_neg (by omega), if_neg z], rfl⟩
            | exact vs_lret C F dX12_asSort_54 rfl ⟨by unfold lo; rw [if_neg n0, if_neg n1, if_neg n2, if_pos (by omega)], rfl⟩
      · have n2 : s = 2 := (xn_eq (by omega) (by omega)).mp (show nI s = nI 2 from q25)
        refine vv_lload_n C dX12_asSort_28 rfl ?_
        refine vv_l2i C dX12_asSort_29 ?_
        refine vv_i2l C dX12_asSort_30 ?_
        refine vv_goto (tgt := 54) C dX12_asSort_31 (by decide) ?_
        first
        | exact vs_lret C F dX12_asSort_54 rfl ⟨by unfold lo; rw [if_pos n0], rfl⟩
        | exact vs_lret C F dX12_asSort_54 rfl ⟨by unfold lo; rw [if_neg n0, if_pos n1], rfl⟩
        | exact vs_lret C F dX12_asSort_54 rfl ⟨by unfold lo; rw [if_neg n0, if_neg n1, if_pos n2], rfl⟩
        | exact vs_lret C F dX12_asSort_54 rfl ⟨by unfold lo; rw [if_neg (by omega), if_neg (by omega), if_neg (by omega), if_neg (by omega), if_pos z], rfl⟩
        | exact vs_lret C F dX12_asSort_54 rfl ⟨by unfold lo; rw [if_neg (by omega), if_neg (by omega), if_neg (by omega), if_neg (by omega), if_neg z], rfl⟩
        | exact vs_lret C F dX12_asSort_54 rfl ⟨by unfold lo; rw [if_neg n0, if_neg n1, if_neg n2, if_pos (by omega)], rfl⟩
    · have n1 : s = 1 := (xn_eq (by omega) (by omega)).mp (show nI s = nI 1 from q13)
      refine vv_lload_n C dX12_asSort_16 rfl ?_
      refine vv_l2i C dX12_asSort_17 ?_
      refine vv_i2s C dX12_asSort_18 ?_
      refine vv_i2l C dX12_asSort_19 ?_
      refine vv_goto (tgt := 54) C dX12_asSort_20 (by decide) ?_
      first
      | exact vs_lret C F dX12_asSort_54 rfl ⟨by unfold lo; rw [if_pos n0], rfl⟩
      | exact vs_lret C F dX12_asSort_54 rfl ⟨by unfold lo; rw [if_neg n0, if_pos n1], rfl⟩
      | exact vs_lret C F dX12_asSort_54 rfl ⟨by unfold lo; rw [if_neg n0, if_neg n1, if_pos n2], rfl⟩
      | exact vs_lret C F dX12_asSort_54 rfl ⟨by unfold lo; rw [if_neg (by omega), if_neg (by omega), if_neg (by omega), if_neg (by omega), if_pos z], rfl⟩
      | exact vs_lret C F dX12_asSort_54 rfl ⟨by unfold lo; rw [if_neg (by omega), if_neg (by omega), if_neg (by omega), if_neg (by omega), if_neg z], rfl⟩
      | exact vs_lret C F dX12_asSort_54 rfl ⟨by unfold lo; rw [if_neg n0, if_neg n1, if_neg n2, if_pos (by omega)], rfl⟩
  · have n0 : s = 0 := (xn_eq (by omega) (by omega)).mp (show nI s = nI 0 from q1)
    refine vv_lload_n C dX12_asSort_4 rfl ?_
    refine vv_l2i C dX12_asSort_5 ?_
    refine vv_i2b C dX12_asSort_6 ?_
    refine vv_i2l C dX12_asSort_7 ?_
    refine vv_goto (tgt := 54) C dX12_asSort_8 (by decide) ?_
    first
    | exact vs_lret C F dX12_asSort_54 rfl ⟨by unfold lo; rw [if_pos n0], rfl⟩
    | exact vs_lret C F dX12_asSort_54 rfl ⟨by unfold lo; rw [if_neg n0, if_pos n1], rfl⟩
    | exact vs_lret C F dX12_asSort_54 rfl ⟨by unfold lo; rw [if_neg n0, if_neg n1, if_pos n2], rfl⟩
    | exact vs_lret C F dX12_asSort_54 rfl ⟨by unfold lo; rw [if_neg (by omega), if_neg (by omega), if_neg (by omega), if_neg (by omega), if_pos z], rfl⟩
    | exact vs_lret C F dX12_asSort_54 rfl ⟨by unfold lo; rw [if_neg (by omega), if_neg (by omega), if_neg (by omega), if_neg (by omega), if_neg z], rfl⟩
    | exact vs_lret C F dX12_asSort_54 rfl ⟨by unfold lo; rw [if_neg n0, if_neg n1, if_neg n2, if_pos (by omega)], rfl⟩
set_option maxRecDepth 20000 in
theorem c_X12_keep (g : vv_G) (S : vs_S) (m : Nat) (h : hT) (hX : sM S m h) (hm5 : m ≤ 50) (hz : S.1 37 = nI m) (d b : Int32) : vs_KI g yX12_keep cX12_keep 3 (some .int) 3 [vv_r g 65, .int d, .int b] S (fun r S1 => r = (k_keep m h d b).1 ∧ sM S1 m (k_keep m h d b).2 ∧ vs_fr [] [84, 85] [] S S1) := by
  refine vs_ofI (lv := [_, _, _]) mb_X12_keep (Nat.le_of_ble_eq_true rfl) rfl (fun x C F => ?_)
  refine vv_iload_n C dX12_keep_0 rfl ?_
  refine vs_calsiF C dX12_keep_1 (c_X12_isShelf g S _) mb_X12_isShelf ms_X12_isShelf lk_X12_307 rfl rfl ⟨Nat.le_of_ble_eq_true rfl, Nat.le_of_ble_eq_true rfl, Nat.le_of_ble_eq_true rfl⟩ ?_
  refine vv_if_eq (tgt := 20) C dX12_keep_4 (by decide) (fun q4 => ?_) (fun q4 => ?_)
  · have w0 : shw d = false := vs_b0.mp q4
    have hv : k_keep m h d b = (-1, h) := by unfold k_keep; rw [w0]; rfl
    refine vv_iconst C dX12_keep_20 ic_m1 ?_
    exact vs_iret C F dX12_keep_21 rfl ⟨by rw [hv], by rw [hv]; exact hX, vs_fr.rf⟩
  · have w1 : shw d = true := vs_b1.mp q4
    obtain ⟨k, hk, ek⟩ := shw_d w1
    subst ek
    obtain ⟨ht6, h84, h1b, h57⟩ := hX k hk
    have hb5 : h.1 k = 1 → h.2.1 k < 50 := fun z => by have := h1b z; omega
    have hc1 : (nI k).toNatClampNeg = k := xn_cl (by omega)
    refine vv_iload_n C dX12_keep_7 rfl ?_
    refine vv_iconst C dX12_keep_8 ic_m1 ?_
    refine vv_icmp_eq (tgt := 22) C dX12_keep_9 (by decide) (fun q9 => ?_) (fun q9 => ?_)
    · have hbb : b = -1 ∨ ∃ j, j < m ∧ b = nI j := Or.inl q9
      have w2 : vs_w b (-1) (nI m - 1) = true := by rw [vs_w1 (m50_m1 hm5), decide_eq_true q9]; rfl
      have hv : k_keep m h (nI k) b = (1, h_keep h k (if b < 0 then 0 else 1) b.toNatClampNeg) := by unfold k_keep; rw [w1, w2, if_pos vs_tt, hc1]
      refine vv_aload_n C dX12_keep_22 rfl ?_
      refine gf_X12_shelf C dX12_keep_23 fg_X12_68 ?_
      refine vv_iload_n C dX12_keep_26 rfl ?_
      refine vv_iload_n C dX12_keep_27 rfl ?_
      refine st_84 C dX12_keep_28 (xn_in (by omega) (by omega)) ?_
      refine vv_aload_n C dX12_keep_29 rfl ?_
      refine gf_X12_many C dX12_keep_30 fg_X12_71 ?_
      refine vv_iload_n C dX12_keep_33 rfl ?_
      refine vv_iconst C dX12_keep_34 ic_0 ?_
      refine st_85 C dX12_keep_35 (xn_in (by omega) (by omega)) ?_
      refine vv_iconst C dX12_keep_36 ic_1 ?_
      refine vs_iret C F dX12_keep_37 rfl ⟨by rw [hv], ?_, (vs_fr.rf.ua (by decide)).ua (by decide)⟩
      rw [hv]
      intro e he
      obtain ⟨g1, g2, g3, g4⟩ := hX e he
      show va_up h.1 k _ e ≤ 6 ∧ upd (S.2.1 84) (nI k).toNatClampNeg b e = hm (va_up h.1 k _ e) (va_up h.2.1 k b.toNatClampNeg e) ∧ (va_up h.1 k _ e = 1 → va_up h.2.1 k b.toNatClampNeg e < m) ∧ (2 ≤ va_up h.1 k _ e → upd (S.2.1 85) (nI k).toNatClampNeg 0 e = nI (h.2.2.1 e) ∧ _)
      rw [hc1, xn_upd (α := Nat), xn_upd (α := Nat), va_up1, va_up1]
      by_cases y : e = k
      · subst y
        rw [if_pos rfl, if_pos rfl, if_pos rfl, if_pos rfl]
        rcases hbb with hb | ⟨j, hj, hb⟩
        · subst hb
          rw [if_pos (by decide)]
          exact ⟨by omega, rfl, fun z => by omega, fun z => by omega⟩
        · subst hb
          rw [if_neg (xn_neg (by omega)), xn_cl (by omega)]
          exact ⟨by omega, rfl, fun z => hj, fun z => by omega⟩
      · rw [if_neg y, if_neg y, if_neg y, if_neg y]
        exact ⟨g1, g2, g3, g4⟩
    · skip
      refine vv_aload_n C dX12_keep_12 rfl ?_
      refine vv_iload_n C dX12_keep_13 rfl ?_
      refine vs_caliF C dX12_keep_14 (c_X12_isBody g S _) mb_X12_isBody mv_X12_isBody lk_X12_341 ce_65 rfl rfl rfl rfl ⟨Nat.le_of_ble_eq_true rfl, Nat.le_of_ble_eq_true rfl, Nat.le_of_ble_eq_true rfl⟩ ?_
      refine vv_if_ne (tgt := 22) C dX12_keep_17 (by decide) (fun q17 => ?_) (fun q17 => ?_)
      · have w3 : vs_w b 0 (nI m - 1) = true := by rw [← hz]; exact vs_b1.mp q17
        have hbb : b = -1 ∨ ∃ j, j < m ∧ b = nI j := Or.inr (plX_i hm5 w3)
        have w2 : vs_w b (-1) (nI m - 1) = true := by rw [vs_w1 (m50_m1 hm5), w3, Bool.or_true]
        have hv : k_keep m h (nI k) b = (1, h_keep h k (if b < 0 then 0 else 1) b.toNatClampNeg) := by unfold k_keep; rw [w1, w2, if_pos vs_tt, hc1]
        refine vv_aload_n C dX12_keep_22 rfl ?_
        refine gf_X12_shelf C dX12_keep_23 fg_X12_68 ?_
        refine vv_iload_n C dX12_keep_26 rfl ?_
        refine vv_iload_n C dX12_keep_27 rfl ?_
        refine st_84 C dX12_keep_28 (xn_in (by omega) (by omega)) ?_
        refine vv_aload_n C dX12_keep_29 rfl ?_
        refine gf_X12_many C dX12_keep_30 fg_X12_71 ?_
        refine vv_iload_n C dX12_keep_33 rfl ?_
        refine vv_iconst C dX12_keep_34 ic_0 ?_
        refine st_85 C dX12_keep_35 (xn_in (by omega) (by omega)) ?_
        refine vv_iconst C dX12_keep_36 ic_1 ?_
        refine vs_iret C F dX12_keep_37 rfl ⟨by rw [hv], ?_, (vs_fr.rf.ua (by decide)).ua (by decide)⟩
        rw [hv]
        intro e he
        obtain ⟨g1, g2, g3, g4⟩ := hX e he
        show va_up h.1 k _ e ≤ 6 ∧ upd (S.2.1 84) (nI k).toNatClampNeg b e = hm (va_up h.1 k _ e) (va_up h.2.1 k b.toNatClampNeg e) ∧ (va_up h.1 k _ e = 1 → va_up h.2.1 k b.toNatClampNeg e < m) ∧ (2 ≤ va_up h.1 k _ e → upd (S.2.1 85) (nI k).toNatClampNeg 0 e = nI (h.2.2.1 e) ∧ _)
        rw [hc1, xn_upd (α := Nat), xn_upd (α := Nat), va_up1, va_up1]
        by_cases y : e = k
        · subst y
          rw [if_pos rfl, if_pos rfl, if_pos rfl, if_pos rfl]
          rcases hbb with hb | ⟨j, hj, hb⟩
          · subst hb
            rw [if_pos (by decide)]
            exact ⟨by omega, rfl, fun z => by omega, fun z => by omega⟩
          · subst hb
            rw [if_neg (xn_neg (by omega)), xn_cl (by omega)]
            exact ⟨by omega, rfl, fun z => hj, fun z => by omega⟩
        · rw [if_neg y, if_neg y, if_neg y, if_neg y]
          exact ⟨g1, g2, g3, g4⟩
      · have w3 : vs_w b 0 (nI m - 1) = false := by rw [← hz]; exact vs_b0.mp q17
        have hv : k_keep m h (nI k) b = (-1, h) := by unfold k_keep; rw [w1, vs_w1 (m50_m1 hm5), w3, decide_eq_false q9]; rfl
        refine vv_iconst C dX12_keep_20 ic_m1 ?_
        exact vs_iret C F dX12_keep_21 rfl ⟨by rw [hv], by rw [hv]; exact hX, vs_fr.rf⟩
set_option maxRecDepth 20000 in
theorem c_X12_row (g : vv_G) (S : vs_S) (m : Nat) (h : hT) (hX : sM S m h) (hm5 : m ≤ 50) (hfl : vv_fl g = false) (d s n : Int32) : vs_KI g yX12_row cX12_row 5 (some .int) 3 [vv_r g 65, .int d, .int s, .int n] S (fun r S1 => r = (k_row h d s n).1 ∧ sM S1 m (k_row h d s n).2 ∧ vs_fr [] [84, 85] [86] S S1) := by
  refine vs_ofI (lv := [_, _, _, _, _]) mb_X12_row (Nat.le_of_ble_eq_true rfl) rfl (fun x C F => ?_)
  refine vv_iload_n C dX12_row_0 rfl ?_
  refine vs_calsiF C dX12_row_1 (c_X12_isShelf g S _) mb_X12_isShelf ms_X12_isShelf lk_X12_307 rfl rfl ⟨Nat.le_of_ble_eq_true rfl, Nat.le_of_ble_eq_true rfl, Nat.le_of_ble_eq_true rfl⟩ ?_
  refine vv_if_eq (tgt := 25) C dX12_row_4 (by decide) (fun q4 => ?_) (fun q4 => ?_)
  · have w0 : shw d = false := vs_b0.mp q4
    have hv : k_row h d s n = (-1, h) := by unfold k_row; rw [w0]; rfl
    refine vv_iconst C dX12_row_25 ic_m1 ?_
    exact vs_iret C F dX12_row_26 rfl ⟨by rw [hv], by rw [hv]; exact hX, vs_fr.rf⟩
  · have w1 : shw d = true := vs_b1.mp q4
    obtain ⟨k, hk, ek⟩ := shw_d w1
    subst ek
    obtain ⟨ht6, h84, h1b, h57⟩ := hX k hk
    have hb5 : h.1 k = 1 → h.2.1 k < 50 := fun z => by have := h1b z; omega
    have hc1 : (nI k).toNatClampNeg = k := xn_cl (by omega)
    refine vv_iload_n C dX12_row_7 rfl ?_
    refine vv_i2l C dX12_row_8 ?_
    refine vs_eql (v9 := s.toInt64) (rfl) ?_
    refine vv_lconst C dX12_row_9 lc_0 ?_
    refine vs_eql (v9 := (0 : Int32).toInt64) (by decide +kernel) ?_
    refine vv_ldc2 C dX12_row_10 kc_X12_115 ?_
    refine vs_eql (v9 := (4 : Int32).toInt64) (by decide +kernel) ?_
    refine vs_calsiF C dX12_row_13 (c_X12_within g S _ _ _) mb_X12_within ms_X12_within lk_X12_123 rfl rfl ⟨Nat.le_of_ble_eq_true rfl, Nat.le_of_ble_eq_true rfl, Nat.le_of_ble_eq_true rfl⟩ ?_
    refine vv_if_eq (tgt := 25) C dX12_row_16 (by decide) (fun q16 => ?_) (fun q16 => ?_)
    · have hv : k_row h (nI k) s n = (-1, h) := by unfold k_row; rw [w1, show vs_w s 0 4 = false from vs_b0.mp q16]; rfl
      refine vv_iconst C dX12_row_25 ic_m1 ?_
      exact vs_iret C F dX12_row_26 rfl ⟨by rw [hv], by rw [hv]; exact hX, vs_fr.rf⟩
    · have w2 : vs_w s 0 4 = true := vs_b1.mp q16
      obtain ⟨s1, _, hs1, es⟩ := vs_wN (a := 0) (b := 4) (by omega) (by omega) w2
      subst es
      refine vv_iload_n C dX12_row_19 rfl ?_
      refine vv_bipush C dX12_row_20 bp_60 ?_
      refine vv_icmp_le (tgt := 27) C dX12_row_22 (by decide) (fun q22 => ?_) (fun q22 => ?_)
      · have w3 : ((shw (nI k) && vs_w (nI s1) 0 4) && decide (n ≤ 60)) = true := by rw [w1, w2, decide_eq_true q22]; rfl
        refine vv_iload_n C dX12_row_27 rfl ?_
        refine vv_if_ge (tgt := 34) C dX12_row_28 (by decide) (fun q28 => ?_) (fun q28 => ?_)
        · obtain ⟨n1, hn1, en⟩ := xn_of (n := 60) (by omega) q28 q22
          subst en
          have hv : k_row h (nI k) (nI s1) (nI n1) = (1, h_row h k s1 n1) := by unfold k_row; rw [if_pos w3, if_neg (Int32.not_lt.mpr q28), hc1, xn_cl (n := s1) (by omega), xn_cl (n := n1) (by omega)]
          refine vv_aload_n C dX12_row_34 rfl ?_
          refine gf_X12_shelf C dX12_row_35 fg_X12_68 ?_
          refine vv_iload_n C dX12_row_38 rfl ?_
          refine vv_bipush C dX12_row_39 bp_50 ?_
          refine vv_iload_n C dX12_row_41 rfl ?_
          refine vv_iadd C dX12_row_42 ?_
          refine vs_eqi (v9 := nI (50 + s1)) (by rw [xn_lit]; exact nI_add _ _) ?_
          refine st_84 C dX12_row_43 (xn_in (by omega) (by omega)) ?_
          refine vv_aload_n C dX12_row_44 rfl ?_
          refine gf_X12_many C dX12_row_45 fg_X12_71 ?_
          refine vv_iload_n C dX12_row_48 rfl ?_
          refine vv_iload_n C dX12_row_49 rfl ?_
          refine st_85 C dX12_row_50 (xn_in (by omega) (by omega)) ?_
          refine vv_bipush C dX12_row_51 bp_60 ?_
          refine vv_iload_n C dX12_row_53 rfl ?_
          refine vv_imul C dX12_row_54 ?_
          refine vs_eqi (v9 := nI (60 * k)) (by rw [xn_lit, xn_mul]) ?_
          refine vw_istore (lv9 := [_, _, _, _, _]) C dX12_row_55 (by decide) rfl rfl ?_
          have loop : ∀ (f t : Nat) (S1 : vs_S), t + f = 60 → vs_fr [] [] [86] (vs_ua (vs_ua S 84 (upd (S.2.1 84) (nI k).toNatClampNeg (nI (50 + s1)))) 85 (upd (S.2.1 85) (nI k).toNatClampNeg (nI n1))) S1 → (∀ p, S1.2.2 86 p = if 60 * k ≤ p ∧ p < 60 * k + t then 0 else S.2.2 86 p) → vv_V g x 5 0 0 57 [some (vv_r g 65), some (.int (nI k)), some (.int (nI s1)), some (.int (nI n1)), some (.int (nI (60 * k + t)))] [] (vs_cells g S1) := by
            intro f
            induction f with
            | zero =>
              intro t S1 ht hS1 hf
              have e60 : t = 60 := by omega
              subst e60
              refine vv_iload C dX12_row_57 rfl ?_
              refine vv_bipush C dX12_row_59 bp_60 ?_
              refine vv_iload_n C dX12_row_61 rfl ?_
              refine vv_imul C dX12_row_62 ?_
              refine vs_eqi (v9 := nI (60 * k)) (by rw [xn_lit, xn_mul]) ?_
              refine vv_bipush C dX12_row_63 bp_60 ?_
              refine vv_iadd C dX12_row_65 ?_
              refine vs_eqi (v9 := nI (60 * k + 60)) (nI_add _ _) ?_
              refine vv_icmp_ge (tgt := 83) C dX12_row_66 (by decide) (fun q66 => ?_) (fun q66 => ?_)
              · refine vv_iconst C dX12_row_83 ic_1 ?_
                refine vs_iret C F dX12_row_84 rfl ⟨by rw [hv], ?_, ((vs_fr.rf.ua (by decide)).ua (by decide)).tr (hS1.wd (by decide) (by decide) (by decide))⟩
                rw [hv]
                intro e he
                obtain ⟨g1, g2, g3, g4⟩ := hX e he
                rw [hS1.2.1 84 (by decide), hS1.2.1 85 (by decide)]
                show va_up h.1 k (2 + s1) e ≤ 6 ∧ upd (S.2.1 84) (nI k).toNatClampNeg (nI (50 + s1)) e = hm (va_up h.1 k (2 + s1) e) (h.2.1 e) ∧ (va_up h.1 k (2 + s1) e = 1 → _) ∧ (2 ≤ va_up h.1 k (2 + s1) e → upd (S.2.1 85) (nI k).toNatClampNeg (nI n1) e = nI (va_up h.2.2.1 k n1 e) ∧ va_up h.2.2.1 k n1 e ≤ 60 ∧ ∀ j, j < va_up h.2.2.1 k n1 e → S1.2.2 86 (60 * e + j) = (if e = k then fun _ => 0 else h.2.2.2 e) j)
                rw [hc1, xn_upd (α := Nat), xn_upd (α := Nat), va_up1, va_up1]
                by_cases y : e = k
                · subst y
                  rw [if_pos rfl, if_pos rfl, if_pos rfl, if_pos rfl, if_pos rfl]
                  refine ⟨by omega, by rw [hm_2 (by omega)]; exact congrArg nI (by omega), fun z => by omega, fun _ => ⟨rfl, hn1, fun j hj => ?_⟩⟩
                  rw [hf (60 * e + j), if_pos (by omega)]
                · rw [if_neg y, if_neg y, if_neg y, if_neg y, if_neg y]
                  refine ⟨g1, g2, g3, fun z => ⟨(g4 z).1, (g4 z).2.1, fun j hj => ?_⟩⟩
                  have hj6 := (g4 z).2.1
                  rw [hf (60 * e + j), if_neg (by omega)]
                  exact (g4 z).2.2 j hj
              · exact absurd (Int32.le_refl _) q66
            | succ f ih =>
              intro t S1 ht hS1 hf
              refine vv_iload C dX12_row_57 rfl ?_
              refine vv_bipush C dX12_row_59 bp_60 ?_
              refine vv_iload_n C dX12_row_61 rfl ?_
              refine vv_imul C dX12_row_62 ?_
              refine vs_eqi (v9 := nI (60 * k)) (by rw [xn_lit, xn_mul]) ?_
              refine vv_bipush C dX12_row_63 bp_60 ?_
              refine vv_iadd C dX12_row_65 ?_
              refine vs_eqi (v9 := nI (60 * k + 60)) (nI_add _ _) ?_
              refine vv_icmp_ge (tgt := 83) C dX12_row_66 (by decide) (fun q66 => ?_) (fun q66 => ?_)
              · exact absurd q66 (by rw [xn_le (by omega) (by omega)]; omega)
              · refine vv_aload_n C dX12_row_69 rfl ?_
                refine gf_X12_items C dX12_row_70 fg_X12_74 ?_
                refine vv_iload C dX12_row_73 rfl ?_
                refine vv_lconst C dX12_row_75 lc_0 ?_
                refine st_86 hfl C dX12_row_76 (xn_in (by omega) (by omega)) ?_
                refine vw_iinc (lv9 := [_, _, _, _, _]) C dX12_row_77 rfl ic_1 (by decide) rfl rfl ?_
                refine vv_goto (tgt := 57) C dX12_row_80 (by decide) ?_
                rw [nI_1]
                refine ih (t + 1) _ (by omega) (hS1.ul (by decide)) (fun p => ?_)
                rw [vs_ul3, if_pos rfl, xn_updL, xn_cl (by omega), hf p]
                by_cases z : p = 60 * k + t
                · rw [if_pos z, if_pos (by omega)]
                · rw [if_neg z]
                  by_cases y : 60 * k ≤ p ∧ p < 60 * k + t
                  · rw [if_pos y, if_pos (by omega)]
                  · rw [if_neg y, if_neg (by omega)]
          exact loop 60 0 _ (by omega) vs_fr.rf (fun p => by rw [if_neg (by omega)]; rfl)
        · have hv : k_row h (nI k) (nI s1) n = (-14, h) := by unfold k_row; rw [if_pos w3, if_pos (Int32.not_le.mp q28)]
          refine vv_bipush C dX12_row_31 bp_m14 ?_
          exact vs_iret C F dX12_row_33 rfl ⟨by rw [hv], by rw [hv]; exact hX, vs_fr.rf⟩
      · have hv : k_row h (nI k) (nI s1) n = (-1, h) := by unfold k_row; rw [w1, w2, decide_eq_false q22]; rfl
        refine vv_iconst C dX12_row_25 ic_m1 ?_
        exact vs_iret C F dX12_row_26 rfl ⟨by rw [hv], by rw [hv]; exact hX, vs_fr.rf⟩
set_option maxRecDepth 20000 in
theorem c_X12_put (g : vv_G) (S : vs_S) (m : Nat) (h : hT) (hX : sM S m h) (hm5 : m ≤ 50) (hfl : vv_fl g = false) (d i : Int32) (v : Int64) : vs_KI g yX12_put cX12_put 6 (some .int) 4 [vv_r g 65, .int d, .int i, .long v] S (fun r S1 => r = (k_put h d i v).1 ∧ sM S1 m (k_put h d i v).2 ∧ vs_fr [] [] [86] S S1) := by
  refine vs_ofI (lv := [_, _, _, _, _, _]) mb_X12_put (Nat.le_of_ble_eq_true rfl) rfl (fun x C F => ?_)
  refine vv_aload_n C dX12_put_0 rfl ?_
  refine vv_iload_n C dX12_put_1 rfl ?_
  refine vv_iload_n C dX12_put_2 rfl ?_
  refine vs_caliF C dX12_put_3 (c_X12_refusal g S m h hX hm5 d i) mb_X12_refusal mv_X12_refusal lk_X12_344 ce_65 rfl rfl rfl rfl ⟨Nat.le_of_ble_eq_true rfl, Nat.le_of_ble_eq_true rfl, Nat.le_of_ble_eq_true rfl⟩ ?_
  refine vw_istore (lv9 := [_, _, _, _, _, _]) C dX12_put_6 (by decide) rfl rfl ?_
  refine vv_iload C dX12_put_8 rfl ?_
  refine vv_if_ne (tgt := 37) C dX12_put_10 (by decide) (fun q10 => ?_) (fun q10 => ?_)
  · have hv : k_put h d i v = (rM h d i, h) := by
      unfold k_put rM
      cases z : shw d
      · rfl
      · rw [if_pos rfl, if_pos rfl]
        have y := q10
        unfold rM at y
        rw [z, if_pos rfl] at y
        rw [if_neg y]
    refine vv_iload C dX12_put_37 rfl ?_
    refine vv_if_ne (tgt := 46) C dX12_put_39 (by decide) (fun q39 => ?_) (fun q39 => ?_)
    · refine vv_iload C dX12_put_46 rfl ?_
      first
      | exact absurd q39 q10
      | exact absurd hrM q39
      | exact vs_iret C F dX12_put_48 rfl ⟨by rw [hv], by rw [hv]; exact hX, vs_fr.rf⟩
      | (refine vs_iret C F dX12_put_48 rfl ⟨by rw [hv], ?_, vs_fr.rf.ul (by decide)⟩
         rw [hv]
         intro e he
         obtain ⟨g1, g2, g3, g4⟩ := hX e he
         refine ⟨g1, g2, g3, fun z => ⟨(g4 z).1, (g4 z).2.1, fun y hy => ?_⟩⟩
         have hy6 := (g4 z).2.1
         rw [vs_ul3, if_pos rfl, xn_updL, xn_cl (by omega)]
         show _ = (if e = k then vp_updL (h.2.2.2 k) j _ else h.2.2.2 e) y
         by_cases w : e = k
         · subst w
           rw [if_pos rfl, xn_updL]
           by_cases u : y = j
           · rw [if_pos (by omega), if_pos u]
           · rw [if_neg (by omega), if_neg u]
             exact (g4 z).2.2 y hy
         · rw [if_neg w, if_neg (by change y < h.2.2.1 e at hy; omega)]
           exact (g4 z).2.2 y hy)
    · refine vv_iconst C dX12_put_42 ic_1 ?_
      refine vv_goto (tgt := 48) C dX12_put_43 (by decide) ?_
      first
      | exact absurd q39 q10
      | exact absurd hrM q39
      | exact vs_iret C F dX12_put_48 rfl ⟨by rw [hv], by rw [hv]; exact hX, vs_fr.rf⟩
      | (refine vs_iret C F dX12_put_48 rfl ⟨by rw [hv], ?_, vs_fr.rf.ul (by decide)⟩
         rw [hv]
         intro e he
         obtain ⟨g1, g2, g3, g4⟩ := hX e he
         refine ⟨g1, g2, g3, fun z => ⟨(g4 z).1, (g4 z).2.1, fun y hy => ?_⟩⟩
         have hy6 := (g4 z).2.1
         rw [vs_ul3, if_pos rfl, xn_updL, xn_cl (by omega)]
         show _ = (if e = k then vp_updL (h.2.2.2 k) j _ else h.2.2.2 e) y
         by_cases w : e = k
         · subst w
           rw [if_pos rfl, xn_updL]
           by_cases u : y = j
           · rw [if_pos (by omega), if_pos u]
           · rw [if_neg (by omega), if_neg u]
             exact (g4 z).2.2 y hy
         · rw [if_neg w, if_neg (by change y < h.2.2.1 e at hy; omega)]
           exact (g4 z).2.2 y hy)
  · have q10 := q10
    have w1 : shw d = true := by
      cases z : shw d
      · unfold rM at q10
        rw [z] at q10
        exact absurd (show (-1 : Int32) = 0 from q10) (by decide)
      · rfl
    obtain ⟨k, hk, ek⟩ := shw_d w1
    subst ek
    obtain ⟨ht6, h84, h1b, h57⟩ := hX k hk
    have hc1 : (nI k).toNatClampNeg = k := xn_cl (by omega)
    have hr0 : rf h k i = 0 := by
      have z := q10
      unfold rM at z
      rw [if_pos w1, hc1] at z
      exact z
    have hN60 : h.2.2.1 k ≤ 60 := by
      by_cases z : 2 ≤ h.1 k
      · exact (h57 z).2.1
      · exfalso
        unfold rf at hr0
        by_cases z0 : h.1 k = 0
        · rw [if_pos z0] at hr0; exact absurd hr0 (by decide)
        · rw [if_neg z0, if_pos (by omega)] at hr0; exact absurd hr0 (by decide)
    obtain ⟨h2, j, hj, ej⟩ := rf_0 hN60 hr0
    subst ej
    have hv : k_put h (nI k) (nI j) v = (1, h_put h k j (lo (h.1 k - 2) v)) := by unfold k_put; rw [if_pos w1, hc1, if_pos hr0, xn_cl (n := j) (by omega)]
    have hrM : rM h (nI k) (nI j) = 0 := q10
    refine vv_aload_n C dX12_put_13 rfl ?_
    refine gf_X12_items C dX12_put_14 fg_X12_74 ?_
    refine vv_bipush C dX12_put_17 bp_60 ?_
    refine vv_iload_n C dX12_put_19 rfl ?_
    refine vv_imul C dX12_put_20 ?_
    refine vs_eqi (v9 := nI (60 * k)) (by rw [xn_lit, xn_mul]) ?_
    refine vv_iload_n C dX12_put_21 rfl ?_
    refine vv_iadd C dX12_put_22 ?_
    refine vs_eqi (v9 := nI (60 * k + j)) (nI_add _ _) ?_
    refine vv_aload_n C dX12_put_23 rfl ?_
    refine gf_X12_shelf C dX12_put_24 fg_X12_68 ?_
    refine vv_iload_n C dX12_put_27 rfl ?_
    refine ld_84 C dX12_put_28 (xn_in (by omega) (by omega)) ?_
    refine vs_eqi (v9 := hm (h.1 k) (h.2.1 k)) (by rw [hc1]; exact h84) ?_
    refine vv_bipush C dX12_put_29 bp_50 ?_
    refine vv_isub C dX12_put_31 ?_
    refine vs_eqi (v9 := nI (h.1 k - 2)) (by rw [hm_2 h2, xn_lit, xn_sub (by omega)]; exact congrArg nI (by omega)) ?_
    refine vv_lload_n C dX12_put_32 rfl ?_
    refine vs_calslF C dX12_put_33 (c_X12_asSort g S (h.1 k - 2) (by omega) v) mb_X12_asSort ms_X12_asSort lk_X12_347 rfl rfl ⟨Nat.le_of_ble_eq_true rfl, Nat.le_of_ble_eq_true rfl, Nat.le_of_ble_eq_true rfl⟩ ?_
    refine st_86 hfl C dX12_put_36 (xn_in (by omega) (by omega)) ?_
    refine vv_iload C dX12_put_37 rfl ?_
    refine vv_if_ne (tgt := 46) C dX12_put_39 (by decide) (fun q39 => ?_) (fun q39 => ?_)
    · refine vv_iload C dX12_put_46 rfl ?_
      first
      | exact absurd q39 q10
      | exact absurd hrM q39
      | exact vs_iret C F dX12_put_48 rfl ⟨by rw [hv], by rw [hv]; exact hX, vs_fr.rf⟩
      | (refine vs_iret C F dX12_put_48 rfl ⟨by rw [hv], ?_, vs_fr.rf.ul (by decide)⟩
         rw [hv]
         intro e he
         obtain ⟨g1, g2, g3, g4⟩ := hX e he
         refine ⟨g1, g2, g3, fun z => ⟨(g4 z).1, (g4 z).2.1, fun y hy => ?_⟩⟩
         have hy6 := (g4 z).2.1
         rw [vs_ul3, if_pos rfl, xn_updL, xn_cl (by omega)]
         show _ = (if e = k then vp_updL (h.2.2.2 k) j _ else h.2.2.2 e) y
         by_cases w : e = k
         · subst w
           rw [if_pos rfl, xn_updL]
           by_cases u : y = j
           · rw [if_pos (by omega), if_pos u]
           · rw [if_neg (by omega), if_neg u]
             exact (g4 z).2.2 y hy
         · rw [if_neg w, if_neg (by change y < h.2.2.1 e at hy; omega)]
           exact (g4 z).2.2 y hy)
    · refine vv_iconst C dX12_put_42 ic_1 ?_
      refine vv_goto (tgt := 48) C dX12_put_43 (by decide) ?_
      first
      | exact absurd q39 q10
      | exact absurd hrM q39
      | exact vs_iret C F dX12_put_48 rfl ⟨by rw [hv], by rw [hv]; exact hX, vs_fr.rf⟩
      | (refine vs_iret C F dX12_put_48 rfl ⟨by rw [hv], ?_, vs_fr.rf.ul (by decide)⟩
         rw [hv]
         intro e he
         obtain ⟨g1, g2, g3, g4⟩ := hX e he
         refine ⟨g1, g2, g3, fun z => ⟨(g4 z).1, (g4 z).2.1, fun y hy => ?_⟩⟩
         have hy6 := (g4 z).2.1
         rw [vs_ul3, if_pos rfl, xn_updL, xn_cl (by omega)]
         show _ = (if e = k then vp_updL (h.2.2.2 k) j _ else h.2.2.2 e) y
         by_cases w : e = k
         · subst w
           rw [if_pos rfl, xn_updL]
           by_cases u : y = j
           · rw [if_pos (by omega), if_pos u]
           · rw [if_neg (by omega), if_neg u]
             exact (g4 z).2.2 y hy
         · rw [if_neg w, if_neg (by change y < h.2.2.1 e at hy; omega)]
           exact (g4 z).2.2 y hy)
set_option maxRecDepth 20000 in
theorem c_X12_element (g : vv_G) (S : vs_S) (m : Nat) (h : hT) (hX : sM S m h) (hm5 : m ≤ 50) (d i : Int32) : vs_FL g yX12_element cX12_element 3 (some .long) 4 [vv_r g 65, .int d, .int i] S (k_el h d i) S := by
  refine vs_ofL (lv := [_, _, _]) mb_X12_element (Nat.le_of_ble_eq_true rfl) rfl (fun x C F => ?_)
  refine vv_aload_n C dX12_element_0 rfl ?_
  refine vv_iload_n C dX12_element_1 rfl ?_
  refine vv_iload_n C dX12_element_2 rfl ?_
  refine vs_caliF C dX12_element_3 (c_X12_refusal g S m h hX hm5 d i) mb_X12_refusal mv_X12_refusal lk_X12_344 ce_65 rfl rfl rfl rfl ⟨Nat.le_of_ble_eq_true rfl, Nat.le_of_ble_eq_true rfl, Nat.le_of_ble_eq_true rfl⟩ ?_
  refine vv_if_eq (tgt := 15) C dX12_element_6 (by decide) (fun q6 => ?_) (fun q6 => ?_)
  · have w1 : shw d = true := by
      cases z : shw d
      · unfold rM at q6
        rw [z] at q6
        exact absurd (show (-1 : Int32) = 0 from q6) (by decide)
      · rfl
    obtain ⟨k, hk, ek⟩ := shw_d w1
    subst ek
    obtain ⟨ht6, h84, h1b, h57⟩ := hX k hk
    have hc1 : (nI k).toNatClampNeg = k := xn_cl (by omega)
    have hr0 : rf h k i = 0 := by
      have z := q6
      unfold rM at z
      rw [if_pos w1, hc1] at z
      exact z
    have hN60 : h.2.2.1 k ≤ 60 := by
      by_cases z : 2 ≤ h.1 k
      · exact (h57 z).2.1
      · exfalso
        unfold rf at hr0
        by_cases z0 : h.1 k = 0
        · rw [if_pos z0] at hr0; exact absurd hr0 (by decide)
        · rw [if_neg z0, if_pos (by omega)] at hr0; exact absurd hr0 (by decide)
    obtain ⟨h2, j, hj, ej⟩ := rf_0 hN60 hr0
    subst ej
    obtain ⟨_, _, h57E⟩ := h57 h2
    have hv : k_el h (nI k) (nI j) = h.2.2.2 k j := by unfold k_el; rw [if_pos w1, hc1, if_pos hr0, xn_cl (n := j) (by omega)]
    refine vv_aload_n C dX12_element_15 rfl ?_
    refine gf_X12_items C dX12_element_16 fg_X12_74 ?_
    refine vv_bipush C dX12_element_19 bp_60 ?_
    refine vv_iload_n C dX12_element_21 rfl ?_
    refine vv_imul C dX12_element_22 ?_
    refine vs_eqi (v9 := nI (60 * k)) (by rw [xn_lit, xn_mul]) ?_
    refine vv_iload_n C dX12_element_23 rfl ?_
    refine vv_iadd C dX12_element_24 ?_
    refine vs_eqi (v9 := nI (60 * k + j)) (nI_add _ _) ?_
    refine ld_86 C dX12_element_25 (xn_in (by omega) (by omega)) ?_
    first
    | exact vs_lret C F dX12_element_26 rfl ⟨hv.symm, rfl⟩
    | exact vs_lret C F dX12_element_26 rfl ⟨by rw [hv, xn_cl (by omega)]; exact h57E j hj, rfl⟩
  · have hv : k_el h d i = -9223372036854775808 := by
      unfold k_el
      cases z : shw d
      · rfl
      · rw [if_pos rfl]
        have y := q6
        unfold rM at y
        rw [z, if_pos rfl] at y
        rw [if_neg y]
    refine vv_ldc2 C dX12_element_9 kc_X12_140 ?_
    refine vv_goto (tgt := 26) C dX12_element_12 (by decide) ?_
    first
    | exact vs_lret C F dX12_element_26 rfl ⟨hv.symm, rfl⟩
    | exact vs_lret C F dX12_element_26 rfl ⟨by rw [hv, xn_cl (by omega)]; exact h57E j hj, rfl⟩
