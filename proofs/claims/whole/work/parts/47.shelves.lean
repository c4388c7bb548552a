/-! SHELVES: what is there (0 nothing, 1 a payment, 2 + s a row of sort s), which payment, how long, the elements -/
abbrev hT : Type := (Nat → Nat) × (Nat → Nat) × (Nat → Nat) × (Nat → Nat → Int64)
def hc (t : Nat) : Int32 := if t = 0 then -1 else if t = 1 then 5 else nI (t - 2)
def hm (t b : Nat) : Int32 := if t = 0 then -1 else if t = 1 then nI b else nI (48 + t)
def sX (S : vs_S) (m : Nat) (h : hT) : Prop := ∀ d, d < 6 → h.1 d ≤ 6 ∧ S.2.1 55 d = hc (h.1 d) ∧ (h.1 d = 1 → S.2.1 56 d = nI (h.2.1 d) ∧ h.2.1 d < m) ∧ (2 ≤ h.1 d → S.2.1 57 d = nI (h.2.2.1 d) ∧ h.2.2.1 d ≤ 60 ∧ ∀ j, j < h.2.2.1 d → S.2.2 (59 + d) j = h.2.2.2 d j)
def sM (S : vs_S) (m : Nat) (h : hT) : Prop := ∀ d, d < 6 → h.1 d ≤ 6 ∧ S.2.1 84 d = hm (h.1 d) (h.2.1 d) ∧ (h.1 d = 1 → h.2.1 d < m) ∧ (2 ≤ h.1 d → S.2.1 85 d = nI (h.2.2.1 d) ∧ h.2.2.1 d ≤ 60 ∧ ∀ j, j < h.2.2.1 d → S.2.2 86 (60 * d + j) = h.2.2.2 d j)
theorem hc_0 {t : Nat} (ht : t ≤ 6) : hc t = -1 ↔ t = 0 := by
  have h : t = 0 ∨ t = 1 ∨ t = 2 ∨ t = 3 ∨ t = 4 ∨ t = 5 ∨ t = 6 := by omega
  rcases h with e | e | e | e | e | e | e <;> subst e <;> decide +kernel
theorem hc_1 {t : Nat} (ht : t ≤ 6) : hc t = 5 ↔ t = 1 := by
  have h : t = 0 ∨ t = 1 ∨ t = 2 ∨ t = 3 ∨ t = 4 ∨ t = 5 ∨ t = 6 := by omega
  rcases h with e | e | e | e | e | e | e <;> subst e <;> decide +kernel
theorem hc_3 {t : Nat} (ht : t ≤ 6) : hc t = 3 ↔ t = 5 := by
  have h : t = 0 ∨ t = 1 ∨ t = 2 ∨ t = 3 ∨ t = 4 ∨ t = 5 ∨ t = 6 := by omega
  rcases h with e | e | e | e | e | e | e <;> subst e <;> decide +kernel
theorem hc_i {t u : Nat} (ht : t ≤ 6) (hu : u ≤ 6) : hc t = hc u ↔ t = u := by
  have h : t = 0 ∨ t = 1 ∨ t = 2 ∨ t = 3 ∨ t = 4 ∨ t = 5 ∨ t = 6 := by omega
  have h2 : u = 0 ∨ u = 1 ∨ u = 2 ∨ u = 3 ∨ u = 4 ∨ u = 5 ∨ u = 6 := by omega
  rcases h with e | e | e | e | e | e | e <;> subst e <;> rcases h2 with e | e | e | e | e | e | e <;> subst e <;> decide +kernel
theorem hc_2 {t : Nat} (h : 2 ≤ t) : hc t = nI (t - 2) := by
  unfold hc
  rw [if_neg (by omega), if_neg (by omega)]
theorem hm_2 {t b : Nat} (h : 2 ≤ t) : hm t b = nI (48 + t) := by
  unfold hm
  rw [if_neg (by omega), if_neg (by omega)]
theorem hm_0 {t b : Nat} (hb : b < 2 ^ 30) (ht : t ≤ 6) : hm t b < 0 ↔ t = 0 := by
  unfold hm
  by_cases h : t = 0
  · rw [if_pos h]; exact ⟨fun _ => h, fun _ => by decide⟩
  · rw [if_neg h]
    by_cases h1 : t = 1
    · rw [if_pos h1]; exact ⟨fun y => absurd y (xn_neg (by omega)), fun y => absurd y h⟩
    · rw [if_neg h1]; exact ⟨fun y => absurd y (xn_neg (by omega)), fun y => absurd y h⟩
theorem hm_1 {t b : Nat} (hb : b < 50) (ht : t ≤ 6) (h0 : ¬ t = 0) : (50 : Int32) ≤ hm t b ↔ 2 ≤ t := by
  unfold hm
  rw [if_neg h0]
  by_cases h1 : t = 1
  · rw [if_pos h1, xn_lit, xn_le (by omega) (by omega)]; omega
  · rw [if_neg h1, xn_lit, xn_le (by omega) (by omega)]; omega
def rf (h : hT) (d : Nat) (i : Int32) : Int32 := if h.1 d = 0 then -11 else if h.1 d = 1 then -12 else if vs_w i 0 (nI (h.2.2.1 d) - 1) = true then 0 else -13
theorem rf_0 {h : hT} {d : Nat} {i : Int32} (hN : h.2.2.1 d ≤ 60) (z : rf h d i = 0) : 2 ≤ h.1 d ∧ ∃ j, j < h.2.2.1 d ∧ i = nI j := by
  unfold rf at z
  by_cases h0 : h.1 d = 0
  · rw [if_pos h0] at z; exact absurd z (by decide)
  · rw [if_neg h0] at z
    by_cases h1 : h.1 d = 1
    · rw [if_pos h1] at z; exact absurd z (by decide)
    · rw [if_neg h1] at z
      by_cases h2 : vs_w i 0 (nI (h.2.2.1 d) - 1) = true
      · refine ⟨by omega, ?_⟩
        cases e : h.2.2.1 d with
        | zero =>
          rw [e] at h2
          have h3 := vs_wT h2
          exact absurd (Int32.le_trans h3.1 h3.2) (by decide)
        | succ n =>
          rw [e, nI_pred] at h2
          obtain ⟨k, h3, h4, h5⟩ := vs_wN (a := 0) (by omega) (by omega) h2
          exact ⟨k, by omega, h5⟩
      · rw [if_neg h2] at z; exact absurd z (by decide)
def lo (s : Nat) (v : Int64) : Int64 := if s = 0 then v.toInt32.toInt8.toInt32.toInt64 else if s = 1 then v.toInt32.toInt16.toInt32.toInt64 else if s = 2 then v.toInt32.toInt64 else if s = 3 then v else if v = 0 then 0 else 1
def un (k : Nat) : Nat → Nat → Bool
  | 0, _ => false
  | f + 1, n => if n = k then true else if n = 0 then false else un k f (pA n)
theorem unS (f : Nat) {k n : Nat} : un k (f + 1) n = if n = k then true else if n = 0 then false else un k f (pA n) := rfl
theorem un1 : ∀ k, k < 8 → ∀ n, n < 8 → un k 8 n = if n = k then true else if n = 0 then false else un k 8 (pA n) := by decide +kernel
def h_keep (h : hT) (d : Nat) (t b : Nat) : hT := (va_up h.1 d t, va_up h.2.1 d b, h.2.2.1, h.2.2.2)
def h_row (h : hT) (d s n : Nat) : hT := (va_up h.1 d (2 + s), h.2.1, va_up h.2.2.1 d n, fun e => if e = d then fun _ => 0 else h.2.2.2 e)
def h_put (h : hT) (d i : Nat) (v : Int64) : hT := (h.1, h.2.1, h.2.2.1, fun e => if e = d then vp_updL (h.2.2.2 d) i v else h.2.2.2 e)
def h_cpy (h : hT) (d i e j n : Nat) : hT := (h.1, h.2.1, h.2.2.1, fun z => if z = e then va_cpy (h.2.2.2 d) (h.2.2.2 e) i j n else h.2.2.2 z)
def shw (d : Int32) : Bool := vs_w d 0 5
theorem shw_d {d : Int32} (h : shw d = true) : ∃ k, k < 6 ∧ d = nI k := by
  obtain ⟨k, _, h2, h3⟩ := vs_wN (a := 0) (b := 5) (by omega) (by omega) h
  exact ⟨k, by omega, h3⟩
theorem fr_ul {ks is : List Nat} {S S2 : vs_S} (h : vs_fr ks is [59, 60, 61, 62, 63, 64] S S2) {d : Nat} (hd : d < 6) (f : Nat → Int64) : vs_fr ks is [59, 60, 61, 62, 63, 64] S (vs_ul S2 (59 + d) f) := h.ul (by
  have : d = 0 ∨ d = 1 ∨ d = 2 ∨ d = 3 ∨ d = 4 ∨ d = 5 := by omega
  rcases this with e | e | e | e | e | e <;> subst e <;> decide)
theorem hm_wk {d : Int32} {m : Nat} (h1 : ¬ d = -1) (hm : m ≤ 50) (h : vs_w d (-1) (nI m - 1) = true) : ∃ k, k < m ∧ d = nI k := by
  obtain ⟨h2, h3⟩ := vs_wT h
  obtain ⟨k, hk, e⟩ := xn_m1 h2 h1
  subst e
  refine ⟨k, ?_, rfl⟩
  cases m with
  | zero => exact absurd (Int32.le_trans (nI_pos' hk) h3) (by decide)
  | succ m =>
    rw [nI_pred, xn_le hk (by omega)] at h3
    omega
theorem m50_m1 {sz : Nat} (h : sz ≤ 50) : (-1 : Int32) ≤ nI sz - 1 := by
  cases sz with
  | zero => decide +kernel
  | succ m =>
    rw [nI_pred]
    exact Int32.le_trans (by decide) (nI_pos' (show m < 2 ^ 31 by omega))

set_option maxRecDepth 20000 in
theorem c_X8_isRow (g : vv_G) (S : vs_S) (m : Nat) (h : hT) (hX : sX S m h) (d : Nat) (hd : d < 6) : vs_FI g yX8_isRow cX8_isRow 2 (some .boolean) 1 [vv_r g 54, .int (nI d)] S (vs_b (decide (2 ≤ h.1 d))) S := by
  obtain ⟨ht6, h55, h56, h57⟩ := hX d hd
  refine vs_ofI (lv := [_, _]) mb_X8_isRow (Nat.le_of_ble_eq_true rfl) rfl (fun x C F => ?_)
  refine vv_aload_n C dX8_isRow_0 rfl ?_
  refine gf_X8_holds C dX8_isRow_1 fg_X8_11 ?_
  refine vv_iload_n C dX8_isRow_4 rfl ?_
  refine ld_55 C dX8_isRow_5 (xn_in (by omega) (by omega)) ?_
  refine vs_eqi (v9 := hc (h.1 d)) (by rw [xn_cl (by omega)]; exact h55) ?_
  refine vv_iconst C dX8_isRow_6 ic_m1 ?_
  refine vv_icmp_eq (tgt := 24) C dX8_isRow_7 (by decide) (fun q7 => ?_) (fun q7 => ?_)
  · have e0 := (hc_0 ht6).mp q7
    have hv : decide (2 ≤ h.1 d) = false := decide_eq_false (by omega)
    refine vv_iconst C dX8_isRow_24 ic_0 ?_
    exact vs_zret C F dX8_isRow_25 rfl rfl ⟨by rw [hv]; rfl, rfl⟩
  · have e0 : ¬ h.1 d = 0 := fun z => q7 ((hc_0 ht6).mpr z)
    refine vv_aload_n C dX8_isRow_10 rfl ?_
    refine gf_X8_holds C dX8_isRow_11 fg_X8_11 ?_
    refine vv_iload_n C dX8_isRow_14 rfl ?_
    refine ld_55 C dX8_isRow_15 (xn_in (by omega) (by omega)) ?_
    refine vs_eqi (v9 := hc (h.1 d)) (by rw [xn_cl (by omega)]; exact h55) ?_
    refine vv_iconst C dX8_isRow_16 ic_5 ?_
    refine vv_icmp_eq (tgt := 24) C dX8_isRow_17 (by decide) (fun q17 => ?_) (fun q17 => ?_)
    · have e1 := (hc_1 ht6).mp q17
      have hv : decide (2 ≤ h.1 d) = false := decide_eq_false (by omega)
      refine vv_iconst C dX8_isRow_24 ic_0 ?_
      exact vs_zret C F dX8_isRow_25 rfl rfl ⟨by rw [hv]; rfl, rfl⟩
    · have e1 : ¬ h.1 d = 1 := fun z => q17 ((hc_1 ht6).mpr z)
      have hv : decide (2 ≤ h.1 d) = true := decide_eq_true (by omega)
      refine vv_iconst C dX8_isRow_20 ic_1 ?_
      refine vv_goto (tgt := 25) C dX8_isRow_21 (by decide) ?_
      exact vs_zret C F dX8_isRow_25 rfl rfl ⟨by rw [hv]; rfl, rfl⟩
set_option maxRecDepth 20000 in
theorem c_X8_refusal (g : vv_G) (S : vs_S) (m : Nat) (h : hT) (hX : sX S m h) (d : Nat) (hd : d < 6) (i : Int32) : vs_FI g yX8_refusal cX8_refusal 3 (some .int) 2 [vv_r g 54, .int (nI d), .int i] S (rf h d i) S := by
  obtain ⟨ht6, h55, h56, h57⟩ := hX d hd
  refine vs_ofI (lv := [_, _, _]) mb_X8_refusal (Nat.le_of_ble_eq_true rfl) rfl (fun x C F => ?_)
  refine vv_aload_n C dX8_refusal_0 rfl ?_
  refine vv_iload_n C dX8_refusal_1 rfl ?_
  refine vs_caliF C dX8_refusal_2 (c_X8_isRow g S m h hX d hd) mb_X8_isRow mv_X8_isRow lk_X8_44 ce_54 rfl rfl rfl rfl ⟨Nat.le_of_ble_eq_true rfl, Nat.le_of_ble_eq_true rfl, Nat.le_of_ble_eq_true rfl⟩ ?_
  refine vv_if_ne (tgt := 26) C dX8_refusal_5 (by decide) (fun q5 => ?_) (fun q5 => ?_)
  · have h2 : 2 ≤ h.1 d := of_decide_eq_true (vs_b1.mp q5)
    refine vv_iload_n C dX8_refusal_26 rfl ?_
    refine vv_iconst C dX8_refusal_27 ic_0 ?_
    refine vv_aload_n C dX8_refusal_28 rfl ?_
    refine gf_X8_length C dX8_refusal_29 fg_X8_18 ?_
    refine vv_iload_n C dX8_refusal_32 rfl ?_
    refine ld_57 C dX8_refusal_33 (xn_in (by omega) (by omega)) ?_
    refine vs_eqi (v9 := nI (h.2.2.1 d)) (by rw [xn_cl (by omega)]; exact (h57 h2).1) ?_
    refine vv_iconst C dX8_refusal_34 ic_1 ?_
    refine vv_isub C dX8_refusal_35 ?_
    refine vs_calNiF (host := "LawfulSums") C dX8_refusal_36 (c_X11_within g S _ _ _) mb_X11_within ms_X11_within (by decide) rfl rfl ⟨Nat.le_of_ble_eq_true rfl, Nat.le_of_ble_eq_true rfl, Nat.le_of_ble_eq_true rfl⟩ ?_
    refine vv_if_eq (tgt := 46) C dX8_refusal_39 (by decide) (fun q39 => ?_) (fun q39 => ?_)
    · have hv : rf h d i = -13 := by unfold rf; rw [if_neg (by omega), if_neg (by omega), if_neg (by rw [show vs_w i 0 (nI (h.2.2.1 d) - 1) = false from vs_b0.mp q39]; decide)]
      refine vv_bipush C dX8_refusal_46 bp_m13 ?_
      exact vs_iret C F dX8_refusal_48 rfl ⟨hv.symm, rfl⟩
    · have hv : rf h d i = 0 := by unfold rf; rw [if_neg (by omega), if_neg (by omega), if_pos (show vs_w i 0 (nI (h.2.2.1 d) - 1) = true from vs_b1.mp q39)]
      refine vv_iconst C dX8_refusal_42 ic_0 ?_
      refine vv_goto (tgt := 48) C dX8_refusal_43 (by decide) ?_
      exact vs_iret C F dX8_refusal_48 rfl ⟨hv.symm, rfl⟩
  · have e2 : ¬ 2 ≤ h.1 d := of_decide_eq_false (vs_b0.mp q5)
    refine vv_aload_n C dX8_refusal_8 rfl ?_
    refine gf_X8_holds C dX8_refusal_9 fg_X8_11 ?_
    refine vv_iload_n C dX8_refusal_12 rfl ?_
    refine ld_55 C dX8_refusal_13 (xn_in (by omega) (by omega)) ?_
    refine vs_eqi (v9 := hc (h.1 d)) (by rw [xn_cl (by omega)]; exact h55) ?_
    refine vv_iconst C dX8_refusal_14 ic_m1 ?_
    refine vv_icmp_ne (tgt := 23) C dX8_refusal_15 (by decide) (fun q15 => ?_) (fun q15 => ?_)
    · have e0 : ¬ h.1 d = 0 := fun z => q15 ((hc_0 ht6).mpr z)
      have hv : rf h d i = -12 := by unfold rf; rw [if_neg e0, if_pos (by omega)]
      refine vv_bipush C dX8_refusal_23 bp_m12 ?_
      exact vs_iret C F dX8_refusal_25 rfl ⟨hv.symm, rfl⟩
    · have e0 := (hc_0 ht6).mp q15
      have hv : rf h d i = -11 := if_pos e0
      refine vv_bipush C dX8_refusal_18 bp_m11 ?_
      refine vv_goto (tgt := 25) C dX8_refusal_20 (by decide) ?_
      exact vs_iret C F dX8_refusal_25 rfl ⟨hv.symm, rfl⟩
set_option maxRecDepth 20000 in
theorem c_X8_lowest (g : vv_G) (S : vs_S) (s : Nat) (hs : s ≤ 4) (v : Int64) : vs_FL g yX8_lowest cX8_lowest 3 (some .long) 1 [.int (nI s), .long v] S (lo s v) S := by
  refine vs_ofL (lv := [_, _, _]) mb_X8_lowest (Nat.le_of_ble_eq_true rfl) rfl (fun x C F => ?_)
  refine vv_iload_n C dX8_lowest_0 rfl ?_
  have hs5 : s = 0 ∨ s = 1 ∨ s = 2 ∨ s = 3 ∨ s = 4 := by omega
  rcases hs5 with e | e | e | e | e
  · subst e
    refine vv_tableIn (tgt := 32) (off := 31) C dX8_lowest_1 (by decide +kernel) (by decide +kernel) (by decide +kernel) (by decide) ?_
    refine vv_lload_n C dX8_lowest_32 rfl ?_
    refine vv_l2i C dX8_lowest_33 ?_
    refine vv_i2b C dX8_lowest_34 ?_
    refine vv_i2l C dX8_lowest_35 ?_
    exact vs_lret C F dX8_lowest_36 rfl ⟨rfl, rfl⟩
  · subst e
    refine vv_tableIn (tgt := 37) (off := 36) C dX8_lowest_1 (by decide +kernel) (by decide +kernel) (by decide +kernel) (by decide) ?_
    refine vv_lload_n C dX8_lowest_37 rfl ?_
    refine vv_l2i C dX8_lowest_38 ?_
    refine vv_i2s C dX8_lowest_39 ?_
    refine vv_i2l C dX8_lowest_40 ?_
    exact vs_lret C F dX8_lowest_41 rfl ⟨rfl, rfl⟩
  · subst e
    refine vv_tableIn (tgt := 42) (off := 41) C dX8_lowest_1 (by decide +kernel) (by decide +kernel) (by decide +kernel) (by decide) ?_
    refine vv_lload_n C dX8_lowest_42 rfl ?_
    refine vv_l2i C dX8_lowest_43 ?_
    refine vv_i2l C dX8_lowest_44 ?_
    exact vs_lret C F dX8_lowest_45 rfl ⟨rfl, rfl⟩
  · subst e
    refine vv_tableIn (tgt := 46) (off := 45) C dX8_lowest_1 (by decide +kernel) (by decide +kernel) (by decide +kernel) (by decide) ?_
    refine vv_lload_n C dX8_lowest_46 rfl ?_
    exact vs_lret C F dX8_lowest_47 rfl ⟨rfl, rfl⟩
  · subst e
    refine vv_tableOut (tgt := 48) C dX8_lowest_1 (Or.inr (by decide +kernel)) (by decide) ?_
    refine vv_lload_n C dX8_lowest_48 rfl ?_
    refine vv_lconst C dX8_lowest_49 lc_0 ?_
    refine vv_lcmp C dX8_lowest_50 ?_
    refine vv_if_ne (tgt := 58) C dX8_lowest_51 (by decide) (fun q51 => ?_) (fun q51 => ?_)
    · have z : ¬ v = 0 := fun z => q51 ((lg_cmp_eq _ _).mpr z)
      refine vv_lconst C dX8_lowest_58 lc_1 ?_
      first
      | exact vs_lret C F dX8_lowest_59 rfl ⟨(if_pos z).symm, rfl⟩
      | exact vs_lret C F dX8_lowest_59 rfl ⟨(if_neg z).symm, rfl⟩
    · have z : v = 0 := (lg_cmp_eq _ _).mp q51
      refine vv_lconst C dX8_lowest_54 lc_0 ?_
      refine vv_goto (tgt := 59) C dX8_lowest_55 (by decide) ?_
      first
      | exact vs_lret C F dX8_lowest_59 rfl ⟨(if_pos z).symm, rfl⟩
      | exact vs_lret C F dX8_lowest_59 rfl ⟨(if_neg z).symm, rfl⟩
set_option maxRecDepth 20000 in
theorem c_X8_write (g : vv_G) (S : vs_S) (m : Nat) (h : hT) (hX : sX S m h) (d : Nat) (hd : d < 6) (hfl : vv_fl g = false) (i : Int32) (v : Int64) : vs_KI g yX8_write cX8_write 6 (some .int) 3 [vv_r g 54, .int (nI d), .int i, .long v] S (fun r S1 => r = (if rf h d i = 0 then 1 else rf h d i) ∧ sX S1 m (if rf h d i = 0 then h_put h d i.toNatClampNeg (lo (h.1 d - 2) v) else h) ∧ vs_fr [] [] [59, 60, 61, 62, 63, 64] S S1) := by
  obtain ⟨ht6, h55, h56, h57⟩ := hX d hd
  refine vs_ofI (lv := [_, _, _, _, _, _]) mb_X8_write (Nat.le_of_ble_eq_true rfl) rfl (fun x C F => ?_)
  refine vv_aload_n C dX8_write_0 rfl ?_
  refine vv_iload_n C dX8_write_1 rfl ?_
  refine vv_iload_n C dX8_write_2 rfl ?_
  refine vs_caliF C dX8_write_3 (c_X8_refusal g S m h hX d hd i) mb_X8_refusal mv_X8_refusal lk_X8_48 ce_54 rfl rfl rfl rfl ⟨Nat.le_of_ble_eq_true rfl, Nat.le_of_ble_eq_true rfl, Nat.le_of_ble_eq_true rfl⟩ ?_
  refine vw_istore (lv9 := [_, _, _, _, _, _]) C dX8_write_6 (by decide) rfl rfl ?_
  refine vv_iload C dX8_write_8 rfl ?_
  refine vv_if_eq (tgt := 16) C dX8_write_10 (by decide) (fun q10 => ?_) (fun q10 => ?_)
  · have hN60 : h.2.2.1 d ≤ 60 := by
      by_cases z : 2 ≤ h.1 d
      · exact (h57 z).2.1
      · exfalso
        unfold rf at q10
        by_cases z0 : h.1 d = 0
        · rw [if_pos z0] at q10; exact absurd q10 (by decide)
        · rw [if_neg z0, if_pos (by omega)] at q10; exact absurd q10 (by decide)
    obtain ⟨h2, j, hj, ej⟩ := rf_0 hN60 q10
    subst ej
    refine vv_aload_n C dX8_write_16 rfl ?_
    refine gf_X8_rows C dX8_write_17 fg_X8_23 ?_
    refine vv_iload_n C dX8_write_20 rfl ?_
    refine aa_rows C dX8_write_21 (xn_in (by omega) (by omega)) ?_
    refine vs_eqr (v9 := 59 + d) (by rw [xn_cl (by omega)]) ?_
    refine vv_iload_n C dX8_write_22 rfl ?_
    refine vv_aload_n C dX8_write_23 rfl ?_
    refine gf_X8_holds C dX8_write_24 fg_X8_11 ?_
    refine vv_iload_n C dX8_write_27 rfl ?_
    refine ld_55 C dX8_write_28 (xn_in (by omega) (by omega)) ?_
    refine vs_eqi (v9 := nI (h.1 d - 2)) (by rw [xn_cl (by omega), h55, hc_2 h2]) ?_
    refine vv_lload_n C dX8_write_29 rfl ?_
    refine vs_calslF C dX8_write_30 (c_X8_lowest g S (h.1 d - 2) (by omega) v) mb_X8_lowest ms_X8_lowest lk_X8_52 rfl rfl ⟨Nat.le_of_ble_eq_true rfl, Nat.le_of_ble_eq_true rfl, Nat.le_of_ble_eq_true rfl⟩ ?_
    refine st_rows hfl C dX8_write_33 (by omega) (xn_in (by omega) (by omega)) ?_
    refine vv_iconst C dX8_write_34 ic_1 ?_
    refine vs_iret C F dX8_write_35 rfl ⟨by rw [if_pos q10], ?_, fr_ul vs_fr.rf hd _⟩
    rw [if_pos q10, xn_cl (by omega)]
    intro e he
    obtain ⟨g1, g2, g3, g4⟩ := hX e he
    refine ⟨g1, g2, g3, fun z => ⟨(g4 z).1, (g4 z).2.1, fun k hk => ?_⟩⟩
    rw [vs_ul3]
    show _ = (if e = d then vp_updL (h.2.2.2 d) j _ else h.2.2.2 e) k
    by_cases y : e = d
    · subst y
      rw [if_pos rfl, if_pos rfl, xn_updL, xn_updL]
      split
      · rfl
      · exact (g4 z).2.2 k hk
    · rw [if_neg (by omega), if_neg y]
      exact (g4 z).2.2 k hk
  · skip
    refine vv_iload C dX8_write_13 rfl ?_
    exact vs_iret C F dX8_write_15 rfl ⟨by rw [if_neg q10], by rw [if_neg q10]; exact hX, vs_fr.rf⟩
set_option maxRecDepth 20000 in
theorem c_X8_read (g : vv_G) (S : vs_S) (m : Nat) (h : hT) (hX : sX S m h) (d : Nat) (hd : d < 6) (i : Int32) : vs_FL g yX8_read cX8_read 3 (some .long) 3 [vv_r g 54, .int (nI d), .int i] S (if rf h d i = 0 then h.2.2.2 d i.toNatClampNeg else -9223372036854775808) S := by
  obtain ⟨ht6, h55, h56, h57⟩ := hX d hd
  refine vs_ofL (lv := [_, _, _]) mb_X8_read (Nat.le_of_ble_eq_true rfl) rfl (fun x C F => ?_)
  refine vv_aload_n C dX8_read_0 rfl ?_
  refine vv_iload_n C dX8_read_1 rfl ?_
  refine vv_iload_n C dX8_read_2 rfl ?_
  refine vs_caliF C dX8_read_3 (c_X8_refusal g S m h hX d hd i) mb_X8_refusal mv_X8_refusal lk_X8_48 ce_54 rfl rfl rfl rfl ⟨Nat.le_of_ble_eq_true rfl, Nat.le_of_ble_eq_true rfl, Nat.le_of_ble_eq_true rfl⟩ ?_
  refine vv_if_ne (tgt := 20) C dX8_read_6 (by decide) (fun q6 => ?_) (fun q6 => ?_)
  · refine vv_ldc2 C dX8_read_20 kc_X8_58 ?_
    first
    | exact vs_lret C F dX8_read_23 rfl ⟨by rw [if_neg q6], rfl⟩
    | exact vs_lret C F dX8_read_23 rfl ⟨by rw [if_pos q6, xn_cl (by omega)]; exact (h57 h2).2.2 j hj, rfl⟩
  · have hN60 : h.2.2.1 d ≤ 60 := by
      by_cases z : 2 ≤ h.1 d
      · exact (h57 z).2.1
      · exfalso
        unfold rf at q6
        by_cases z0 : h.1 d = 0
        · rw [if_pos z0] at q6; exact absurd q6 (by decide)
        · rw [if_neg z0, if_pos (by omega)] at q6; exact absurd q6 (by decide)
    obtain ⟨h2, j, hj, ej⟩ := rf_0 hN60 q6
    subst ej
    refine vv_aload_n C dX8_read_9 rfl ?_
    refine gf_X8_rows C dX8_read_10 fg_X8_23 ?_
    refine vv_iload_n C dX8_read_13 rfl ?_
    refine aa_rows C dX8_read_14 (xn_in (by omega) (by omega)) ?_
    refine vs_eqr (v9 := 59 + d) (by rw [xn_cl (by omega)]) ?_
    refine vv_iload_n C dX8_read_15 rfl ?_
    refine ld_rows C dX8_read_16 (by omega) (xn_in (by omega) (by omega)) ?_
    refine vv_goto (tgt := 23) C dX8_read_17 (by decide) ?_
    first
    | exact vs_lret C F dX8_read_23 rfl ⟨by rw [if_neg q6], rfl⟩
    | exact vs_lret C F dX8_read_23 rfl ⟨by rw [if_pos q6, xn_cl (by omega)]; exact (h57 h2).2.2 j hj, rfl⟩
set_option maxRecDepth 20000 in
theorem c_X8_holdPayment (g : vv_G) (S : vs_S) (m : Nat) (h : hT) (hX : sX S m h) (d : Nat) (hd : d < 6) (b : Int32) (hb : b = -1 ∨ ∃ k, k < m ∧ m ≤ 50 ∧ b = nI k) : vs_KI g yX8_holdPayment cX8_holdPayment 3 (some .int) 1 [vv_r g 54, .int (nI d), .int b] S (fun r S1 => r = 1 ∧ sX S1 m (h_keep h d (if b < 0 then 0 else 1) b.toNatClampNeg) ∧ vs_fr [] [55, 56] [] S S1) := by
  refine vs_ofI (lv := [_, _, _]) mb_X8_holdPayment (Nat.le_of_ble_eq_true rfl) rfl (fun x C F => ?_)
  refine vv_aload_n C dX8_holdPayment_0 rfl ?_
  refine gf_X8_holds C dX8_holdPayment_1 fg_X8_11 ?_
  refine vv_iload_n C dX8_holdPayment_4 rfl ?_
  refine vv_iload_n C dX8_holdPayment_5 rfl ?_
  refine vv_if_ge (tgt := 13) C dX8_holdPayment_6 (by decide) (fun q6 => ?_) (fun q6 => ?_)
  · refine vv_iconst C dX8_holdPayment_13 ic_5 ?_
    refine vs_eqi (v9 := hc (if b < 0 then 0 else 1)) (by first | (rw [if_pos (Int32.not_le.mp q6)]; rfl) | (rw [if_neg (Int32.not_lt.mpr q6)]; rfl)) ?_
    refine st_55 C dX8_holdPayment_14 (xn_in (by omega) (by omega)) ?_
    refine vv_aload_n C dX8_holdPayment_15 rfl ?_
    refine gf_X8_body C dX8_holdPayment_16 fg_X8_15 ?_
    refine vv_iload_n C dX8_holdPayment_19 rfl ?_
    refine vv_iload_n C dX8_holdPayment_20 rfl ?_
    refine st_56 C dX8_holdPayment_21 (xn_in (by omega) (by omega)) ?_
    refine vv_iconst C dX8_holdPayment_22 ic_1 ?_
    refine vs_iret C F dX8_holdPayment_23 rfl ⟨rfl, fun e he => ?_, ((vs_fr.rf.ua (by decide)).ua (by decide))⟩
    obtain ⟨g1, g2, g3, g4⟩ := hX e he
    show va_up h.1 d _ e ≤ 6 ∧ upd (S.2.1 55) (nI d).toNatClampNeg _ e = hc (va_up h.1 d _ e) ∧ (va_up h.1 d _ e = 1 → upd (S.2.1 56) (nI d).toNatClampNeg b e = nI (va_up h.2.1 d b.toNatClampNeg e) ∧ va_up h.2.1 d b.toNatClampNeg e < m) ∧ (2 ≤ va_up h.1 d _ e → _)
    rw [xn_cl (by omega), xn_upd (α := Nat), xn_upd (α := Nat), va_up1, va_up1]
    by_cases y : e = d
    · subst y
      rw [if_pos rfl, if_pos rfl, if_pos rfl, if_pos rfl]
      refine ⟨by split <;> omega, rfl, fun z => ?_, fun z => by exfalso; revert z; split <;> omega⟩
      rcases hb with hb | ⟨k, hk, hm5, hb⟩
      · subst hb
        rw [if_pos (by decide)] at z
        cases z
      · subst hb
        rw [xn_cl (by omega)]
        exact ⟨rfl, hk⟩
    · rw [if_neg y, if_neg y, if_neg y, if_neg y]
      exact ⟨g1, g2, g3, g4⟩
  · refine vv_iconst C dX8_holdPayment_9 ic_m1 ?_
    refine vv_goto (tgt := 14) C dX8_holdPayment_10 (by decide) ?_
    refine vs_eqi (v9 := hc (if b < 0 then 0 else 1)) (by first | (rw [if_pos (Int32.not_le.mp q6)]; rfl) | (rw [if_neg (Int32.not_lt.mpr q6)]; rfl)) ?_
    refine st_55 C dX8_holdPayment_14 (xn_in (by omega) (by omega)) ?_
    refine vv_aload_n C dX8_holdPayment_15 rfl ?_
    refine gf_X8_body C dX8_holdPayment_16 fg_X8_15 ?_
    refine vv_iload_n C dX8_holdPayment_19 rfl ?_
    refine vv_iload_n C dX8_holdPayment_20 rfl ?_
    refine st_56 C dX8_holdPayment_21 (xn_in (by omega) (by omega)) ?_
    refine vv_iconst C dX8_holdPayment_22 ic_1 ?_
    refine vs_iret C F dX8_holdPayment_23 rfl ⟨rfl, fun e he => ?_, ((vs_fr.rf.ua (by decide)).ua (by decide))⟩
    obtain ⟨g1, g2, g3, g4⟩ := hX e he
    show va_up h.1 d _ e ≤ 6 ∧ upd (S.2.1 55) (nI d).toNatClampNeg _ e = hc (va_up h.1 d _ e) ∧ (va_up h.1 d _ e = 1 → upd (S.2.1 56) (nI d).toNatClampNeg b e = nI (va_up h.2.1 d b.toNatClampNeg e) ∧ va_up h.2.1 d b.toNatClampNeg e < m) ∧ (2 ≤ va_up h.1 d _ e → _)
    rw [xn_cl (by omega), xn_upd (α := Nat), xn_upd (α := Nat), va_up1, va_up1]
    by_cases y : e = d
    · subst y
      rw [if_pos rfl, if_pos rfl, if_pos rfl, if_pos rfl]
      refine ⟨by split <;> omega, rfl, fun z => ?_, fun z => by exfalso; revert z; split <;> omega⟩
      rcases hb with hb | ⟨k, hk, hm5, hb⟩
      · subst hb
        rw [if_pos (by decide)] at z
        cases z
      · subst hb
        rw [xn_cl (by omega)]
        exact ⟨rfl, hk⟩
    · rw [if_neg y, if_neg y, if_neg y, if_neg y]
      exact ⟨g1, g2, g3, g4⟩
theorem c_fill_rows (g : vv_G) (hfl : vv_fl g = false) (S : vs_S) (q : Nat) (hq : q < 6) (v : Int64) : vs_KV g yJ7_fill_d0a16 cJ7_fill_d0a16 5 none 1 [vv_r g (59 + q), .long v] S (fun S1 => ∃ f1, S1 = vs_ul S (59 + q) f1 ∧ ∀ j, j < 60 → f1 j = v) :=
  c_fillJ g hfl _ (vv_n (59 + q)) 60 (S.2.2 (59 + q)) v (by omega) (ce_rows hq) _ (fun f1 h => ⟨vs_ul S (59 + q) f1, sa_rows hq, f1, rfl, h⟩)
set_option maxRecDepth 20000 in
theorem c_X8_holdRow (g : vv_G) (S : vs_S) (m : Nat) (h : hT) (hX : sX S m h) (d : Nat) (hd : d < 6) (hfl : vv_fl g = false) (s n : Nat) (hs : s ≤ 4) (hn : n ≤ 60) : vs_KI g yX8_holdRow cX8_holdRow 4 (some .int) 2 [vv_r g 54, .int (nI d), .int (nI s), .int (nI n)] S (fun r S1 => r = 1 ∧ sX S1 m (h_row h d s n) ∧ vs_fr [] [55, 57] [59, 60, 61, 62, 63, 64] S S1) := by
  refine vs_ofI (lv := [_, _, _, _]) mb_X8_holdRow (Nat.le_of_ble_eq_true rfl) rfl (fun x C F => ?_)
  refine vv_aload_n C dX8_holdRow_0 rfl ?_
  refine gf_X8_holds C dX8_holdRow_1 fg_X8_11 ?_
  refine vv_iload_n C dX8_holdRow_4 rfl ?_
  refine vv_iload_n C dX8_holdRow_5 rfl ?_
  refine st_55 C dX8_holdRow_6 (xn_in (by omega) (by omega)) ?_
  refine vv_aload_n C dX8_holdRow_7 rfl ?_
  refine gf_X8_length C dX8_holdRow_8 fg_X8_18 ?_
  refine vv_iload_n C dX8_holdRow_11 rfl ?_
  refine vv_iload_n C dX8_holdRow_12 rfl ?_
  refine st_57 C dX8_holdRow_13 (xn_in (by omega) (by omega)) ?_
  refine vv_aload_n C dX8_holdRow_14 rfl ?_
  refine gf_X8_rows C dX8_holdRow_15 fg_X8_23 ?_
  refine vv_iload_n C dX8_holdRow_18 rfl ?_
  refine aa_rows C dX8_holdRow_19 (xn_in (by omega) (by omega)) ?_
  refine vs_eqr (v9 := 59 + d) (by rw [xn_cl (by omega)]) ?_
  refine vv_lconst C dX8_holdRow_20 lc_0 ?_
  refine vs_callsv C dX8_holdRow_21 (c_fill_rows g hfl (vs_ua (vs_ua S 55 (upd (S.2.1 55) (nI d).toNatClampNeg (nI s))) 57 (upd (S.2.1 57) (nI d).toNatClampNeg (nI n))) d hd 0) mb_J7_fill_d0a16 ms_J7_fill_d0a16 lk_X8_38 rfl rfl ⟨Nat.le_of_ble_eq_true rfl, Nat.le_of_ble_eq_true rfl, Nat.le_of_ble_eq_true rfl⟩ (fun S21 p21 => ?_)
  obtain ⟨f1, e21, h21⟩ := p21
  subst e21
  refine vv_iconst C dX8_holdRow_24 ic_1 ?_
  refine vs_iret C F dX8_holdRow_25 rfl ⟨rfl, fun e he => ?_, fr_ul ((vs_fr.rf.ua (by decide)).ua (by decide)) hd _⟩
  obtain ⟨g1, g2, g3, g4⟩ := hX e he
  show va_up h.1 d (2 + s) e ≤ 6 ∧ upd (S.2.1 55) (nI d).toNatClampNeg (nI s) e = hc (va_up h.1 d (2 + s) e) ∧ (va_up h.1 d (2 + s) e = 1 → _) ∧ (2 ≤ va_up h.1 d (2 + s) e → upd (S.2.1 57) (nI d).toNatClampNeg (nI n) e = nI (va_up h.2.2.1 d n e) ∧ va_up h.2.2.1 d n e ≤ 60 ∧ ∀ j, j < va_up h.2.2.1 d n e → (if 59 + e = 59 + d then f1 else S.2.2 (59 + e)) j = (if e = d then fun _ => 0 else h.2.2.2 e) j)
  rw [xn_cl (by omega), xn_upd (α := Nat), xn_upd (α := Nat), va_up1, va_up1]
  by_cases y : e = d
  · subst y
    rw [if_pos rfl, if_pos rfl, if_pos rfl, if_pos rfl, if_pos rfl, if_pos rfl]
    exact ⟨by omega, by rw [hc_2 (by omega), Nat.add_sub_cancel_left], fun z => by omega, fun _ => ⟨rfl, hn, fun j hj => h21 j (by omega)⟩⟩
  · rw [if_neg y, if_neg y, if_neg y, if_neg y, if_neg (by omega), if_neg y]
    exact ⟨g1, g2, g3, g4⟩
def st_ok (N : Nat) (i n : Int32) : Bool := ((decide (0 ≤ n) && decide (0 ≤ i)) && decide (i ≤ nI N)) && decide (n ≤ nI N - i)
theorem st_okN {N : Nat} {i n : Int32} (hN : N ≤ 60) (h : st_ok N i n = true) : ∃ a b, i = nI a ∧ n = nI b ∧ a + b ≤ N := by
  unfold st_ok at h
  simp only [Bool.and_eq_true, decide_eq_true_eq] at h
  obtain ⟨⟨⟨h1, h2⟩, h3⟩, h4⟩ := h
  obtain ⟨a, ha, ea⟩ := xn_of (n := N) (by omega) h2 h3
  subst ea
  rw [xn_sub ha] at h4
  obtain ⟨b, hb, eb⟩ := xn_of (n := N - a) (by omega) h1 h4
  exact ⟨a, b, rfl, eb, by omega⟩
set_option maxRecDepth 20000 in
theorem c_X8_hasStretch (g : vv_G) (S : vs_S) (m : Nat) (h : hT) (hX : sX S m h) (d : Nat) (hd : d < 6) (h2 : 2 ≤ h.1 d) (i n : Int32) : vs_FI g yX8_hasStretch cX8_hasStretch 4 (some .boolean) 1 [vv_r g 54, .int (nI d), .int i, .int n] S (vs_b (st_ok (h.2.2.1 d) i n)) S := by
  obtain ⟨ht6, h55, h56, h57⟩ := hX d hd
  obtain ⟨e57, hN, _⟩ := h57 h2
  refine vs_ofI (lv := [_, _, _, _]) mb_X8_hasStretch (Nat.le_of_ble_eq_true rfl) rfl (fun x C F => ?_)
  refine vv_iload_n C dX8_hasStretch_0 rfl ?_
  refine vv_if_lt (tgt := 34) C dX8_hasStretch_1 (by decide) (fun q1 => ?_) (fun q1 => ?_)
  · have hv : st_ok (h.2.2.1 d) i n = false := by unfold st_ok; rw [decide_eq_false (Int32.not_le.mpr q1)]; rfl
    refine vv_iconst C dX8_hasStretch_34 ic_0 ?_
    exact vs_zret C F dX8_hasStretch_35 rfl rfl ⟨by rw [hv]; rfl, rfl⟩
  · have n1 : decide (0 ≤ n) = true := decide_eq_true (Int32.not_lt.mp q1)
    refine vv_iload_n C dX8_hasStretch_4 rfl ?_
    refine vv_if_lt (tgt := 34) C dX8_hasStretch_5 (by decide) (fun q5 => ?_) (fun q5 => ?_)
    · have hv : st_ok (h.2.2.1 d) i n = false := by unfold st_ok; rw [n1, decide_eq_false (Int32.not_le.mpr q5)]; rfl
      refine vv_iconst C dX8_hasStretch_34 ic_0 ?_
      exact vs_zret C F dX8_hasStretch_35 rfl rfl ⟨by rw [hv]; rfl, rfl⟩
    · have n2 : decide (0 ≤ i) = true := decide_eq_true (Int32.not_lt.mp q5)
      refine vv_iload_n C dX8_hasStretch_8 rfl ?_
      refine vv_aload_n C dX8_hasStretch_9 rfl ?_
      refine gf_X8_length C dX8_hasStretch_10 fg_X8_18 ?_
      refine vv_iload_n C dX8_hasStretch_13 rfl ?_
      refine ld_57 C dX8_hasStretch_14 (xn_in (by omega) (by omega)) ?_
      refine vs_eqi (v9 := nI (h.2.2.1 d)) (by rw [xn_cl (by omega)]; exact e57) ?_
      refine vv_icmp_gt (tgt := 34) C dX8_hasStretch_15 (by decide) (fun q15 => ?_) (fun q15 => ?_)
      · have hv : st_ok (h.2.2.1 d) i n = false := by unfold st_ok; rw [n1, n2, decide_eq_false (Int32.not_le.mpr q15)]; rfl
        refine vv_iconst C dX8_hasStretch_34 ic_0 ?_
        exact vs_zret C F dX8_hasStretch_35 rfl rfl ⟨by rw [hv]; rfl, rfl⟩
      · have n3 : decide (i ≤ nI (h.2.2.1 d)) = true := decide_eq_true (Int32.not_lt.mp q15)
        refine vv_iload_n C dX8_hasStretch_18 rfl ?_
        refine vv_aload_n C dX8_hasStretch_19 rfl ?_
        refine gf_X8_length C dX8_hasStretch_20 fg_X8_18 ?_
        refine vv_iload_n C dX8_hasStretch_23 rfl ?_
        refine ld_57 C dX8_hasStretch_24 (xn_in (by omega) (by omega)) ?_
        refine vs_eqi (v9 := nI (h.2.2.1 d)) (by rw [xn_cl (by omega)]; exact e57) ?_
        refine vv_iload_n C dX8_hasStretch_25 rfl ?_
        refine vv_isub C dX8_hasStretch_26 ?_
        refine vv_icmp_gt (tgt := 34) C dX8_hasStretch_27 (by decide) (fun q27 => ?_) (fun q27 => ?_)
        · have hv : st_ok (h.2.2.1 d) i n = false := by unfold st_ok; rw [n1, n2, n3, decide_eq_false (Int32.not_le.mpr q27)]; rfl
          refine vv_iconst C dX8_hasStretch_34 ic_0 ?_
          exact vs_zret C F dX8_hasStretch_35 rfl rfl ⟨by rw [hv]; rfl, rfl⟩
        · have hv : st_ok (h.2.2.1 d) i n = true := by unfold st_ok; rw [n1, n2, n3, decide_eq_true (Int32.not_lt.mp q27)]; rfl
          refine vv_iconst C dX8_hasStretch_30 ic_1 ?_
          refine vv_goto (tgt := 35) C dX8_hasStretch_31 (by decide) ?_
          exact vs_zret C F dX8_hasStretch_35 rfl rfl ⟨by rw [hv]; rfl, rfl⟩
set_option maxRecDepth 20000 in
theorem c_X4_isUnder (g : vv_G) (S : vs_S) (kind k : Nat) (hk1 : kind < 8) (hk : k < 8) : vs_FI g yX4_isUnder cX4_isUnder 5 (some .boolean) 1 [vv_r g 51, .int (nI kind), .int (nI k)] S (vs_b (un k 8 kind)) S := by
  refine vs_ofI (lv := [_, _, _, _, _]) mb_X4_isUnder (Nat.le_of_ble_eq_true rfl) rfl (fun x C F => ?_)
  have loop : ∀ (f i n : Nat), i + f = 8 → n < 8 → un k f n = un k 8 kind → vv_V g x 5 0 0 5 [some (vv_r g 51), some (.int (nI kind)), some (.int (nI k)), some (.int (nI n)), some (.int (nI i))] [] (vs_cells g S) := by
    intro f
    induction f with
    | zero =>
      intro i n h1 h2 he
      have hi : i = 8 := by omega
      subst hi
      refine vv_iload C dX4_isUnder_5 rfl ?_
      refine vv_bipush C dX4_isUnder_7 bp_8 ?_
      refine vv_icmp_ge (tgt := 35) C dX4_isUnder_9 (by decide) (fun q9 => ?_) (fun q9 => ?_)
      · refine vv_iconst C dX4_isUnder_35 ic_0 ?_
        exact vs_zret C F dX4_isUnder_36 rfl rfl ⟨by rw [← he]; rfl, rfl⟩
      · exact absurd (by decide +kernel) q9
    | succ f ih =>
      intro i n h1 h2 he
      rw [unS f] at he
      refine vv_iload C dX4_isUnder_5 rfl ?_
      refine vv_bipush C dX4_isUnder_7 bp_8 ?_
      refine vv_icmp_ge (tgt := 35) C dX4_isUnder_9 (by decide) (fun q9 => ?_) (fun q9 => ?_)
      · exact absurd q9 (by rw [xn_lit, xn_le (by omega) (by omega)]; omega)
      · refine vv_iload_n C dX4_isUnder_12 rfl ?_
        refine vv_if_lt (tgt := 35) C dX4_isUnder_13 (by decide) (fun q13 => ?_) (fun q13 => ?_)
        · exact absurd q13 (xn_neg (by omega))
        · refine vv_iload_n C dX4_isUnder_16 rfl ?_
          refine vv_iload_n C dX4_isUnder_17 rfl ?_
          refine vv_icmp_ne (tgt := 23) C dX4_isUnder_18 (by decide) (fun q18 => ?_) (fun q18 => ?_)
          · have hne : ¬ n = k := fun z => q18 (by rw [z])
            rw [if_neg hne] at he
            refine vv_getsA C dX4_isUnder_23 gs_X4_25 ?_
            refine vv_iload_n C dX4_isUnder_26 rfl ?_
            refine vv_ildsA C dX4_isUnder_27 (xn_in (by omega) (by omega)) ?_
            by_cases z : n = 0
            · subst z
              rw [if_pos rfl] at he
              rw [xn_cl (by omega)]
              refine vw_istore_n (lv9 := [_, _, _, _, _]) C dX4_isUnder_28 (by decide) rfl rfl ?_
              refine vw_iinc (lv9 := [_, _, _, _, _]) C dX4_isUnder_29 rfl ic_1 (by decide) rfl rfl ?_
              refine vv_goto (tgt := 5) C dX4_isUnder_32 (by decide) ?_
              rw [nI_1]
              refine vv_iload C dX4_isUnder_5 rfl ?_
              refine vv_bipush C dX4_isUnder_7 bp_8 ?_
              refine vv_icmp_ge (tgt := 35) C dX4_isUnder_9 (by decide) (fun q9 => ?_) (fun q9 => ?_)
              · refine vv_iconst C dX4_isUnder_35 ic_0 ?_
                exact vs_zret C F dX4_isUnder_36 rfl rfl ⟨by rw [← he]; rfl, rfl⟩
              · refine vv_iload_n C dX4_isUnder_12 rfl ?_
                refine vv_if_lt (tgt := 35) C dX4_isUnder_13 (by decide) (fun q13 => ?_) (fun q13 => ?_)
                · refine vv_iconst C dX4_isUnder_35 ic_0 ?_
                  exact vs_zret C F dX4_isUnder_36 rfl rfl ⟨by rw [← he]; rfl, rfl⟩
                · exact absurd (show vv_fA 0 < 0 by decide +kernel) q13
            · rw [if_neg z] at he
              refine vs_eqi (v9 := nI (pA n)) (by rw [xn_cl (by omega)]; exact pA_i n h2 (by omega)) ?_
              refine vw_istore_n (lv9 := [_, _, _, _, _]) C dX4_isUnder_28 (by decide) rfl rfl ?_
              refine vw_iinc (lv9 := [_, _, _, _, _]) C dX4_isUnder_29 rfl ic_1 (by decide) rfl rfl ?_
              refine vv_goto (tgt := 5) C dX4_isUnder_32 (by decide) ?_
              rw [nI_1]
              exact ih (i + 1) (pA n) (by omega) (pA_lt n h2) he
          · rw [if_pos ((xn_eq (by omega) (by omega)).mp q18)] at he
            refine vv_iconst C dX4_isUnder_21 ic_1 ?_
            exact vs_zret C F dX4_isUnder_22 rfl rfl ⟨by rw [← he]; rfl, rfl⟩
  refine vv_iload_n C dX4_isUnder_0 rfl ?_
  refine vw_istore_n (lv9 := [_, _, _, _, _]) C dX4_isUnder_1 (by decide) rfl rfl ?_
  refine vv_iconst C dX4_isUnder_2 ic_0 ?_
  refine vw_istore (lv9 := [_, _, _, _, _]) C dX4_isUnder_3 (by decide) rfl rfl ?_
  exact loop 8 0 kind rfl hk1 rfl
set_option maxRecDepth 20000 in
theorem c_X8_kindUnder (g : vv_G) (S : vs_S) (m : Nat) (h : hT) (hX : sX S m h) (d : Nat) (hd : d < 6) (K : Nat → Nat) (hp : plX S m K) (k : Nat) (hk : k < 8) : vs_FI g yX8_kindUnder cX8_kindUnder 3 (some .int) 2 [vv_r g 54, .int (nI d), .int (nI k)] S (if h.1 d = 0 then -11 else if h.1 d = 1 ∧ un k 8 (K (h.2.1 d)) = true then nI (K (h.2.1 d)) else -12) S := by
  obtain ⟨ht6, h55, h56, h57⟩ := hX d hd
  have hm5 := hp.2.1
  refine vs_ofI (lv := [_, _, _]) mb_X8_kindUnder (Nat.le_of_ble_eq_true rfl) rfl (fun x C F => ?_)
  refine vv_aload_n C dX8_kindUnder_0 rfl ?_
  refine gf_X8_holds C dX8_kindUnder_1 fg_X8_11 ?_
  refine vv_iload_n C dX8_kindUnder_4 rfl ?_
  refine ld_55 C dX8_kindUnder_5 (xn_in (by omega) (by omega)) ?_
  refine vs_eqi (v9 := hc (h.1 d)) (by rw [xn_cl (by omega)]; exact h55) ?_
  refine vv_iconst C dX8_kindUnder_6 ic_m1 ?_
  refine vv_icmp_ne (tgt := 13) C dX8_kindUnder_7 (by decide) (fun q7 => ?_) (fun q7 => ?_)
  · have e0 : ¬ h.1 d = 0 := fun z => q7 ((hc_0 ht6).mpr z)
    refine vv_aload_n C dX8_kindUnder_13 rfl ?_
    refine vv_iload_n C dX8_kindUnder_14 rfl ?_
    refine vs_caliF C dX8_kindUnder_15 (c_X8_isRow g S m h hX d hd) mb_X8_isRow mv_X8_isRow lk_X8_44 ce_54 rfl rfl rfl rfl ⟨Nat.le_of_ble_eq_true rfl, Nat.le_of_ble_eq_true rfl, Nat.le_of_ble_eq_true rfl⟩ ?_
    refine vv_if_ne (tgt := 45) C dX8_kindUnder_18 (by decide) (fun q18 => ?_) (fun q18 => ?_)
    · have h2 : 2 ≤ h.1 d := of_decide_eq_true (vs_b1.mp q18)
      have hno : ¬ (h.1 d = 1 ∧ un k 8 (K (h.2.1 d)) = true) := fun z => by omega
      refine vv_bipush C dX8_kindUnder_45 bp_m12 ?_
      exact vs_iret C F dX8_kindUnder_47 rfl ⟨by rw [if_neg e0, if_neg hno], rfl⟩
    · have e1 : h.1 d = 1 := by have := of_decide_eq_false (vs_b0.mp q18); omega
      have hb := (h56 e1).2
      refine vv_aload_n C dX8_kindUnder_21 rfl ?_
      refine gf_X8_payments C dX8_kindUnder_22 fg_X8_30 ?_
      refine vv_aload_n C dX8_kindUnder_25 rfl ?_
      refine gf_X8_payments C dX8_kindUnder_26 fg_X8_30 ?_
      refine vv_aload_n C dX8_kindUnder_29 rfl ?_
      refine gf_X8_body C dX8_kindUnder_30 fg_X8_15 ?_
      refine vv_iload_n C dX8_kindUnder_33 rfl ?_
      refine ld_56 C dX8_kindUnder_34 (xn_in (by omega) (by omega)) ?_
      refine vs_eqi (v9 := nI (h.2.1 d)) (by rw [xn_cl (by omega)]; exact (h56 e1).1) ?_
      refine vs_caliF C dX8_kindUnder_35 (c_X4_kindOf g S _ (xn_in (by omega) (by omega))) mb_X4_kindOf mv_X4_kindOf lk_X8_69 ce_51 rfl rfl rfl rfl ⟨Nat.le_of_ble_eq_true rfl, Nat.le_of_ble_eq_true rfl, Nat.le_of_ble_eq_true rfl⟩ ?_
      refine vs_eqi (v9 := nI (K (h.2.1 d))) (by rw [xn_cl (by omega)]; exact (hp.2.2 _ hb).1) ?_
      refine vv_iload_n C dX8_kindUnder_38 rfl ?_
      refine vs_caliF C dX8_kindUnder_39 (c_X4_isUnder g S (K (h.2.1 d)) k (hp.2.2 _ hb).2 hk) mb_X4_isUnder mv_X4_isUnder lk_X8_75 ce_51 rfl rfl rfl rfl ⟨Nat.le_of_ble_eq_true rfl, Nat.le_of_ble_eq_true rfl, Nat.le_of_ble_eq_true rfl⟩ ?_
      refine vv_if_ne (tgt := 48) C dX8_kindUnder_42 (by decide) (fun q42 => ?_) (fun q42 => ?_)
      · have hyes : h.1 d = 1 ∧ un k 8 (K (h.2.1 d)) = true := ⟨e1, vs_b1.mp q42⟩
        refine vv_aload_n C dX8_kindUnder_48 rfl ?_
        refine gf_X8_payments C dX8_kindUnder_49 fg_X8_30 ?_
        refine vv_aload_n C dX8_kindUnder_52 rfl ?_
        refine gf_X8_body C dX8_kindUnder_53 fg_X8_15 ?_
        refine vv_iload_n C dX8_kindUnder_56 rfl ?_
        refine ld_56 C dX8_kindUnder_57 (xn_in (by omega) (by omega)) ?_
        refine vs_eqi (v9 := nI (h.2.1 d)) (by rw [xn_cl (by omega)]; exact (h56 e1).1) ?_
        refine vs_caliF C dX8_kindUnder_58 (c_X4_kindOf g S _ (xn_in (by omega) (by omega))) mb_X4_kindOf mv_X4_kindOf lk_X8_69 ce_51 rfl rfl rfl rfl ⟨Nat.le_of_ble_eq_true rfl, Nat.le_of_ble_eq_true rfl, Nat.le_of_ble_eq_true rfl⟩ ?_
        refine vs_eqi (v9 := nI (K (h.2.1 d))) (by rw [xn_cl (by omega)]; exact (hp.2.2 _ hb).1) ?_
        exact vs_iret C F dX8_kindUnder_61 rfl ⟨by rw [if_neg e0, if_pos hyes], rfl⟩
      · have hno : ¬ (h.1 d = 1 ∧ un k 8 (K (h.2.1 d)) = true) := fun z => by rw [vs_b0.mp q42] at z; cases z.2
        refine vv_bipush C dX8_kindUnder_45 bp_m12 ?_
        exact vs_iret C F dX8_kindUnder_47 rfl ⟨by rw [if_neg e0, if_neg hno], rfl⟩
  · have e0 := (hc_0 ht6).mp q7
    refine vv_bipush C dX8_kindUnder_10 bp_m11 ?_
    exact vs_iret C F dX8_kindUnder_12 rfl ⟨by rw [if_pos e0], rfl⟩
