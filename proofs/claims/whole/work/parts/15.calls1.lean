/-! what the calls answer, over what is lawful -/
def lw_ch (P : Nat → Bool) (n : Nat) : Nat → Nat → Int32
  | 0, _ => -2
  | f + 1, b => if (P b && P (n + b)) = true then nI b else lw_ch P n f (b + 1)
theorem lw_ch1 {P : Nat → Bool} {n f b : Nat} : lw_ch P n (f + 1) b = if (P b && P (n + b)) = true then nI b else lw_ch P n f (b + 1) := rfl
theorem vs_tt : (true && true) = true := rfl
def lw_th (P : Nat → Bool) (n : Nat) : Nat → Int32
  | 0 => -2
  | a + 1 => if a = 0 then -2 else if (P (a + 1) && P (n - (a + 1))) = true then nI (a + 1) else lw_th P n a
theorem lw_th0 {P : Nat → Bool} {n m : Nat} (h : m < 2) : lw_th P n m = -2 := by
  have : m = 0 ∨ m = 1 := by omega
  rcases this with e | e <;> (subst e; rfl)
theorem lw_th1 {P : Nat → Bool} {n m : Nat} (h : 2 ≤ m) : lw_th P n m = if (P m && P (n - m)) = true then nI m else lw_th P n (m - 1) := by
  cases m with
  | zero => omega
  | succ m =>
    show (if m = 0 then -2 else _) = _
    rw [if_neg (by omega)]
    rfl
def lw_mn (P : Nat → Bool) : Nat → Nat → Nat
  | 0, _ => 0
  | f + 1, m => (if P m = true then 1 else 0) + lw_mn P f (m + 1)
theorem lw_mn1 {P : Nat → Bool} {f m : Nat} : lw_mn P (f + 1) m = (if P m = true then 1 else 0) + lw_mn P f (m + 1) := rfl
def lw_gp (P : Nat → Bool) : Nat → Nat → Option Nat → Int32 → Int32 → Int32 × Int32
  | 0, _, _, u, w => (u, w)
  | f + 1, m, l, u, w => if P m = true then (match l with
      | none => lw_gp P f (m + 1) (some m) u w
      | some z => if u < nI (m - z) then lw_gp P f (m + 1) (some m) (nI (m - z)) (nI z) else lw_gp P f (m + 1) (some m) u w) else lw_gp P f (m + 1) l u w
def lw_step (v : Int32) : Int32 := v + (if v < 10 then 1 else v / 10)
def lw_rent (P : Nat → Bool) : Nat → Int32 → Int32
  | 0, v => v
  | k + 1, v => lw_rent P k (lw_next P (lw_step v).toNatClampNeg)
theorem lw_neg10 {v : Int32} (h : v < 0) : (v / 10).toInt ≤ 0 := by
  have h0 := Int32.lt_iff_toInt_lt.mp h
  have e0 : (0 : Int32).toInt = 0 := rfl
  have h1 := Int32.le_toInt v
  obtain ⟨m, hm⟩ : ∃ m : Nat, v.toInt = -(m : Int) := ⟨(-v.toInt).toNat, by omega⟩
  rw [Int32.toInt_div, hm, Int.neg_tdiv]
  show (-((m : Int).tdiv ((10 : Nat) : Int))).bmod (2 ^ 32) ≤ 0
  rw [← Int.ofNat_tdiv, Int.bmod_eq_of_le_mul_two (by omega) (by omega)]
  omega
theorem lw_step2 {v : Int32} : v + (if 1 < v / 10 then v / 10 else 1) = lw_step v := by
  unfold lw_step
  congr 1
  have e1 : (1 : Int32).toInt = 1 := rfl
  by_cases h0 : v < 0
  · have h1 := lw_neg10 h0
    rw [if_neg (fun z => by have := Int32.lt_iff_toInt_lt.mp z; omega), if_pos (Int32.lt_trans h0 (by decide))]
  · obtain ⟨k, hk, e⟩ := nI_of h0
    subst e
    have e10 : nI k / 10 = nI (k / 10) := by rw [xn_lit, xn_div hk (by omega)]
    rw [e10]
    have c1 : nI k < (10 : Int32) ↔ k < 10 := by rw [xn_lit, xn_lt hk (by omega)]
    have c2 : (1 : Int32) < nI (k / 10) ↔ 1 < k / 10 := by rw [xn_lit, xn_lt (by omega) (by omega)]
    by_cases h : k < 10
    · rw [if_pos (c1.mpr h), if_neg (fun z => by have := c2.mp z; omega)]
    · rw [if_neg (fun z => h (c1.mp z))]
      by_cases h3 : k / 10 = 1
      · rw [h3, if_neg (by decide)]; rfl
      · rw [if_pos (c2.mpr (by omega))]
/-! longs of ints -/
theorem xi_le (a b : Int32) : a.toInt64 ≤ b.toInt64 ↔ a ≤ b := by
  rw [Int64.le_iff_toInt_le, Int32.le_iff_toInt_le, Int32.toInt_toInt64, Int32.toInt_toInt64]
theorem xi_dec (a b : Int32) : decide (a.toInt64 ≤ b.toInt64) = decide (a ≤ b) := by
  by_cases h : a ≤ b
  · rw [decide_eq_true h, decide_eq_true ((xi_le a b).mpr h)]
  · rw [decide_eq_false h, decide_eq_false (fun z => h ((xi_le a b).mp z))]
def vs_w (n lo hi : Int32) : Bool := decide (lo ≤ n) && decide (n ≤ hi)
theorem vs_wT {n lo hi : Int32} (h : vs_w n lo hi = true) : lo ≤ n ∧ n ≤ hi := by
  unfold vs_w at h
  simp only [Bool.and_eq_true, decide_eq_true_eq] at h
  exact h
theorem vs_wN {n : Int32} {a b : Nat} (ha : a < 2 ^ 31) (hb : b < 2 ^ 31) (h : vs_w n (nI a) (nI b) = true) : ∃ k, a ≤ k ∧ k ≤ b ∧ n = nI k := by
  obtain ⟨h1, h2⟩ := vs_wT h
  obtain ⟨k, h3, h4⟩ := xn_of hb (Int32.le_trans (nI_pos' ha) h1) h2
  subst h4
  rw [xn_le ha (by omega)] at h1
  exact ⟨k, h1, h3, rfl⟩

set_option maxRecDepth 20000 in
theorem c_X12_within (g : vv_G) (S : vs_S) (n lo hi : Int32) : vs_FI g yX12_within cX12_within 6 (some .boolean) 1 [.long n.toInt64, .long lo.toInt64, .long hi.toInt64] S (vs_b (vs_w n lo hi)) S := by
  refine vs_ofI (lv := [_, _, _, _, _, _]) mb_X12_within (Nat.le_of_ble_eq_true rfl) rfl (fun x C F => ?_)
  refine vv_lload_n C dX12_within_0 rfl ?_
  refine vv_lload_n C dX12_within_1 rfl ?_
  refine vv_lcmp C dX12_within_2 ?_
  refine vv_if_lt (tgt := 17) C dX12_within_3 (by decide) (fun q3 => ?_) (fun q3 => ?_)
  · refine vv_iconst C dX12_within_17 ic_0 ?_
    exact vs_zret C F dX12_within_18 rfl rfl ⟨by unfold vs_w; rw [← xi_dec, ← xi_dec]; first | (have z := (lg_cmp_lt _ _).mp q3; rw [decide_eq_false (Int64.not_le.mpr z)]; rfl) | (have z := (lg_cmp_gt _ _).mp q10; rw [decide_eq_false (p := n.toInt64 ≤ hi.toInt64) (Int64.not_le.mpr z), Bool.and_false]; rfl) | (rw [decide_eq_true (Int64.not_lt.mp (fun z => q3 ((lg_cmp_lt _ _).mpr z))), decide_eq_true (Int64.not_lt.mp (fun z => q10 ((lg_cmp_gt _ _).mpr z)))]; rfl), rfl⟩
  · refine vv_lload_n C dX12_within_6 rfl ?_
    refine vv_lload C dX12_within_7 rfl ?_
    refine vv_lcmp C dX12_within_9 ?_
    refine vv_if_gt (tgt := 17) C dX12_within_10 (by decide) (fun q10 => ?_) (fun q10 => ?_)
    · refine vv_iconst C dX12_within_17 ic_0 ?_
      exact vs_zret C F dX12_within_18 rfl rfl ⟨by unfold vs_w; rw [← xi_dec, ← xi_dec]; first | (have z := (lg_cmp_lt _ _).mp q3; rw [decide_eq_false (Int64.not_le.mpr z)]; rfl) | (have z := (lg_cmp_gt _ _).mp q10; rw [decide_eq_false (p := n.toInt64 ≤ hi.toInt64) (Int64.not_le.mpr z), Bool.and_false]; rfl) | (rw [decide_eq_true (Int64.not_lt.mp (fun z => q3 ((lg_cmp_lt _ _).mpr z))), decide_eq_true (Int64.not_lt.mp (fun z => q10 ((lg_cmp_gt _ _).mpr z)))]; rfl), rfl⟩
    · refine vv_iconst C dX12_within_13 ic_1 ?_
      refine vv_goto (tgt := 18) C dX12_within_14 (by decide) ?_
      exact vs_zret C F dX12_within_18 rfl rfl ⟨by unfold vs_w; rw [← xi_dec, ← xi_dec]; first | (have z := (lg_cmp_lt _ _).mp q3; rw [decide_eq_false (Int64.not_le.mpr z)]; rfl) | (have z := (lg_cmp_gt _ _).mp q10; rw [decide_eq_false (p := n.toInt64 ≤ hi.toInt64) (Int64.not_le.mpr z), Bool.and_false]; rfl) | (rw [decide_eq_true (Int64.not_lt.mp (fun z => q3 ((lg_cmp_lt _ _).mpr z))), decide_eq_true (Int64.not_lt.mp (fun z => q10 ((lg_cmp_gt _ _).mpr z)))]; rfl), rfl⟩
set_option maxRecDepth 20000 in
theorem c_X12_isHalf (g : vv_G) (S : vs_S) (n : Int32) : vs_FI g yX12_isHalf cX12_isHalf 1 (some .boolean) 2 [.int n] S (vs_b (vs_w n 0 999999)) S := by
  refine vs_ofI (lv := [_]) mb_X12_isHalf (Nat.le_of_ble_eq_true rfl) rfl (fun x C F => ?_)
  refine vv_iload_n C dX12_isHalf_0 rfl ?_
  refine vv_i2l C dX12_isHalf_1 ?_
  refine vv_lconst C dX12_isHalf_2 lc_0 ?_
  refine vs_eql (v9 := (0 : Int32).toInt64) (by decide +kernel) ?_
  refine vv_ldc2 C dX12_isHalf_3 kc_X12_127 ?_
  refine vs_eql (v9 := (999999 : Int32).toInt64) (by decide +kernel) ?_
  refine vs_calsiF C dX12_isHalf_6 (c_X12_within g S _ _ _) mb_X12_within ms_X12_within lk_X12_123 rfl rfl ⟨Nat.le_of_ble_eq_true rfl, Nat.le_of_ble_eq_true rfl, Nat.le_of_ble_eq_true rfl⟩ ?_
  exact vs_zret C F dX12_isHalf_9 rfl vs_bz ⟨rfl, rfl⟩
set_option maxRecDepth 20000 in
theorem c_X12_isPerson (g : vv_G) (S : vs_S) (n : Int32) : vs_FI g yX12_isPerson cX12_isPerson 1 (some .boolean) 2 [.int n] S (vs_b (vs_w n 0 7)) S := by
  refine vs_ofI (lv := [_]) mb_X12_isPerson (Nat.le_of_ble_eq_true rfl) rfl (fun x C F => ?_)
  refine vv_iload_n C dX12_isPerson_0 rfl ?_
  refine vv_i2l C dX12_isPerson_1 ?_
  refine vv_lconst C dX12_isPerson_2 lc_0 ?_
  refine vs_eql (v9 := (0 : Int32).toInt64) (by decide +kernel) ?_
  refine vv_ldc2 C dX12_isPerson_3 kc_X12_278 ?_
  refine vs_eql (v9 := (7 : Int32).toInt64) (by decide +kernel) ?_
  refine vs_calsiF C dX12_isPerson_6 (c_X12_within g S _ _ _) mb_X12_within ms_X12_within lk_X12_123 rfl rfl ⟨Nat.le_of_ble_eq_true rfl, Nat.le_of_ble_eq_true rfl, Nat.le_of_ble_eq_true rfl⟩ ?_
  exact vs_zret C F dX12_isPerson_9 rfl vs_bz ⟨rfl, rfl⟩
set_option maxRecDepth 20000 in
theorem c_X12_isShelf (g : vv_G) (S : vs_S) (n : Int32) : vs_FI g yX12_isShelf cX12_isShelf 1 (some .boolean) 2 [.int n] S (vs_b (vs_w n 0 5)) S := by
  refine vs_ofI (lv := [_]) mb_X12_isShelf (Nat.le_of_ble_eq_true rfl) rfl (fun x C F => ?_)
  refine vv_iload_n C dX12_isShelf_0 rfl ?_
  refine vv_i2l C dX12_isShelf_1 ?_
  refine vv_lconst C dX12_isShelf_2 lc_0 ?_
  refine vs_eql (v9 := (0 : Int32).toInt64) (by decide +kernel) ?_
  refine vv_ldc2 C dX12_isShelf_3 kc_X12_94 ?_
  refine vs_eql (v9 := (5 : Int32).toInt64) (by decide +kernel) ?_
  refine vs_calsiF C dX12_isShelf_6 (c_X12_within g S _ _ _) mb_X12_within ms_X12_within lk_X12_123 rfl rfl ⟨Nat.le_of_ble_eq_true rfl, Nat.le_of_ble_eq_true rfl, Nat.le_of_ble_eq_true rfl⟩ ?_
  exact vs_zret C F dX12_isShelf_9 rfl vs_bz ⟨rfl, rfl⟩
set_option maxRecDepth 20000 in
theorem c_X12_isCoin (g : vv_G) (S : vs_S) (n : Int32) : vs_FI g yX12_isCoin cX12_isCoin 2 (some .boolean) 2 [vv_r g 65, .int n] S (vs_b (vs_w n 0 (S.1 26 - 1))) S := by
  refine vs_ofI (lv := [_, _]) mb_X12_isCoin (Nat.le_of_ble_eq_true rfl) rfl (fun x C F => ?_)
  refine vv_iload_n C dX12_isCoin_0 rfl ?_
  refine vv_i2l C dX12_isCoin_1 ?_
  refine vv_lconst C dX12_isCoin_2 lc_0 ?_
  refine vs_eql (v9 := (0 : Int32).toInt64) (by decide +kernel) ?_
  refine vv_aload_n C dX12_isCoin_3 rfl ?_
  refine gf_X12_coinMany C dX12_isCoin_4 fg_X12_174 ?_
  refine vv_iconst C dX12_isCoin_7 ic_1 ?_
  refine vv_isub C dX12_isCoin_8 ?_
  refine vv_i2l C dX12_isCoin_9 ?_
  refine vs_calsiF C dX12_isCoin_10 (c_X12_within g S _ _ _) mb_X12_within ms_X12_within lk_X12_123 rfl rfl ⟨Nat.le_of_ble_eq_true rfl, Nat.le_of_ble_eq_true rfl, Nat.le_of_ble_eq_true rfl⟩ ?_
  exact vs_zret C F dX12_isCoin_13 rfl vs_bz ⟨rfl, rfl⟩
set_option maxRecDepth 20000 in
theorem c_X12_isBody (g : vv_G) (S : vs_S) (n : Int32) : vs_FI g yX12_isBody cX12_isBody 2 (some .boolean) 2 [vv_r g 65, .int n] S (vs_b (vs_w n 0 (S.1 37 - 1))) S := by
  refine vs_ofI (lv := [_, _]) mb_X12_isBody (Nat.le_of_ble_eq_true rfl) rfl (fun x C F => ?_)
  refine vv_iload_n C dX12_isBody_0 rfl ?_
  refine vv_i2l C dX12_isBody_1 ?_
  refine vv_lconst C dX12_isBody_2 lc_0 ?_
  refine vs_eql (v9 := (0 : Int32).toInt64) (by decide +kernel) ?_
  refine vv_aload_n C dX12_isBody_3 rfl ?_
  refine gf_X12_bodies C dX12_isBody_4 fg_X12_314 ?_
  refine vv_iconst C dX12_isBody_7 ic_1 ?_
  refine vv_isub C dX12_isBody_8 ?_
  refine vv_i2l C dX12_isBody_9 ?_
  refine vs_calsiF C dX12_isBody_10 (c_X12_within g S _ _ _) mb_X12_within ms_X12_within lk_X12_123 rfl rfl ⟨Nat.le_of_ble_eq_true rfl, Nat.le_of_ble_eq_true rfl, Nat.le_of_ble_eq_true rfl⟩ ?_
  exact vs_zret C F dX12_isBody_13 rfl vs_bz ⟨rfl, rfl⟩
set_option maxRecDepth 20000 in
theorem c_X12_areEnds (g : vv_G) (S : vs_S) (a b : Int32) : vs_FI g yX12_areEnds cX12_areEnds 2 (some .boolean) 1 [.int a, .int b] S (vs_b ((decide (0 ≤ a) && decide (a ≤ b)) && decide (b ≤ 100000))) S := by
  refine vs_ofI (lv := [_, _]) mb_X12_areEnds (Nat.le_of_ble_eq_true rfl) rfl (fun x C F => ?_)
  refine vv_iload_n C dX12_areEnds_0 rfl ?_
  refine vv_if_lt (tgt := 19) C dX12_areEnds_1 (by decide) (fun q1 => ?_) (fun q1 => ?_)
  · refine vv_iconst C dX12_areEnds_19 ic_0 ?_
    exact vs_zret C F dX12_areEnds_20 rfl rfl ⟨by simp [vs_b, ← Int32.not_lt, *], rfl⟩
  · refine vv_iload_n C dX12_areEnds_4 rfl ?_
    refine vv_iload_n C dX12_areEnds_5 rfl ?_
    refine vv_icmp_gt (tgt := 19) C dX12_areEnds_6 (by decide) (fun q6 => ?_) (fun q6 => ?_)
    · refine vv_iconst C dX12_areEnds_19 ic_0 ?_
      exact vs_zret C F dX12_areEnds_20 rfl rfl ⟨by simp [vs_b, ← Int32.not_lt, *], rfl⟩
    · refine vv_iload_n C dX12_areEnds_9 rfl ?_
      refine vv_ldc C dX12_areEnds_10 kc_X12_203 ?_
      refine vv_icmp_gt (tgt := 19) C dX12_areEnds_12 (by decide) (fun q12 => ?_) (fun q12 => ?_)
      · refine vv_iconst C dX12_areEnds_19 ic_0 ?_
        exact vs_zret C F dX12_areEnds_20 rfl rfl ⟨by simp [vs_b, ← Int32.not_lt, *], rfl⟩
      · refine vv_iconst C dX12_areEnds_15 ic_1 ?_
        refine vv_goto (tgt := 20) C dX12_areEnds_16 (by decide) ?_
        exact vs_zret C F dX12_areEnds_20 rfl rfl ⟨by simp [vs_b, ← Int32.not_lt, *], rfl⟩
/-- both sides' bounds of a walk are the same -/
theorem vs_ends (a b : Int32) : ((decide (0 ≤ a) && decide (a ≤ 100000)) && (decide (a ≤ b) && decide (b ≤ 100000))) = ((decide (0 ≤ a) && decide (a ≤ b)) && decide (b ≤ 100000)) := by
  by_cases h1 : a ≤ b
  · by_cases h2 : b ≤ 100000
    · rw [decide_eq_true h1, decide_eq_true h2, decide_eq_true (Int32.le_trans h1 h2)]
      cases decide (0 ≤ a) <;> rfl
    · rw [decide_eq_true h1, decide_eq_false h2]
      cases decide (0 ≤ a) <;> cases decide (a ≤ 100000) <;> rfl
  · rw [decide_eq_false h1]
    cases decide (0 ≤ a) <;> cases decide (a ≤ 100000) <;> cases decide (b ≤ 100000) <;> rfl
set_option maxRecDepth 20000 in
theorem c_X12_isAb (g : vv_G) (S : vs_S) (n : Int32) : vs_FI g yX12_isAb cX12_isAb 1 (some .boolean) 3 [.int n] S (vs_b (((decide (0 ≤ n) && vs_w (n / 10) 0 7) && vs_w (n % 10) 0 7) && !(decide (n / 10 = n % 10)))) S := by
  refine vs_ofI (lv := [_]) mb_X12_isAb (Nat.le_of_ble_eq_true rfl) rfl (fun x C F => ?_)
  refine vv_iload_n C dX12_isAb_0 rfl ?_
  refine vv_if_lt (tgt := 39) C dX12_isAb_1 (by decide) (fun q1 => ?_) (fun q1 => ?_)
  · refine vv_iconst C dX12_isAb_39 ic_0 ?_
    exact vs_zret C F dX12_isAb_40 rfl rfl ⟨by clear C F; (try simp only [vs_b0, vs_b1] at *); simp [vs_b, ← Int32.not_lt, *], rfl⟩
  · refine vv_iload_n C dX12_isAb_4 rfl ?_
    refine vv_bipush C dX12_isAb_5 bp_10 ?_
    refine vv_idiv C dX12_isAb_7 (by decide) ?_
    refine vs_calsiF C dX12_isAb_8 (c_X12_isPerson g S _) mb_X12_isPerson ms_X12_isPerson lk_X12_280 rfl rfl ⟨Nat.le_of_ble_eq_true rfl, Nat.le_of_ble_eq_true rfl, Nat.le_of_ble_eq_true rfl⟩ ?_
    refine vv_if_eq (tgt := 39) C dX12_isAb_11 (by decide) (fun q11 => ?_) (fun q11 => ?_)
    · refine vv_iconst C dX12_isAb_39 ic_0 ?_
      exact vs_zret C F dX12_isAb_40 rfl rfl ⟨by clear C F; (try simp only [vs_b0, vs_b1] at *); simp [vs_b, ← Int32.not_lt, *], rfl⟩
    · refine vv_iload_n C dX12_isAb_14 rfl ?_
      refine vv_bipush C dX12_isAb_15 bp_10 ?_
      refine vv_irem C dX12_isAb_17 (by decide) ?_
      refine vs_calsiF C dX12_isAb_18 (c_X12_isPerson g S _) mb_X12_isPerson ms_X12_isPerson lk_X12_280 rfl rfl ⟨Nat.le_of_ble_eq_true rfl, Nat.le_of_ble_eq_true rfl, Nat.le_of_ble_eq_true rfl⟩ ?_
      refine vv_if_eq (tgt := 39) C dX12_isAb_21 (by decide) (fun q21 => ?_) (fun q21 => ?_)
      · refine vv_iconst C dX12_isAb_39 ic_0 ?_
        exact vs_zret C F dX12_isAb_40 rfl rfl ⟨by clear C F; (try simp only [vs_b0, vs_b1] at *); simp [vs_b, ← Int32.not_lt, *], rfl⟩
      · refine vv_iload_n C dX12_isAb_24 rfl ?_
        refine vv_bipush C dX12_isAb_25 bp_10 ?_
        refine vv_idiv C dX12_isAb_27 (by decide) ?_
        refine vv_iload_n C dX12_isAb_28 rfl ?_
        refine vv_bipush C dX12_isAb_29 bp_10 ?_
        refine vv_irem C dX12_isAb_31 (by decide) ?_
        refine vv_icmp_eq (tgt := 39) C dX12_isAb_32 (by decide) (fun q32 => ?_) (fun q32 => ?_)
        · refine vv_iconst C dX12_isAb_39 ic_0 ?_
          exact vs_zret C F dX12_isAb_40 rfl rfl ⟨by clear C F; (try simp only [vs_b0, vs_b1] at *); simp [vs_b, ← Int32.not_lt, *], rfl⟩
        · refine vv_iconst C dX12_isAb_35 ic_1 ?_
          refine vv_goto (tgt := 40) C dX12_isAb_36 (by decide) ?_
          exact vs_zret C F dX12_isAb_40 rfl rfl ⟨by clear C F; (try simp only [vs_b0, vs_b1] at *); simp [vs_b, ← Int32.not_lt, *], rfl⟩
set_option maxRecDepth 20000 in
theorem c_X0_isPair (g : vv_G) (S : vs_S) (n : Int32) : vs_FI g yX0_isPair cX0_isPair 1 (some .boolean) 1 [.int n] S (vs_b (((!(decide (n < 0)) && !(decide (8 ≤ n / 10))) && !(decide (8 ≤ n % 10))) && !(decide (n / 10 = n % 10)))) S := by
  refine vs_ofI (lv := [_]) mb_X0_isPair (Nat.le_of_ble_eq_true rfl) rfl (fun x C F => ?_)
  refine vv_iload_n C dX0_isPair_0 rfl ?_
  refine vv_if_lt (tgt := 37) C dX0_isPair_1 (by decide) (fun q1 => ?_) (fun q1 => ?_)
  · refine vv_iconst C dX0_isPair_37 ic_0 ?_
    exact vs_zret C F dX0_isPair_38 rfl rfl ⟨by clear C F; simp [vs_b, -Int32.not_lt, -Int32.not_le, *], rfl⟩
  · refine vv_iload_n C dX0_isPair_4 rfl ?_
    refine vv_bipush C dX0_isPair_5 bp_10 ?_
    refine vv_idiv C dX0_isPair_7 (by decide) ?_
    refine vv_bipush C dX0_isPair_8 bp_8 ?_
    refine vv_icmp_ge (tgt := 37) C dX0_isPair_10 (by decide) (fun q10 => ?_) (fun q10 => ?_)
    · refine vv_iconst C dX0_isPair_37 ic_0 ?_
      exact vs_zret C F dX0_isPair_38 rfl rfl ⟨by clear C F; simp [vs_b, -Int32.not_lt, -Int32.not_le, *], rfl⟩
    · refine vv_iload_n C dX0_isPair_13 rfl ?_
      refine vv_bipush C dX0_isPair_14 bp_10 ?_
      refine vv_irem C dX0_isPair_16 (by decide) ?_
      refine vv_bipush C dX0_isPair_17 bp_8 ?_
      refine vv_icmp_ge (tgt := 37) C dX0_isPair_19 (by decide) (fun q19 => ?_) (fun q19 => ?_)
      · refine vv_iconst C dX0_isPair_37 ic_0 ?_
        exact vs_zret C F dX0_isPair_38 rfl rfl ⟨by clear C F; simp [vs_b, -Int32.not_lt, -Int32.not_le, *], rfl⟩
      · refine vv_iload_n C dX0_isPair_22 rfl ?_
        refine vv_bipush C dX0_isPair_23 bp_10 ?_
        refine vv_idiv C dX0_isPair_25 (by decide) ?_
        refine vv_iload_n C dX0_isPair_26 rfl ?_
        refine vv_bipush C dX0_isPair_27 bp_10 ?_
        refine vv_irem C dX0_isPair_29 (by decide) ?_
        refine vv_icmp_eq (tgt := 37) C dX0_isPair_30 (by decide) (fun q30 => ?_) (fun q30 => ?_)
        · refine vv_iconst C dX0_isPair_37 ic_0 ?_
          exact vs_zret C F dX0_isPair_38 rfl rfl ⟨by clear C F; simp [vs_b, -Int32.not_lt, -Int32.not_le, *], rfl⟩
        · refine vv_iconst C dX0_isPair_33 ic_1 ?_
          refine vv_goto (tgt := 38) C dX0_isPair_34 (by decide) ?_
          exact vs_zret C F dX0_isPair_38 rfl rfl ⟨by clear C F; simp [vs_b, -Int32.not_lt, -Int32.not_le, *], rfl⟩
set_option maxRecDepth 20000 in
theorem c_X11_change (g : vv_G) (S : vs_S) (hS : nx_ok S) (law : Nat) (hl : law ≤ 3) (hs : S.1 0 = nI law) (n : Int32) : vs_FI g yX11_change cX11_change 3 (some .int) 5 [vv_r g 0, .int n] S (if vs_w n 1 2000 = true then lw_ch (np_lx law) n.toNatClampNeg 2000 1 else -1) S := by
  refine vs_ofI (lv := [_, _, _]) mb_X11_change (Nat.le_of_ble_eq_true rfl) rfl (fun x C F => ?_)
  refine vv_iload_n C dX11_change_0 rfl ?_
  refine vv_iconst C dX11_change_1 ic_1 ?_
  refine vv_sipush C dX11_change_2 sp_2000 ?_
  refine vs_calsiF C dX11_change_5 (c_X11_within g S _ _ _) mb_X11_within ms_X11_within lk_X11_94 rfl rfl ⟨Nat.le_of_ble_eq_true rfl, Nat.le_of_ble_eq_true rfl, Nat.le_of_ble_eq_true rfl⟩ ?_
  refine vv_if_ne (tgt := 13) C dX11_change_8 (by decide) (fun q8 => ?_) (fun q8 => ?_)
  · have hw : vs_w n 1 2000 = true := vs_b1.mp q8
    obtain ⟨k, k1, k2, k3⟩ := vs_wN (a := 1) (b := 2000) (by omega) (by omega) hw
    subst k3
    have loop : ∀ (f b : Nat), b + f = 2001 → 1 ≤ b → lw_ch (np_lx law) k f b = lw_ch (np_lx law) k 2000 1 → vv_V g x 3 0 0 15 [some (vv_r g 0), some (.int (nI k)), some (.int (nI b))] [] (vs_cells g S) := by
      intro f
      induction f with
      | zero =>
        intro b h1 h2 he
        have hb : b = 2001 := by omega
        subst hb
        refine vv_iload_n C dX11_change_15 rfl ?_
        refine vv_sipush C dX11_change_16 sp_2000 ?_
        refine vv_icmp_gt (tgt := 56) C dX11_change_19 (by decide) (fun q19 => ?_) (fun q19 => ?_)
        · refine vv_bipush C dX11_change_56 bp_m2 ?_
          exact vs_iret C F dX11_change_58 rfl ⟨by rw [if_pos hw, xn_cl (by omega), ← he]; rfl, rfl⟩
        · exact absurd (by decide +kernel : (2000 : Int32) < nI 2001) q19
      | succ f ih =>
        intro b h1 h2 he
        have go : lw_ch (np_lx law) k f (b + 1) = lw_ch (np_lx law) k 2000 1 → vv_V g x 3 0 0 50 [some (vv_r g 0), some (.int (nI k)), some (.int (nI b))] [] (vs_cells g S) := by
          intro he
          refine vw_iinc (lv9 := [_, _, _]) C dX11_change_50 rfl ic_1 (by decide) rfl rfl ?_
          refine vv_goto (tgt := 15) C dX11_change_53 (by decide) ?_
          rw [nI_1]
          exact ih (b + 1) (by omega) (by omega) he
        rw [lw_ch1 (f := f) (b := b)] at he
        refine vv_iload_n C dX11_change_15 rfl ?_
        refine vv_sipush C dX11_change_16 sp_2000 ?_
        refine vv_icmp_gt (tgt := 56) C dX11_change_19 (by decide) (fun q19 => ?_) (fun q19 => ?_)
        · exact absurd q19 (by rw [xn_lit, xn_lt (by omega) (by omega)]; omega)
        · refine vv_aload_n C dX11_change_22 rfl ?_
          refine gf_X11_laws C dX11_change_23 fg_X11_21 ?_
          refine vv_iload_n C dX11_change_26 rfl ?_
          refine vv_i2l C dX11_change_27 ?_
          refine vs_eql (v9 := lN b) (xn_i2l (by omega)) ?_
          refine vs_caliF C dX11_change_28 (c_X1_isLawful g S hS law hl hs b (by omega)) mb_X1_isLawful mv_X1_isLawful lk_X11_114 ce_4 rfl rfl rfl rfl ⟨Nat.le_of_ble_eq_true rfl, Nat.le_of_ble_eq_true rfl, Nat.le_of_ble_eq_true rfl⟩ ?_
          refine vv_if_eq (tgt := 50) C dX11_change_31 (by decide) (fun q31 => ?_) (fun q31 => ?_)
          · exact go (by rw [vs_b0.mp q31] at he; exact he)
          · refine vv_aload_n C dX11_change_34 rfl ?_
            refine gf_X11_laws C dX11_change_35 fg_X11_21 ?_
            refine vv_iload_n C dX11_change_38 rfl ?_
            refine vv_iload_n C dX11_change_39 rfl ?_
            refine vv_iadd C dX11_change_40 ?_
            refine vs_eqi (v9 := nI (k + b)) (nI_add k b) ?_
            refine vv_i2l C dX11_change_41 ?_
            refine vs_eql (v9 := lN (k + b)) (xn_i2l (by omega)) ?_
            refine vs_caliF C dX11_change_42 (c_X1_isLawful g S hS law hl hs (k + b) (by omega)) mb_X1_isLawful mv_X1_isLawful lk_X11_114 ce_4 rfl rfl rfl rfl ⟨Nat.le_of_ble_eq_true rfl, Nat.le_of_ble_eq_true rfl, Nat.le_of_ble_eq_true rfl⟩ ?_
            refine vv_if_eq (tgt := 50) C dX11_change_45 (by decide) (fun q45 => ?_) (fun q45 => ?_)
            · exact go (by rw [vs_b0.mp q45, Bool.and_false] at he; exact he)
            · refine vv_iload_n C dX11_change_48 rfl ?_
              exact vs_iret C F dX11_change_49 rfl ⟨by rw [if_pos hw, xn_cl (by omega), ← he, vs_b1.mp q31, vs_b1.mp q45]; rfl, rfl⟩
    refine vv_iconst C dX11_change_13 ic_1 ?_
    refine vw_istore_n (lv9 := [_, _, _]) C dX11_change_14 (by decide) rfl rfl ?_
    exact loop 2000 1 (by omega) (by omega) rfl
  · refine vv_iconst C dX11_change_11 ic_m1 ?_
    exact vs_iret C F dX11_change_12 rfl ⟨by rw [show vs_w n 1 2000 = false from vs_b0.mp q8]; rfl, rfl⟩
set_option maxRecDepth 20000 in
theorem c_X11_third (g : vv_G) (S : vs_S) (hS : nx_ok S) (law : Nat) (hl : law ≤ 3) (hs : S.1 0 = nI law) (n : Int32) : vs_FI g yX11_third cX11_third 3 (some .int) 5 [vv_r g 0, .int n] S (if vs_w n 1 100000 = true then lw_th (np_lx law) n.toNatClampNeg (n.toNatClampNeg / 2) else -1) S := by
  refine vs_ofI (lv := [_, _, _]) mb_X11_third (Nat.le_of_ble_eq_true rfl) rfl (fun x C F => ?_)
  refine vv_iload_n C dX11_third_0 rfl ?_
  refine vv_iconst C dX11_third_1 ic_1 ?_
  refine vv_ldc C dX11_third_2 kc_X11_175 ?_
  refine vs_calsiF C dX11_third_4 (c_X11_within g S _ _ _) mb_X11_within ms_X11_within lk_X11_94 rfl rfl ⟨Nat.le_of_ble_eq_true rfl, Nat.le_of_ble_eq_true rfl, Nat.le_of_ble_eq_true rfl⟩ ?_
  refine vv_if_ne (tgt := 12) C dX11_third_7 (by decide) (fun q7 => ?_) (fun q7 => ?_)
  · have hw : vs_w n 1 100000 = true := vs_b1.mp q7
    obtain ⟨k, k1, k2, k3⟩ := vs_wN (a := 1) (b := 100000) (by omega) (by omega) hw
    subst k3
    have loop : ∀ (a : Nat), a ≤ k → lw_th (np_lx law) k a = lw_th (np_lx law) k (k / 2) → vv_V g x 3 0 0 16 [some (vv_r g 0), some (.int (nI k)), some (.int (nI a))] [] (vs_cells g S) := by
      intro a
      induction a with
      | zero =>
        intro h1 he
        refine vv_iload_n C dX11_third_16 rfl ?_
        refine vv_iconst C dX11_third_17 ic_2 ?_
        refine vv_icmp_lt (tgt := 55) C dX11_third_18 (by decide) (fun q18 => ?_) (fun q18 => ?_)
        · refine vv_bipush C dX11_third_55 bp_m2 ?_
          exact vs_iret C F dX11_third_57 rfl ⟨by rw [if_pos hw, xn_cl (by omega), ← he]; rfl, rfl⟩
        · exact absurd (by decide +kernel : nI 0 < (2 : Int32)) q18
      | succ a ih =>
        intro h1 he
        have go : lw_th (np_lx law) k a = lw_th (np_lx law) k (k / 2) → vv_V g x 3 0 0 49 [some (vv_r g 0), some (.int (nI k)), some (.int (nI (a + 1)))] [] (vs_cells g S) := by
          intro he
          refine vw_iinc (lv9 := [_, _, _]) C dX11_third_49 rfl ic_m1 (by decide) rfl rfl ?_
          refine vv_goto (tgt := 16) C dX11_third_52 (by decide) ?_
          rw [pk_m1]
          exact ih (by omega) he
        refine vv_iload_n C dX11_third_16 rfl ?_
        refine vv_iconst C dX11_third_17 ic_2 ?_
        refine vv_icmp_lt (tgt := 55) C dX11_third_18 (by decide) (fun q18 => ?_) (fun q18 => ?_)
        · have hm : a + 1 < 2 := by rw [xn_lit, xn_lt (by omega) (by omega)] at q18; exact q18
          rw [lw_th0 hm] at he
          refine vv_bipush C dX11_third_55 bp_m2 ?_
          exact vs_iret C F dX11_third_57 rfl ⟨by rw [if_pos hw, xn_cl (by omega), ← he], rfl⟩
        · have hm : 2 ≤ a + 1 := by rw [xn_lit, xn_lt (by omega) (by omega)] at q18; omega
          rw [lw_th1 hm] at he
          refine vv_aload_n C dX11_third_21 rfl ?_
          refine gf_X11_laws C dX11_third_22 fg_X11_21 ?_
          refine vv_iload_n C dX11_third_25 rfl ?_
          refine vv_i2l C dX11_third_26 ?_
          refine vs_eql (v9 := lN (a + 1)) (xn_i2l (by omega)) ?_
          refine vs_caliF C dX11_third_27 (c_X1_isLawful g S hS law hl hs (a + 1) (by omega)) mb_X1_isLawful mv_X1_isLawful lk_X11_114 ce_4 rfl rfl rfl rfl ⟨Nat.le_of_ble_eq_true rfl, Nat.le_of_ble_eq_true rfl, Nat.le_of_ble_eq_true rfl⟩ ?_
          refine vv_if_eq (tgt := 49) C dX11_third_30 (by decide) (fun q30 => ?_) (fun q30 => ?_)
          · exact go (by rw [vs_b0.mp q30] at he; exact he)
          · refine vv_aload_n C dX11_third_33 rfl ?_
            refine gf_X11_laws C dX11_third_34 fg_X11_21 ?_
            refine vv_iload_n C dX11_third_37 rfl ?_
            refine vv_iload_n C dX11_third_38 rfl ?_
            refine vv_isub C dX11_third_39 ?_
            refine vs_eqi (v9 := nI (k - (a + 1))) (xn_sub (by omega)) ?_
            refine vv_i2l C dX11_third_40 ?_
            refine vs_eql (v9 := lN (k - (a + 1))) (xn_i2l (by omega)) ?_
            refine vs_caliF C dX11_third_41 (c_X1_isLawful g S hS law hl hs (k - (a + 1)) (by omega)) mb_X1_isLawful mv_X1_isLawful lk_X11_114 ce_4 rfl rfl rfl rfl ⟨Nat.le_of_ble_eq_true rfl, Nat.le_of_ble_eq_true rfl, Nat.le_of_ble_eq_true rfl⟩ ?_
            refine vv_if_eq (tgt := 49) C dX11_third_44 (by decide) (fun q44 => ?_) (fun q44 => ?_)
            · exact go (by rw [vs_b0.mp q44, Bool.and_false] at he; exact he)
            · refine vv_iload_n C dX11_third_47 rfl ?_
              exact vs_iret C F dX11_third_48 rfl ⟨by rw [if_pos hw, xn_cl (by omega), ← he, vs_b1.mp q30, vs_b1.mp q44]; rfl, rfl⟩
    refine vv_iload_n C dX11_third_12 rfl ?_
    refine vv_iconst C dX11_third_13 ic_2 ?_
    refine vv_idiv C dX11_third_14 (by decide) ?_
    refine vs_eqi (v9 := nI (k / 2)) (by rw [xn_lit, xn_div (by omega) (by omega)]) ?_
    refine vw_istore_n (lv9 := [_, _, _]) C dX11_third_15 (by decide) rfl rfl ?_
    exact loop (k / 2) (by omega) rfl
  · refine vv_iconst C dX11_third_10 ic_m1 ?_
    exact vs_iret C F dX11_third_11 rfl ⟨by rw [show vs_w n 1 100000 = false from vs_b0.mp q7]; rfl, rfl⟩
set_option maxRecDepth 20000 in
theorem c_X11_next (g : vv_G) (S : vs_S) (hS : nx_ok S) (law : Nat) (hl : law ≤ 3) (hs : S.1 0 = nI law) (n what : Int32) : vs_FI g yX11_next cX11_next 3 (some .int) 7 [vv_r g 0, .int n, .int what] S (if (vs_w n 0 1000000000 && vs_w what 0 2) = true then (if what = 2 then lw_near (lw_next (np_lx law) n.toNatClampNeg) (lw_dn (np_lx law) n.toNatClampNeg) n else if what = 0 then lw_next (np_lx law) n.toNatClampNeg else lw_dn (np_lx law) n.toNatClampNeg) else -1) S := by
  refine vs_ofI (lv := [_, _, _]) mb_X11_next (Nat.le_of_ble_eq_true rfl) rfl (fun x C F => ?_)
  refine vv_iload_n C dX11_next_0 rfl ?_
  refine vv_iconst C dX11_next_1 ic_0 ?_
  refine vv_ldc C dX11_next_2 kc_X11_131 ?_
  refine vs_calsiF C dX11_next_4 (c_X11_within g S _ _ _) mb_X11_within ms_X11_within lk_X11_94 rfl rfl ⟨Nat.le_of_ble_eq_true rfl, Nat.le_of_ble_eq_true rfl, Nat.le_of_ble_eq_true rfl⟩ ?_
  refine vv_if_eq (tgt := 19) C dX11_next_7 (by decide) (fun q7 => ?_) (fun q7 => ?_)
  · have w1 : vs_w n 0 1000000000 = false := vs_b0.mp q7
    refine vv_iconst C dX11_next_19 ic_m1 ?_
    exact vs_iret C F dX11_next_20 rfl ⟨by rw [w1]; first | rfl | (rw [w2]; rfl), rfl⟩
  · have w1 : vs_w n 0 1000000000 = true := vs_b1.mp q7
    refine vv_iload_n C dX11_next_10 rfl ?_
    refine vv_iconst C dX11_next_11 ic_0 ?_
    refine vv_iconst C dX11_next_12 ic_2 ?_
    refine vs_calsiF C dX11_next_13 (c_X11_within g S _ _ _) mb_X11_within ms_X11_within lk_X11_94 rfl rfl ⟨Nat.le_of_ble_eq_true rfl, Nat.le_of_ble_eq_true rfl, Nat.le_of_ble_eq_true rfl⟩ ?_
    refine vv_if_ne (tgt := 21) C dX11_next_16 (by decide) (fun q16 => ?_) (fun q16 => ?_)
    · have w2 : vs_w what 0 2 = true := vs_b1.mp q16
      refine vv_iload_n C dX11_next_21 rfl ?_
      refine vv_iconst C dX11_next_22 ic_2 ?_
      refine vv_icmp_ne (tgt := 35) C dX11_next_23 (by decide) (fun q23 => ?_) (fun q23 => ?_)
      · refine vv_iload_n C dX11_next_35 rfl ?_
        refine vv_if_ne (tgt := 50) C dX11_next_36 (by decide) (fun q36 => ?_) (fun q36 => ?_)
        · refine vv_aload_n C dX11_next_50 rfl ?_
          refine gf_X11_laws C dX11_next_51 fg_X11_21 ?_
          refine vv_iload_n C dX11_next_54 rfl ?_
          refine vs_caliF C dX11_next_55 (c_X1_greatestTo g S hS law hl hs _) mb_X1_greatestTo mv_X1_greatestTo lk_X11_182 ce_4 rfl rfl rfl rfl ⟨Nat.le_of_ble_eq_true rfl, Nat.le_of_ble_eq_true rfl, Nat.le_of_ble_eq_true rfl⟩ ?_
          exact vs_iret C F dX11_next_58 rfl ⟨by rw [w1, w2, if_pos vs_tt, if_neg q23]; first | rw [if_pos q36] | rw [if_neg q36], rfl⟩
        · refine vv_aload_n C dX11_next_39 rfl ?_
          refine gf_X11_laws C dX11_next_40 fg_X11_21 ?_
          refine vv_iload_n C dX11_next_43 rfl ?_
          refine vs_caliF C dX11_next_44 (c_X1_leastFrom g S hS law hl hs _) mb_X1_leastFrom mv_X1_leastFrom lk_X11_179 ce_4 rfl rfl rfl rfl ⟨Nat.le_of_ble_eq_true rfl, Nat.le_of_ble_eq_true rfl, Nat.le_of_ble_eq_true rfl⟩ ?_
          refine vv_goto (tgt := 58) C dX11_next_47 (by decide) ?_
          exact vs_iret C F dX11_next_58 rfl ⟨by rw [w1, w2, if_pos vs_tt, if_neg q23]; first | rw [if_pos q36] | rw [if_neg q36], rfl⟩
      · refine vv_aload_n C dX11_next_26 rfl ?_
        refine gf_X11_laws C dX11_next_27 fg_X11_21 ?_
        refine vv_iload_n C dX11_next_30 rfl ?_
        refine vs_caliF C dX11_next_31 (c_X1_nearest g S hS law hl hs _) mb_X1_nearest mv_X1_nearest lk_X11_176 ce_4 rfl rfl rfl rfl ⟨Nat.le_of_ble_eq_true rfl, Nat.le_of_ble_eq_true rfl, Nat.le_of_ble_eq_true rfl⟩ ?_
        exact vs_iret C F dX11_next_34 rfl ⟨by rw [w1, w2, if_pos vs_tt, if_pos q23], rfl⟩
    · have w2 : vs_w what 0 2 = false := vs_b0.mp q16
      refine vv_iconst C dX11_next_19 ic_m1 ?_
      exact vs_iret C F dX11_next_20 rfl ⟨by rw [w1]; first | rfl | (rw [w2]; rfl), rfl⟩
set_option maxRecDepth 20000 in
theorem c_X11_tax (g : vv_G) (S : vs_S) (hS : nx_ok S) (law : Nat) (hl : law ≤ 3) (hs : S.1 0 = nI law) (n : Int32) : vs_FI g yX11_tax cX11_tax 2 (some .int) 6 [vv_r g 0, .int n] S (if vs_w n 0 1000000000 = true then lw_dn (np_lx law) (n / 10).toNatClampNeg else -1) S := by
  refine vs_ofI (lv := [_, _]) mb_X11_tax (Nat.le_of_ble_eq_true rfl) rfl (fun x C F => ?_)
  refine vv_iload_n C dX11_tax_0 rfl ?_
  refine vv_iconst C dX11_tax_1 ic_0 ?_
  refine vv_ldc C dX11_tax_2 kc_X11_131 ?_
  refine vs_calsiF C dX11_tax_4 (c_X11_within g S _ _ _) mb_X11_within ms_X11_within lk_X11_94 rfl rfl ⟨Nat.le_of_ble_eq_true rfl, Nat.le_of_ble_eq_true rfl, Nat.le_of_ble_eq_true rfl⟩ ?_
  refine vv_if_ne (tgt := 12) C dX11_tax_7 (by decide) (fun q7 => ?_) (fun q7 => ?_)
  · refine vv_aload_n C dX11_tax_12 rfl ?_
    refine gf_X11_laws C dX11_tax_13 fg_X11_21 ?_
    refine vv_iload_n C dX11_tax_16 rfl ?_
    refine vv_bipush C dX11_tax_17 bp_10 ?_
    refine vv_idiv C dX11_tax_19 (by decide) ?_
    refine vs_caliF C dX11_tax_20 (c_X1_greatestTo g S hS law hl hs _) mb_X1_greatestTo mv_X1_greatestTo lk_X11_182 ce_4 rfl rfl rfl rfl ⟨Nat.le_of_ble_eq_true rfl, Nat.le_of_ble_eq_true rfl, Nat.le_of_ble_eq_true rfl⟩ ?_
    exact vs_iret C F dX11_tax_23 rfl ⟨by rw [show vs_w n 0 1000000000 = true from vs_b1.mp q7, if_pos rfl], rfl⟩
  · refine vv_iconst C dX11_tax_10 ic_m1 ?_
    exact vs_iret C F dX11_tax_11 rfl ⟨by rw [show vs_w n 0 1000000000 = false from vs_b0.mp q7]; rfl, rfl⟩
def lw_rd (v n : Int32) : Int32 := if v = -2 then -2 else if 0 ≤ v - n then v - n else 0 - (v - n)
set_option maxRecDepth 20000 in
theorem c_X11_rounded (g : vv_G) (S : vs_S) (hS : nx_ok S) (law : Nat) (hl : law ≤ 3) (hs : S.1 0 = nI law) (n paid : Int32) : vs_FI g yX11_rounded cX11_rounded 4 (some .int) 6 [vv_r g 0, .int n, .int paid] S (if (vs_w n 0 1000000000 && vs_w paid 0 1) = true then (if paid = 1 then lw_rd (lw_next (np_lx law) n.toNatClampNeg) n else lw_rd (lw_dn (np_lx law) n.toNatClampNeg) n) else -1) S := by
  refine vs_ofI (lv := [_, _, _, _]) mb_X11_rounded (Nat.le_of_ble_eq_true rfl) rfl (fun x C F => ?_)
  refine vv_iload_n C dX11_rounded_0 rfl ?_
  refine vv_iconst C dX11_rounded_1 ic_0 ?_
  refine vv_ldc C dX11_rounded_2 kc_X11_131 ?_
  refine vs_calsiF C dX11_rounded_4 (c_X11_within g S _ _ _) mb_X11_within ms_X11_within lk_X11_94 rfl rfl ⟨Nat.le_of_ble_eq_true rfl, Nat.le_of_ble_eq_true rfl, Nat.le_of_ble_eq_true rfl⟩ ?_
  refine vv_if_eq (tgt := 19) C dX11_rounded_7 (by decide) (fun q7 => ?_) (fun q7 => ?_)
  · have w1 : vs_w n 0 1000000000 = false := vs_b0.mp q7
    refine vv_iconst C dX11_rounded_19 ic_m1 ?_
    exact vs_iret C F dX11_rounded_20 rfl ⟨by rw [w1]; first | rfl | (rw [w2]; rfl), rfl⟩
  · have w1 : vs_w n 0 1000000000 = true := vs_b1.mp q7
    refine vv_iload_n C dX11_rounded_10 rfl ?_
    refine vv_iconst C dX11_rounded_11 ic_0 ?_
    refine vv_iconst C dX11_rounded_12 ic_1 ?_
    refine vs_calsiF C dX11_rounded_13 (c_X11_within g S _ _ _) mb_X11_within ms_X11_within lk_X11_94 rfl rfl ⟨Nat.le_of_ble_eq_true rfl, Nat.le_of_ble_eq_true rfl, Nat.le_of_ble_eq_true rfl⟩ ?_
    refine vv_if_ne (tgt := 21) C dX11_rounded_16 (by decide) (fun q16 => ?_) (fun q16 => ?_)
    · have w2 : vs_w paid 0 1 = true := vs_b1.mp q16
      refine vv_iload_n C dX11_rounded_21 rfl ?_
      refine vv_iconst C dX11_rounded_22 ic_1 ?_
      refine vv_icmp_ne (tgt := 37) C dX11_rounded_23 (by decide) (fun q23 => ?_) (fun q23 => ?_)
      · refine vv_aload_n C dX11_rounded_37 rfl ?_
        refine gf_X11_laws C dX11_rounded_38 fg_X11_21 ?_
        refine vv_iload_n C dX11_rounded_41 rfl ?_
        refine vs_caliF C dX11_rounded_42 (c_X1_greatestTo g S hS law hl hs _) mb_X1_greatestTo mv_X1_greatestTo lk_X11_182 ce_4 rfl rfl rfl rfl ⟨Nat.le_of_ble_eq_true rfl, Nat.le_of_ble_eq_true rfl, Nat.le_of_ble_eq_true rfl⟩ ?_
        refine vw_istore_n (lv9 := [_, _, _, _]) C dX11_rounded_45 (by decide) rfl rfl ?_
        refine vv_iload_n C dX11_rounded_46 rfl ?_
        refine vv_bipush C dX11_rounded_47 bp_m2 ?_
        refine vv_icmp_ne (tgt := 57) C dX11_rounded_49 (by decide) (fun q49 => ?_) (fun q49 => ?_)
        · refine vv_iload_n C dX11_rounded_57 rfl ?_
          refine vv_iload_n C dX11_rounded_58 rfl ?_
          refine vv_isub C dX11_rounded_59 ?_
          refine vv_mabs C dX11_rounded_60 lk_X11_213 ⟨Nat.le_of_ble_eq_true rfl, Nat.le_of_ble_eq_true rfl, Nat.zero_le _, Nat.zero_le _⟩ ?_
          exact vs_iret C F dX11_rounded_63 rfl ⟨by rw [w1, w2, if_pos vs_tt]; (first | rw [if_pos q23] | rw [if_neg q23]); unfold lw_rd; (first | rw [if_pos q49] | rw [if_neg q49]), rfl⟩
        · refine vv_bipush C dX11_rounded_52 bp_m2 ?_
          refine vv_goto (tgt := 63) C dX11_rounded_54 (by decide) ?_
          exact vs_iret C F dX11_rounded_63 rfl ⟨by rw [w1, w2, if_pos vs_tt]; (first | rw [if_pos q23] | rw [if_neg q23]); unfold lw_rd; (first | rw [if_pos q49] | rw [if_neg q49]), rfl⟩
      · refine vv_aload_n C dX11_rounded_26 rfl ?_
        refine gf_X11_laws C dX11_rounded_27 fg_X11_21 ?_
        refine vv_iload_n C dX11_rounded_30 rfl ?_
        refine vs_caliF C dX11_rounded_31 (c_X1_leastFrom g S hS law hl hs _) mb_X1_leastFrom mv_X1_leastFrom lk_X11_179 ce_4 rfl rfl rfl rfl ⟨Nat.le_of_ble_eq_true rfl, Nat.le_of_ble_eq_true rfl, Nat.le_of_ble_eq_true rfl⟩ ?_
        refine vv_goto (tgt := 45) C dX11_rounded_34 (by decide) ?_
        refine vw_istore_n (lv9 := [_, _, _, _]) C dX11_rounded_45 (by decide) rfl rfl ?_
        refine vv_iload_n C dX11_rounded_46 rfl ?_
        refine vv_bipush C dX11_rounded_47 bp_m2 ?_
        refine vv_icmp_ne (tgt := 57) C dX11_rounded_49 (by decide) (fun q49 => ?_) (fun q49 => ?_)
        · refine vv_iload_n C dX11_rounded_57 rfl ?_
          refine vv_iload_n C dX11_rounded_58 rfl ?_
          refine vv_isub C dX11_rounded_59 ?_
          refine vv_mabs C dX11_rounded_60 lk_X11_213 ⟨Nat.le_of_ble_eq_true rfl, Nat.le_of_ble_eq_true rfl, Nat.zero_le _, Nat.zero_le _⟩ ?_
          exact vs_iret C F dX11_rounded_63 rfl ⟨by rw [w1, w2, if_pos vs_tt]; (first | rw [if_pos q23] | rw [if_neg q23]); unfold lw_rd; (first | rw [if_pos q49] | rw [if_neg q49]), rfl⟩
        · refine vv_bipush C dX11_rounded_52 bp_m2 ?_
          refine vv_goto (tgt := 63) C dX11_rounded_54 (by decide) ?_
          exact vs_iret C F dX11_rounded_63 rfl ⟨by rw [w1, w2, if_pos vs_tt]; (first | rw [if_pos q23] | rw [if_neg q23]); unfold lw_rd; (first | rw [if_pos q49] | rw [if_neg q49]), rfl⟩
    · have w2 : vs_w paid 0 1 = false := vs_b0.mp q16
      refine vv_iconst C dX11_rounded_19 ic_m1 ?_
      exact vs_iret C F dX11_rounded_20 rfl ⟨by rw [w1]; first | rfl | (rw [w2]; rfl), rfl⟩
set_option maxRecDepth 20000 in
theorem c_X11_rent (g : vv_G) (S : vs_S) (hS : nx_ok S) (law : Nat) (hl : law ≤ 3) (hs : S.1 0 = nI law) (r years : Int32) : vs_FI g yX11_rent cX11_rent 5 (some .int) 6 [vv_r g 0, .int r, .int years] S (if (vs_w r 2 10000 && vs_w years 1 30) = true then lw_rent (np_lx law) years.toNatClampNeg r else -1) S := by
  refine vs_ofI (lv := [_, _, _, _, _]) mb_X11_rent (Nat.le_of_ble_eq_true rfl) rfl (fun x C F => ?_)
  refine vv_iload_n C dX11_rent_0 rfl ?_
  refine vv_iconst C dX11_rent_1 ic_2 ?_
  refine vv_sipush C dX11_rent_2 sp_10000 ?_
  refine vs_calsiF C dX11_rent_5 (c_X11_within g S _ _ _) mb_X11_within ms_X11_within lk_X11_94 rfl rfl ⟨Nat.le_of_ble_eq_true rfl, Nat.le_of_ble_eq_true rfl, Nat.le_of_ble_eq_true rfl⟩ ?_
  refine vv_if_eq (tgt := 21) C dX11_rent_8 (by decide) (fun q8 => ?_) (fun q8 => ?_)
  · have w1 : vs_w r 2 10000 = false := vs_b0.mp q8
    refine vv_iconst C dX11_rent_21 ic_m1 ?_
    exact vs_iret C F dX11_rent_22 rfl ⟨by rw [w1]; first | rfl | (rw [w2]; rfl), rfl⟩
  · have w1 : vs_w r 2 10000 = true := vs_b1.mp q8
    refine vv_iload_n C dX11_rent_11 rfl ?_
    refine vv_iconst C dX11_rent_12 ic_1 ?_
    refine vv_bipush C dX11_rent_13 bp_30 ?_
    refine vs_calsiF C dX11_rent_15 (c_X11_within g S _ _ _) mb_X11_within ms_X11_within lk_X11_94 rfl rfl ⟨Nat.le_of_ble_eq_true rfl, Nat.le_of_ble_eq_true rfl, Nat.le_of_ble_eq_true rfl⟩ ?_
    refine vv_if_ne (tgt := 23) C dX11_rent_18 (by decide) (fun q18 => ?_) (fun q18 => ?_)
    · have hw : vs_w years 1 30 = true := vs_b1.mp q18
      obtain ⟨y, y1, y2, y3⟩ := vs_wN (a := 1) (b := 30) (by omega) (by omega) hw
      have w2 : vs_w years 1 30 = true := hw
      subst y3
      have hwr : (vs_w r 2 10000 && vs_w (nI y) 1 30) = true := by rw [w1, w2]; rfl
      have loop : ∀ (m i : Nat) (v : Int32), i + m = y → lw_rent (np_lx law) m v = lw_rent (np_lx law) y r → vv_V g x 5 0 0 28 [some (vv_r g 0), some (.int r), some (.int (nI y)), some (.int v), some (.int (nI i))] [] (vs_cells g S) := by
        intro m
        induction m with
        | zero =>
          intro i v h1 he
          have hi : i = y := by omega
          subst hi
          refine vv_iload C dX11_rent_28 rfl ?_
          refine vv_iload_n C dX11_rent_30 rfl ?_
          refine vv_icmp_ge (tgt := 58) C dX11_rent_31 (by decide) (fun q31 => ?_) (fun q31 => ?_)
          · refine vv_iload_n C dX11_rent_58 rfl ?_
            exact vs_iret C F dX11_rent_59 rfl ⟨by rw [hwr, if_pos rfl, xn_cl (by omega), ← he]; rfl, rfl⟩
          · exact absurd (Int32.le_refl _) q31
        | succ m ih =>
          intro i v h1 he
          refine vv_iload C dX11_rent_28 rfl ?_
          refine vv_iload_n C dX11_rent_30 rfl ?_
          refine vv_icmp_ge (tgt := 58) C dX11_rent_31 (by decide) (fun q31 => ?_) (fun q31 => ?_)
          · exact absurd q31 (by rw [xn_le (by omega) (by omega)]; omega)
          · refine vv_aload_n C dX11_rent_34 rfl ?_
            refine gf_X11_laws C dX11_rent_35 fg_X11_21 ?_
            refine vv_iload_n C dX11_rent_38 rfl ?_
            refine vv_iconst C dX11_rent_39 ic_1 ?_
            refine vv_iload_n C dX11_rent_40 rfl ?_
            refine vv_bipush C dX11_rent_41 bp_10 ?_
            refine vv_idiv C dX11_rent_43 (by decide) ?_
            refine vv_mmax C dX11_rent_44 lk_X11_208 ⟨Nat.le_of_ble_eq_true rfl, Nat.le_of_ble_eq_true rfl, Nat.zero_le _, Nat.zero_le _⟩ ?_
            refine vv_iadd C dX11_rent_47 ?_
            refine vs_eqi (v9 := lw_step v) (lw_step2) ?_
            refine vs_caliF C dX11_rent_48 (c_X1_leastFrom g S hS law hl hs _) mb_X1_leastFrom mv_X1_leastFrom lk_X11_179 ce_4 rfl rfl rfl rfl ⟨Nat.le_of_ble_eq_true rfl, Nat.le_of_ble_eq_true rfl, Nat.le_of_ble_eq_true rfl⟩ ?_
            refine vw_istore_n (lv9 := [_, _, _, _, _]) C dX11_rent_51 (by decide) rfl rfl ?_
            refine vw_iinc (lv9 := [_, _, _, _, _]) C dX11_rent_52 rfl ic_1 (by decide) rfl rfl ?_
            refine vv_goto (tgt := 28) C dX11_rent_55 (by decide) ?_
            rw [nI_1]
            exact ih (i + 1) _ (by omega) he
      refine vv_iload_n C dX11_rent_23 rfl ?_
      refine vw_istore_n (lv9 := [_, _, _, _, _]) C dX11_rent_24 (by decide) rfl rfl ?_
      refine vv_iconst C dX11_rent_25 ic_0 ?_
      refine vw_istore (lv9 := [_, _, _, _, _]) C dX11_rent_26 (by decide) rfl rfl ?_
      exact loop y 0 r (by omega) rfl
    · have w2 : vs_w years 1 30 = false := vs_b0.mp q18
      refine vv_iconst C dX11_rent_21 ic_m1 ?_
      exact vs_iret C F dX11_rent_22 rfl ⟨by rw [w1]; first | rfl | (rw [w2]; rfl), rfl⟩
