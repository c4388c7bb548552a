set_option maxRecDepth 20000 in
theorem c_X1_isLawful (g : vv_G) (S : vs_S) (hS : nx_ok S) (law : Nat) (hl : law ≤ 3) (hs : S.1 0 = nI law) (n : Nat) (hn : n ≤ 1000000000000) : vs_FI g yX1_isLawful cX1_isLawful 3 (some .boolean) 4 [vv_r g 4, .long (lN n)] S (vs_b (np_lx law n)) S := by
  have hl4 : law = 0 ∨ law = 1 ∨ law = 2 ∨ law = 3 := by omega
  have hbe : np_be n < 2 ^ 40 := by
    unfold np_be
    split
    · exact Nat.lt_of_le_of_lt (Nat.div_le_self _ _) (by omega)
    · omega
  refine vs_ofI (lv := [_, _, _]) mb_X1_isLawful (Nat.le_of_ble_eq_true rfl) rfl (fun x C F => ?_)
  refine vv_lload_n C dX1_isLawful_0 rfl ?_
  refine vv_ldc2 C dX1_isLawful_1 kc_X1_19 ?_
  refine vv_lcmp C dX1_isLawful_4 ?_
  refine vv_if_ge (tgt := 10) C dX1_isLawful_5 (by decide) (fun q5 => ?_) (fun q5 => ?_)
  · have h2 : 2 ≤ n := by rw [lg_cmp_ge, xn_lit64, xn_lle (by omega) (by omega)] at q5; exact q5
    refine vv_aload_n C dX1_isLawful_10 rfl ?_
    refine gf_X1_law C dX1_isLawful_11 fg_X1_15 ?_
    refine vs_eqi (v9 := nI law) (hs) ?_
    rcases hl4 with e | e | e | e
    · subst e
      refine vv_tableIn (tgt := 40) (off := 26) C dX1_isLawful_14 (by decide +kernel) (by decide +kernel) (by decide +kernel) (by decide) ?_
      refine vv_aload_n C dX1_isLawful_40 rfl ?_
      refine gf_X1_numbers C dX1_isLawful_41 fg_X1_9 ?_
      refine vv_lload_n C dX1_isLawful_44 rfl ?_
      refine vs_caliF C dX1_isLawful_45 (c_X3_isWhole g S hS n (by omega)) mb_X3_isWhole mv_X3_isWhole lk_X1_21 ce_1 rfl rfl rfl rfl ⟨Nat.le_of_ble_eq_true rfl, Nat.le_of_ble_eq_true rfl, Nat.le_of_ble_eq_true rfl⟩ ?_
      exact vs_zret C F dX1_isLawful_48 rfl vs_bz ⟨by rw [np_lx0 hn]; unfold np_l0; rw [if_neg (by omega), if_pos rfl], rfl⟩
    · subst e
      refine vv_tableIn (tgt := 49) (off := 35) C dX1_isLawful_14 (by decide +kernel) (by decide +kernel) (by decide +kernel) (by decide) ?_
      refine vv_aload_n C dX1_isLawful_49 rfl ?_
      refine gf_X1_numbers C dX1_isLawful_50 fg_X1_9 ?_
      refine vv_lload_n C dX1_isLawful_53 rfl ?_
      refine vs_caliF C dX1_isLawful_54 (c_X3_isWhole g S hS n (by omega)) mb_X3_isWhole mv_X3_isWhole lk_X1_21 ce_1 rfl rfl rfl rfl ⟨Nat.le_of_ble_eq_true rfl, Nat.le_of_ble_eq_true rfl, Nat.le_of_ble_eq_true rfl⟩ ?_
      refine vv_if_ne (tgt := 78) C dX1_isLawful_57 (by decide) (fun q57 => ?_) (fun q57 => ?_)
      · refine vv_iconst C dX1_isLawful_78 ic_0 ?_
        exact vs_zret C F dX1_isLawful_79 rfl rfl ⟨by rw [np_lx0 hn]; unfold np_l0; rw [if_neg (by omega)]; (simp only [vs_b0, vs_b1] at *; simp [*, vs_b]), rfl⟩
      · refine vv_aload_n C dX1_isLawful_60 rfl ?_
        refine gf_X1_numbers C dX1_isLawful_61 fg_X1_9 ?_
        refine vv_lload_n C dX1_isLawful_64 rfl ?_
        refine vs_calslF C dX1_isLawful_65 (c_X3_besideLeast g S n h2 (by omega)) mb_X3_besideLeast ms_X3_besideLeast lk_X1_27 rfl rfl ⟨Nat.le_of_ble_eq_true rfl, Nat.le_of_ble_eq_true rfl, Nat.le_of_ble_eq_true rfl⟩ ?_
        refine vs_caliF C dX1_isLawful_68 (c_X3_isWhole g S hS _ (by omega)) mb_X3_isWhole mv_X3_isWhole lk_X1_21 ce_1 rfl rfl rfl rfl ⟨Nat.le_of_ble_eq_true rfl, Nat.le_of_ble_eq_true rfl, Nat.le_of_ble_eq_true rfl⟩ ?_
        refine vv_if_eq (tgt := 78) C dX1_isLawful_71 (by decide) (fun q71 => ?_) (fun q71 => ?_)
        · refine vv_iconst C dX1_isLawful_78 ic_0 ?_
          exact vs_zret C F dX1_isLawful_79 rfl rfl ⟨by rw [np_lx0 hn]; unfold np_l0; rw [if_neg (by omega)]; (simp only [vs_b0, vs_b1] at *; simp [*, vs_b]), rfl⟩
        · refine vv_iconst C dX1_isLawful_74 ic_1 ?_
          refine vv_goto (tgt := 79) C dX1_isLawful_75 (by decide) ?_
          exact vs_zret C F dX1_isLawful_79 rfl rfl ⟨by rw [np_lx0 hn]; unfold np_l0; rw [if_neg (by omega)]; (simp only [vs_b0, vs_b1] at *; simp [*, vs_b]), rfl⟩
    · subst e
      refine vv_tableIn (tgt := 80) (off := 66) C dX1_isLawful_14 (by decide +kernel) (by decide +kernel) (by decide +kernel) (by decide) ?_
      refine vv_lload_n C dX1_isLawful_80 rfl ?_
      refine vv_ldc2 C dX1_isLawful_81 kc_X1_19 ?_
      refine vv_lrem C dX1_isLawful_84 (by decide) ?_
      refine vv_lconst C dX1_isLawful_85 lc_0 ?_
      refine vv_lcmp C dX1_isLawful_86 ?_
      refine vv_if_ne (tgt := 106) C dX1_isLawful_87 (by decide) (fun q87 => ?_) (fun q87 => ?_)
      · have hp : ¬ n % 2 = 0 := fun z => q87 ((np_lrem (a := 2) (by omega) (by omega)).mpr (np_mod.mp z))
        refine vv_aload_n C dX1_isLawful_106 rfl ?_
        refine gf_X1_numbers C dX1_isLawful_107 fg_X1_9 ?_
        refine vv_lload_n C dX1_isLawful_110 rfl ?_
        refine vv_ldc2 C dX1_isLawful_111 kc_X1_19 ?_
        refine vv_lsub C dX1_isLawful_114 ?_
        refine vs_eql (v9 := lN (n - 2)) (by rw [xn_lit64, xn_lsub (by omega)]) ?_
        refine vs_caliF C dX1_isLawful_115 (c_X3_isWhole g S hS _ (by omega)) mb_X3_isWhole mv_X3_isWhole lk_X1_21 ce_1 rfl rfl rfl rfl ⟨Nat.le_of_ble_eq_true rfl, Nat.le_of_ble_eq_true rfl, Nat.le_of_ble_eq_true rfl⟩ ?_
        first
        | exact vs_zret C F dX1_isLawful_118 rfl vs_bz ⟨by rw [np_lx0 hn]; unfold np_l0; rw [if_neg (by omega), if_neg (by omega), if_neg (by omega), if_pos rfl, if_neg hp], rfl⟩
        | exact vs_zret C F dX1_isLawful_118 rfl rfl ⟨by rw [np_lx0 hn]; unfold np_l0; rw [if_neg (by omega), if_neg (by omega), if_neg (by omega), if_pos rfl, if_pos hp]; simp [hq, vs_b], rfl⟩
      · have hp : n % 2 = 0 := np_mod.mpr ((np_lrem (a := 2) (by omega) (by omega)).mp q87)
        refine vv_lload_n C dX1_isLawful_90 rfl ?_
        refine vv_ldc2 C dX1_isLawful_91 kc_X1_19 ?_
        refine vv_lcmp C dX1_isLawful_94 ?_
        refine vv_if_le (tgt := 102) C dX1_isLawful_95 (by decide) (fun q95 => ?_) (fun q95 => ?_)
        · have hq : ¬ 2 < n := by rw [lg_cmp_le, xn_lit64, xn_lle (by omega) (by omega)] at q95; omega
          refine vv_iconst C dX1_isLawful_102 ic_0 ?_
          refine vv_goto (tgt := 118) C dX1_isLawful_103 (by decide) ?_
          first
          | exact vs_zret C F dX1_isLawful_118 rfl vs_bz ⟨by rw [np_lx0 hn]; unfold np_l0; rw [if_neg (by omega), if_neg (by omega), if_neg (by omega), if_pos rfl, if_neg hp], rfl⟩
          | exact vs_zret C F dX1_isLawful_118 rfl rfl ⟨by rw [np_lx0 hn]; unfold np_l0; rw [if_neg (by omega), if_neg (by omega), if_neg (by omega), if_pos rfl, if_pos hp]; simp [hq, vs_b], rfl⟩
        · have hq : 2 < n := by rw [lg_cmp_le, xn_lit64, xn_lle (by omega) (by omega)] at q95; omega
          refine vv_iconst C dX1_isLawful_98 ic_1 ?_
          refine vv_goto (tgt := 118) C dX1_isLawful_99 (by decide) ?_
          first
          | exact vs_zret C F dX1_isLawful_118 rfl vs_bz ⟨by rw [np_lx0 hn]; unfold np_l0; rw [if_neg (by omega), if_neg (by omega), if_neg (by omega), if_pos rfl, if_neg hp], rfl⟩
          | exact vs_zret C F dX1_isLawful_118 rfl rfl ⟨by rw [np_lx0 hn]; unfold np_l0; rw [if_neg (by omega), if_neg (by omega), if_neg (by omega), if_pos rfl, if_pos hp]; simp [hq, vs_b], rfl⟩
    · subst e
      refine vv_tableOut (tgt := 119) C dX1_isLawful_14 (Or.inr (by decide +kernel)) (by decide) ?_
      refine vv_aload_n C dX1_isLawful_119 rfl ?_
      refine gf_X1_numbers C dX1_isLawful_120 fg_X1_9 ?_
      refine vv_lload_n C dX1_isLawful_123 rfl ?_
      refine vs_caliF C dX1_isLawful_124 (c_X3_isWhole g S hS n (by omega)) mb_X3_isWhole mv_X3_isWhole lk_X1_21 ce_1 rfl rfl rfl rfl ⟨Nat.le_of_ble_eq_true rfl, Nat.le_of_ble_eq_true rfl, Nat.le_of_ble_eq_true rfl⟩ ?_
      refine vv_if_eq (tgt := 164) C dX1_isLawful_127 (by decide) (fun q127 => ?_) (fun q127 => ?_)
      · refine vv_iconst C dX1_isLawful_164 ic_0 ?_
        exact vs_zret C F dX1_isLawful_165 rfl rfl ⟨by rw [np_lx0 hn]; unfold np_l0; rw [if_neg (by omega)]; (simp only [vs_b0, vs_b1] at *; simp [*, vs_b]), rfl⟩
      · refine vv_aload_n C dX1_isLawful_130 rfl ?_
        refine gf_X1_numbers C dX1_isLawful_131 fg_X1_9 ?_
        refine vv_lload_n C dX1_isLawful_134 rfl ?_
        refine vv_ldc2 C dX1_isLawful_135 kc_X1_19 ?_
        refine vv_ladd C dX1_isLawful_138 ?_
        refine vs_eql (v9 := lN (n + 2)) (lN_add n 2) ?_
        refine vs_caliF C dX1_isLawful_139 (c_X3_isWhole g S hS _ (by omega)) mb_X3_isWhole mv_X3_isWhole lk_X1_21 ce_1 rfl rfl rfl rfl ⟨Nat.le_of_ble_eq_true rfl, Nat.le_of_ble_eq_true rfl, Nat.le_of_ble_eq_true rfl⟩ ?_
        refine vv_if_ne (tgt := 160) C dX1_isLawful_142 (by decide) (fun q142 => ?_) (fun q142 => ?_)
        · refine vv_iconst C dX1_isLawful_160 ic_1 ?_
          refine vv_goto (tgt := 165) C dX1_isLawful_161 (by decide) ?_
          exact vs_zret C F dX1_isLawful_165 rfl rfl ⟨by rw [np_lx0 hn]; unfold np_l0; rw [if_neg (by omega)]; (simp only [vs_b0, vs_b1] at *; simp [*, vs_b]), rfl⟩
        · refine vv_aload_n C dX1_isLawful_145 rfl ?_
          refine gf_X1_numbers C dX1_isLawful_146 fg_X1_9 ?_
          refine vv_lload_n C dX1_isLawful_149 rfl ?_
          refine vv_ldc2 C dX1_isLawful_150 kc_X1_19 ?_
          refine vv_lsub C dX1_isLawful_153 ?_
          refine vs_eql (v9 := lN (n - 2)) (by rw [xn_lit64, xn_lsub (by omega)]) ?_
          refine vs_caliF C dX1_isLawful_154 (c_X3_isWhole g S hS _ (by omega)) mb_X3_isWhole mv_X3_isWhole lk_X1_21 ce_1 rfl rfl rfl rfl ⟨Nat.le_of_ble_eq_true rfl, Nat.le_of_ble_eq_true rfl, Nat.le_of_ble_eq_true rfl⟩ ?_
          refine vv_if_eq (tgt := 164) C dX1_isLawful_157 (by decide) (fun q157 => ?_) (fun q157 => ?_)
          · refine vv_iconst C dX1_isLawful_164 ic_0 ?_
            exact vs_zret C F dX1_isLawful_165 rfl rfl ⟨by rw [np_lx0 hn]; unfold np_l0; rw [if_neg (by omega)]; (simp only [vs_b0, vs_b1] at *; simp [*, vs_b]), rfl⟩
          · refine vv_iconst C dX1_isLawful_160 ic_1 ?_
            refine vv_goto (tgt := 165) C dX1_isLawful_161 (by decide) ?_
            exact vs_zret C F dX1_isLawful_165 rfl rfl ⟨by rw [np_lx0 hn]; unfold np_l0; rw [if_neg (by omega)]; (simp only [vs_b0, vs_b1] at *; simp [*, vs_b]), rfl⟩
  · have h2 : n < 2 := by rw [lg_cmp_ge, xn_lit64, xn_lle (by omega) (by omega)] at q5; omega
    refine vv_iconst C dX1_isLawful_8 ic_0 ?_
    exact vs_zret C F dX1_isLawful_9 rfl rfl ⟨by rw [np_lx0 hn]; unfold np_l0; rw [if_pos h2]; rfl, rfl⟩
/-! the next lawful one, the last one: over any law -/
def lw_up (P : Nat → Bool) : Nat → Nat → Int32
  | 0, _ => -2
  | f + 1, m => if P m = true then nI m else lw_up P f (m + 1)
def lw_dn (P : Nat → Bool) : Nat → Int32
  | 0 => -2
  | m + 1 => if m = 0 then -2 else if P (m + 1) = true then nI (m + 1) else lw_dn P m
def lw_mx (n : Nat) : Nat := if n < 2 then 2 else n
theorem lw_mxI {n : Nat} (hn : n < 2 ^ 31) : (if nI n < 2 then (2 : Int32) else nI n) = nI (lw_mx n) := by
  have e : nI n < (2 : Int32) ↔ n < 2 := by rw [xn_lit, xn_lt hn (by omega)]
  unfold lw_mx
  by_cases h : n < 2
  · rw [if_pos h, if_pos (e.mpr h)]; rfl
  · rw [if_neg h, if_neg (fun z => h (e.mp z))]
theorem xn_any (v : Int32) : ∃ n : Nat, n < 2 ^ 31 ∧ (v = nI n ∨ v < 0 ∧ n = 0) ∧ v.toNatClampNeg = n := by
  by_cases h : v < 0
  · refine ⟨0, by omega, Or.inr ⟨h, rfl⟩, ?_⟩
    have h1 := Int32.lt_iff_toInt_lt.mp h
    show v.toInt.toNat = 0
    have h2 : (0 : Int32).toInt = 0 := rfl
    omega
  · obtain ⟨j, h1, h2⟩ := nI_of h
    exact ⟨j, h1, Or.inl h2, by rw [h2, xn_cl h1]⟩
theorem lw_mxV {n : Nat} {v : Int32} (hv : v = nI n ∨ v < 0 ∧ n = 0) (hn : n < 2 ^ 31) : (if v < 2 then (2 : Int32) else v) = nI (lw_mx n) := by
  rcases hv with e | ⟨e, e2⟩
  · rw [e]; exact lw_mxI hn
  · rw [if_pos (Int32.lt_trans e (by decide)), e2]; rfl
def lw_next (P : Nat → Bool) (n : Nat) : Int32 := lw_up P (1000001001 - lw_mx n) (lw_mx n)
theorem lw_up0 {P : Nat → Bool} {f m : Nat} (h : f = 0) : lw_up P f m = -2 := by subst h; rfl
theorem lw_up1 {P : Nat → Bool} {f m : Nat} (h : 0 < f) : lw_up P f m = if P m = true then nI m else lw_up P (f - 1) (m + 1) := by
  cases f with
  | zero => omega
  | succ f => rfl
theorem lw_dn0 {P : Nat → Bool} {m : Nat} (h : m < 2) : lw_dn P m = -2 := by
  have : m = 0 ∨ m = 1 := by omega
  rcases this with e | e
  · subst e; rfl
  · subst e; rfl
theorem lw_dn1 {P : Nat → Bool} {m : Nat} (h : 2 ≤ m) : lw_dn P m = if P m = true then nI m else lw_dn P (m - 1) := by
  cases m with
  | zero => omega
  | succ m => 
    show (if m = 0 then -2 else _) = _
    rw [if_neg (by omega)]
    rfl
def lw_near (a b v : Int32) : Int32 := if a = -2 then (if a < b then b else a) else if b = -2 then (if a < b then b else a) else if a - v < v - b then a else b
set_option maxRecDepth 20000 in
theorem c_X1_leastFrom (g : vv_G) (S : vs_S) (hS : nx_ok S) (law : Nat) (hl : law ≤ 3) (hs : S.1 0 = nI law) (v : Int32) : vs_FI g yX1_leastFrom cX1_leastFrom 3 (some .int) 5 [vv_r g 4, .int v] S (lw_next (np_lx law) v.toNatClampNeg) S := by
  obtain ⟨n, hn, hv, hc⟩ := xn_any v
  rw [hc]
  refine vs_ofI (lv := [_, _, _]) mb_X1_leastFrom (Nat.le_of_ble_eq_true rfl) rfl (fun x C F => ?_)
  have loop : ∀ (f m : Nat), 2 ≤ m → m ≤ 1000001001 → f = 1000001001 - m → lw_up (np_lx law) f m = lw_next (np_lx law) n → vv_V g x 3 0 0 6 [some (vv_r g 4), some (.int v), some (.int (nI m))] [] (vs_cells g S) := by
    intro f
    induction f with
    | zero =>
      intro m h2 h1 hf he
      have hm : m = 1000001001 := by omega
      subst hm
      refine vv_iload_n C dX1_leastFrom_6 rfl ?_
      refine vv_ldc C dX1_leastFrom_7 kc_X1_37 ?_
      refine vv_icmp_gt (tgt := 29) C dX1_leastFrom_9 (by decide) (fun q9 => ?_) (fun q9 => ?_)
      · refine vv_bipush C dX1_leastFrom_29 bp_m2 ?_
        exact vs_iret C F dX1_leastFrom_31 rfl ⟨by rw [← he]; rfl, rfl⟩
      · exact absurd (by decide +kernel : (1000001000 : Int32) < nI 1000001001) q9
    | succ f ih =>
      intro m h2 h1 hf he
      rw [lw_up1 (by omega)] at he
      refine vv_iload_n C dX1_leastFrom_6 rfl ?_
      refine vv_ldc C dX1_leastFrom_7 kc_X1_37 ?_
      refine vv_icmp_gt (tgt := 29) C dX1_leastFrom_9 (by decide) (fun q9 => ?_) (fun q9 => ?_)
      · exact absurd q9 (by rw [xn_lit, xn_lt (by omega) (by omega)]; omega)
      · refine vv_aload_n C dX1_leastFrom_12 rfl ?_
        refine vv_iload_n C dX1_leastFrom_13 rfl ?_
        refine vv_i2l C dX1_leastFrom_14 ?_
        refine vs_eql (v9 := lN m) (xn_i2l (by omega)) ?_
        refine vs_caliF C dX1_leastFrom_15 (c_X1_isLawful g S hS law hl hs m (by omega)) mb_X1_isLawful mv_X1_isLawful lk_X1_38 ce_4 rfl rfl rfl rfl ⟨Nat.le_of_ble_eq_true rfl, Nat.le_of_ble_eq_true rfl, Nat.le_of_ble_eq_true rfl⟩ ?_
        refine vv_if_eq (tgt := 23) C dX1_leastFrom_18 (by decide) (fun q18 => ?_) (fun q18 => ?_)
        · rw [if_neg (by rw [vs_b0.mp q18]; decide)] at he
          refine vw_iinc (lv9 := [_, _, _]) C dX1_leastFrom_23 rfl ic_1 (by decide) rfl rfl ?_
          refine vv_goto (tgt := 6) C dX1_leastFrom_26 (by decide) ?_
          rw [nI_1]
          exact ih (m + 1) (by omega) (by omega) (by omega) he
        · rw [if_pos (vs_b1.mp q18)] at he
          refine vv_iload_n C dX1_leastFrom_21 rfl ?_
          exact vs_iret C F dX1_leastFrom_22 rfl ⟨he, rfl⟩
  refine vv_iload_n C dX1_leastFrom_0 rfl ?_
  refine vv_iconst C dX1_leastFrom_1 ic_2 ?_
  refine vv_mmax C dX1_leastFrom_2 lk_X1_31 ⟨Nat.le_of_ble_eq_true rfl, Nat.le_of_ble_eq_true rfl, Nat.zero_le _, Nat.zero_le _⟩ ?_
  refine vs_eqi (v9 := nI (lw_mx n)) (lw_mxV hv hn) ?_
  refine vw_istore_n (lv9 := [_, _, _]) C dX1_leastFrom_5 (by decide) rfl rfl ?_
  have hmx : 2 ≤ lw_mx n := by unfold lw_mx; split <;> omega
  have hmx2 : lw_mx n < 2 ^ 31 := by unfold lw_mx; split <;> omega
  by_cases hz : lw_mx n ≤ 1000001001
  · exact loop (1000001001 - lw_mx n) _ hmx hz rfl rfl
  · refine vv_iload_n C dX1_leastFrom_6 rfl ?_
    refine vv_ldc C dX1_leastFrom_7 kc_X1_37 ?_
    refine vv_icmp_gt (tgt := 29) C dX1_leastFrom_9 (by decide) (fun q9 => ?_) (fun q9 => ?_)
    · refine vv_bipush C dX1_leastFrom_29 bp_m2 ?_
      exact vs_iret C F dX1_leastFrom_31 rfl ⟨by unfold lw_next; rw [lw_up0 (by omega)], rfl⟩
    · exact absurd (by rw [xn_lit, xn_lt (by omega) (by omega)]; omega) q9
set_option maxRecDepth 20000 in
theorem c_X1_greatestTo (g : vv_G) (S : vs_S) (hS : nx_ok S) (law : Nat) (hl : law ≤ 3) (hs : S.1 0 = nI law) (v : Int32) : vs_FI g yX1_greatestTo cX1_greatestTo 3 (some .int) 5 [vv_r g 4, .int v] S (lw_dn (np_lx law) v.toNatClampNeg) S := by
  obtain ⟨n, hn, hv, hc⟩ := xn_any v
  rw [hc]
  refine vs_ofI (lv := [_, _, _]) mb_X1_greatestTo (Nat.le_of_ble_eq_true rfl) rfl (fun x C F => ?_)
  have loop : ∀ (m : Nat), m < 2 ^ 31 → m ≤ 1000000000000 → lw_dn (np_lx law) m = lw_dn (np_lx law) n → vv_V g x 3 0 0 2 [some (vv_r g 4), some (.int v), some (.int (nI m))] [] (vs_cells g S) := by
    intro m
    induction m with
    | zero =>
      intro h1 h3 he
      refine vv_iload_n C dX1_greatestTo_2 rfl ?_
      refine vv_iconst C dX1_greatestTo_3 ic_2 ?_
      refine vv_icmp_lt (tgt := 24) C dX1_greatestTo_4 (by decide) (fun q4 => ?_) (fun q4 => ?_)
      · refine vv_bipush C dX1_greatestTo_24 bp_m2 ?_
        exact vs_iret C F dX1_greatestTo_26 rfl ⟨by rw [← he]; rfl, rfl⟩
      · exact absurd (by decide +kernel : nI 0 < (2 : Int32)) q4
    | succ m ih =>
      intro h1 h3 he
      refine vv_iload_n C dX1_greatestTo_2 rfl ?_
      refine vv_iconst C dX1_greatestTo_3 ic_2 ?_
      refine vv_icmp_lt (tgt := 24) C dX1_greatestTo_4 (by decide) (fun q4 => ?_) (fun q4 => ?_)
      · have hm : m + 1 < 2 := by rw [xn_lit, xn_lt (by omega) (by omega)] at q4; exact q4
        rw [lw_dn0 hm] at he
        refine vv_bipush C dX1_greatestTo_24 bp_m2 ?_
        exact vs_iret C F dX1_greatestTo_26 rfl ⟨he, rfl⟩
      · have hm : 2 ≤ m + 1 := by rw [xn_lit, xn_lt (by omega) (by omega)] at q4; omega
        rw [lw_dn1 hm] at he
        refine vv_aload_n C dX1_greatestTo_7 rfl ?_
        refine vv_iload_n C dX1_greatestTo_8 rfl ?_
        refine vv_i2l C dX1_greatestTo_9 ?_
        refine vs_eql (v9 := lN (m + 1)) (xn_i2l (by omega)) ?_
        refine vs_caliF C dX1_greatestTo_10 (c_X1_isLawful g S hS law hl hs (m + 1) (by omega)) mb_X1_isLawful mv_X1_isLawful lk_X1_38 ce_4 rfl rfl rfl rfl ⟨Nat.le_of_ble_eq_true rfl, Nat.le_of_ble_eq_true rfl, Nat.le_of_ble_eq_true rfl⟩ ?_
        refine vv_if_eq (tgt := 18) C dX1_greatestTo_13 (by decide) (fun q13 => ?_) (fun q13 => ?_)
        · rw [if_neg (by rw [vs_b0.mp q13]; decide)] at he
          refine vw_iinc (lv9 := [_, _, _]) C dX1_greatestTo_18 rfl ic_m1 (by decide) rfl rfl ?_
          refine vv_goto (tgt := 2) C dX1_greatestTo_21 (by decide) ?_
          rw [pk_m1]
          exact ih (by omega) (by omega) he
        · rw [if_pos (vs_b1.mp q13)] at he
          refine vv_iload_n C dX1_greatestTo_16 rfl ?_
          exact vs_iret C F dX1_greatestTo_17 rfl ⟨he, rfl⟩
  refine vv_iload_n C dX1_greatestTo_0 rfl ?_
  refine vw_istore_n (lv9 := [_, _, _]) C dX1_greatestTo_1 (by decide) rfl rfl ?_
  rcases hv with e | ⟨e, e2⟩
  · subst e
    exact loop n hn (by omega) rfl
  · subst e2
    refine vv_iload_n C dX1_greatestTo_2 rfl ?_
    refine vv_iconst C dX1_greatestTo_3 ic_2 ?_
    refine vv_icmp_lt (tgt := 24) C dX1_greatestTo_4 (by decide) (fun q4 => ?_) (fun q4 => ?_)
    · refine vv_bipush C dX1_greatestTo_24 bp_m2 ?_
      exact vs_iret C F dX1_greatestTo_26 rfl ⟨rfl, rfl⟩
    · exact absurd (Int32.lt_trans e (by decide)) q4
set_option maxRecDepth 20000 in
theorem c_X1_nearest (g : vv_G) (S : vs_S) (hS : nx_ok S) (law : Nat) (hl : law ≤ 3) (hs : S.1 0 = nI law) (v : Int32) : vs_FI g yX1_nearest cX1_nearest 4 (some .int) 6 [vv_r g 4, .int v] S (lw_near (lw_next (np_lx law) v.toNatClampNeg) (lw_dn (np_lx law) v.toNatClampNeg) v) S := by
  refine vs_ofI (lv := [_, _, _, _]) mb_X1_nearest (Nat.le_of_ble_eq_true rfl) rfl (fun x C F => ?_)
  refine vv_aload_n C dX1_nearest_0 rfl ?_
  refine vv_iload_n C dX1_nearest_1 rfl ?_
  refine vs_caliF C dX1_nearest_2 (c_X1_leastFrom g S hS law hl hs _) mb_X1_leastFrom mv_X1_leastFrom lk_X1_41 ce_4 rfl rfl rfl rfl ⟨Nat.le_of_ble_eq_true rfl, Nat.le_of_ble_eq_true rfl, Nat.le_of_ble_eq_true rfl⟩ ?_
  refine vw_istore_n (lv9 := [_, _, _, _]) C dX1_nearest_5 (by decide) rfl rfl ?_
  refine vv_aload_n C dX1_nearest_6 rfl ?_
  refine vv_iload_n C dX1_nearest_7 rfl ?_
  refine vs_caliF C dX1_nearest_8 (c_X1_greatestTo g S hS law hl hs _) mb_X1_greatestTo mv_X1_greatestTo lk_X1_45 ce_4 rfl rfl rfl rfl ⟨Nat.le_of_ble_eq_true rfl, Nat.le_of_ble_eq_true rfl, Nat.le_of_ble_eq_true rfl⟩ ?_
  refine vw_istore_n (lv9 := [_, _, _, _]) C dX1_nearest_11 (by decide) rfl rfl ?_
  refine vv_iload_n C dX1_nearest_12 rfl ?_
  refine vv_bipush C dX1_nearest_13 bp_m2 ?_
  refine vv_icmp_eq (tgt := 24) C dX1_nearest_15 (by decide) (fun q15 => ?_) (fun q15 => ?_)
  · refine vv_iload_n C dX1_nearest_24 rfl ?_
    refine vv_iload_n C dX1_nearest_25 rfl ?_
    refine vv_mmax C dX1_nearest_26 lk_X1_31 ⟨Nat.le_of_ble_eq_true rfl, Nat.le_of_ble_eq_true rfl, Nat.zero_le _, Nat.zero_le _⟩ ?_
    exact vs_iret C F dX1_nearest_29 rfl ⟨by unfold lw_near; first | rw [if_pos q15] | rw [if_neg q15, if_pos q21], rfl⟩
  · refine vv_iload_n C dX1_nearest_18 rfl ?_
    refine vv_bipush C dX1_nearest_19 bp_m2 ?_
    refine vv_icmp_ne (tgt := 30) C dX1_nearest_21 (by decide) (fun q21 => ?_) (fun q21 => ?_)
    · refine vv_iload_n C dX1_nearest_30 rfl ?_
      refine vv_iload_n C dX1_nearest_31 rfl ?_
      refine vv_isub C dX1_nearest_32 ?_
      refine vv_iload_n C dX1_nearest_33 rfl ?_
      refine vv_iload_n C dX1_nearest_34 rfl ?_
      refine vv_isub C dX1_nearest_35 ?_
      refine vv_icmp_ge (tgt := 43) C dX1_nearest_36 (by decide) (fun q36 => ?_) (fun q36 => ?_)
      · refine vv_iload_n C dX1_nearest_43 rfl ?_
        exact vs_iret C F dX1_nearest_44 rfl ⟨by unfold lw_near; rw [if_neg q15, if_neg q21]; first | rw [if_pos (Int32.not_le.mp q36)] | rw [if_neg (Int32.not_lt.mpr q36)], rfl⟩
      · refine vv_iload_n C dX1_nearest_39 rfl ?_
        refine vv_goto (tgt := 44) C dX1_nearest_40 (by decide) ?_
        exact vs_iret C F dX1_nearest_44 rfl ⟨by unfold lw_near; rw [if_neg q15, if_neg q21]; first | rw [if_pos (Int32.not_le.mp q36)] | rw [if_neg (Int32.not_lt.mpr q36)], rfl⟩
    · refine vv_iload_n C dX1_nearest_24 rfl ?_
      refine vv_iload_n C dX1_nearest_25 rfl ?_
      refine vv_mmax C dX1_nearest_26 lk_X1_31 ⟨Nat.le_of_ble_eq_true rfl, Nat.le_of_ble_eq_true rfl, Nat.zero_le _, Nat.zero_le _⟩ ?_
      exact vs_iret C F dX1_nearest_29 rfl ⟨by unfold lw_near; first | rw [if_pos q15] | rw [if_neg q15, if_pos q21], rfl⟩
