theorem pu_mul {a b : Nat} (h : a ≤ 9) (h2 : b ≤ 999) : a * b ≤ 8991 := Nat.mul_le_mul h h2
theorem c_fill_costs (g : vv_G) (hfl : vv_fl g = false) (S : vs_S) (v : Int64) : vs_KV g yJ7_fill_d0a16 cJ7_fill_d0a16 5 none 1 [vv_r g 24, .long v] S (fun S1 => ∃ f1, S1 = vs_ul S 24 f1 ∧ ∀ j, j < 2001 → f1 j = v) :=
  c_fillJ g hfl _ (vv_n 24) 2001 (S.2.2 24) v (by omega) ce_24 _ (fun f1 h => ⟨vs_ul S 24 f1, sa_24, f1, rfl, h⟩)
/-- the row of costs, up to n -/
abbrev kc_R (n : Nat) (F : Nat → Option Nat) (S : vs_S) : Prop := ∀ u, u ≤ n → S.2.2 24 u = lN (en 4611686018427387903 (F u))
theorem kc_ul {S : vs_S} {m u : Nat} {v : Int64} (hm : m < 2 ^ 31) : (vs_ul S 24 (vp_updL (S.2.2 24) (nI m).toNatClampNeg v)).2.2 24 u = if u = m then v else S.2.2 24 u := by
  rw [vs_ul3, if_pos rfl, xn_cl hm]
  rfl
theorem xn_lmin {a b : Nat} (ha : a < 2 ^ 63) (hb : b < 2 ^ 63) : (if lN b < lN a then lN b else lN a) = lN (min a b) := by
  by_cases h : b < a
  · rw [if_pos ((xn_llt hb ha).mpr h), Nat.min_eq_right (by omega)]
  · rw [if_neg (fun z => h ((xn_llt hb ha).mp z)), Nat.min_eq_left (by omega)]
theorem kq_w1 {law w : Nat} (hw : w ≤ 999) (h : np_lx law w = true) : 1 ≤ w := by
  cases w with
  | zero =>
    rw [np_lx0 (by omega)] at h
    unfold np_l0 at h
    rw [if_pos (by omega)] at h
    cases h
  | succ w => omega
def cnr (o : Option Nat) : Int32 := match o with
  | none => -2
  | some x => nI x
theorem cnr_n {o : Option Nat} (hb : ∀ x, o = some x → x ≤ 144) (h : cnr o = -2) : o = none := by
  cases o with
  | none => rfl
  | some y =>
    have h1 := hb y rfl
    have h2 := congrArg Int32.toInt (show nI y = -2 from h)
    rw [xn_toInt (by omega)] at h2
    have e2 : (-2 : Int32).toInt = -2 := rfl
    omega
theorem cnr_s {o : Option Nat} (h : ¬ cnr o = -2) : ∃ y, o = some y := by
  cases o with
  | none => exact absurd rfl h
  | some y => exact ⟨y, rfl⟩
theorem cn_i {sz : Nat} {i : Int32} (hsz : sz ≤ 16) (h : vs_w i (-1) (nI sz - 1) = true) (h1 : ¬ i = -1) : ∃ k, k < sz ∧ i = nI k := by
  obtain ⟨h2, h3⟩ := vs_wT h
  obtain ⟨k, hk, e⟩ := xn_m1 h2 h1
  subst e
  refine ⟨k, ?_, rfl⟩
  cases sz with
  | zero => exact absurd (Int32.le_trans (nI_pos' hk) h3) (by decide)
  | succ m =>
    rw [nI_pred, xn_le hk (by omega)] at h3
    omega
set_option maxRecDepth 20000 in
theorem c_X5_payWith (g : vv_G) (S : vs_S) (hfl : vv_fl g = false) (f : Nat → Option Nat) (hf : ∀ u y, f u = some y → y ≤ 1440000000000000000) (w K q n : Nat) (hw : 1 ≤ w) (hw9 : w ≤ 999) (hK : K ≤ 9) (hq : q ≤ 10000000000000000) (hn : n ≤ 2000) (hR : kc_R n f S) : vs_KV g yX5_payWith cX5_payWith 8 none 1 [vv_r g 23, .int (nI w), .int (nI K), .long (lN q), .int (nI n)] S (fun S1 => vs_fr [] [] [24] S S1 ∧ kc_R n (fun u => (kq_m f w q u K)) S1) := by
  refine vs_ofV (lv := [_, _, _, _, _, _, _, _]) mb_X5_payWith (Nat.le_of_ble_eq_true rfl) rfl (fun x C F => ?_)
  have hfb : ∀ u, en 4611686018427387903 (f u) ≤ 4611686018427387903 := fun u => by
    cases e : f u with
    | none => exact Nat.le_refl _
    | some y =>
      have := hf u y e
      show y ≤ 4611686018427387903
      omega
  have hmb : ∀ u k, k ≤ K → en 4611686018427387903 (kq_m f w q u k) ≤ 4611686018427387903 := fun u k hk => by
    cases e : (kq_m f w q u k) with
    | none => exact Nat.le_refl _
    | some y =>
      have h1 := kq_mle hf k y e
      have h2 : k * q ≤ 9 * 10000000000000000 := Nat.mul_le_mul (by omega) hq
      show y ≤ 4611686018427387903
      omega
  have fin : ∀ m, m < w → ∀ u, (if m < u then (kq_m f w q u K) else f u) = (kq_m f w q u K) := fun m hm u => by
    split
    · rfl
    · next z => exact (kq_stop (k := 0) (by rw [Nat.zero_add, Nat.one_mul]; omega) K (Nat.zero_le _)).symm
  have outer : ∀ (m : Nat) (w7 : Option Value) (S2 : vs_S), m ≤ n → vs_fr [] [] [24] S S2 → (∀ u, u ≤ n → S2.2.2 24 u = lN (en 4611686018427387903 (if m < u then (kq_m f w q u K) else f u))) → vv_V g x 8 0 0 4 [some (vv_r g 23), some (.int (nI w)), some (.int (nI K)), some (.long (lN q)), none, some (.int (nI n)), some (.int (nI (m))), w7] [] (vs_cells g S2) := by
    intro m
    induction m with
    | zero =>
      intro w7 S2 hm fr hR2
      refine vv_iload C dX5_payWith_4 rfl ?_
      refine vv_iload_n C dX5_payWith_6 rfl ?_
      refine vv_icmp_lt (tgt := 75) C dX5_payWith_7 (by decide) (fun q7 => ?_) (fun q7 => ?_)
      · exact vs_vret C F dX5_payWith_75 rfl ⟨fr, fun u hu => by rw [hR2 u hu, fin 0 (by omega)]⟩
      · exact absurd ((xn_lt (by omega) (by omega)).mpr (by omega)) q7
    | succ m ih =>
      intro w7 S2 hm fr hR2
      have fin69 : ∀ (w7 : Option Value) (S3 : vs_S), vs_fr [] [] [24] S S3 → (∀ u, u ≤ n → S3.2.2 24 u = lN (en 4611686018427387903 (if u = m + 1 then (kq_m f w q (m + 1) K) else if m + 1 < u then (kq_m f w q u K) else f u))) → vv_V g x 8 0 0 69 [some (vv_r g 23), some (.int (nI w)), some (.int (nI K)), some (.long (lN q)), none, some (.int (nI n)), some (.int (nI (m + 1))), w7] [] (vs_cells g S3) := by
        intro w7 S3 fr3 h3
        refine vw_iinc (lv9 := [_, _, _, _, _, _, _, _]) C dX5_payWith_69 rfl ic_m1 (by decide) rfl rfl ?_
        refine vv_goto (tgt := 4) C dX5_payWith_72 (by decide) ?_
        show vv_V g x 8 0 0 4 [_, _, _, _, _, _, some (.int (nI (m + 1) + -1)), _] _ _
        rw [xm1, nI_pred]
        refine ih _ S3 (by omega) fr3 (fun u hu => ?_)
        rw [h3 u hu]
        by_cases z : u = m + 1
        · subst z
          rw [if_pos rfl, if_pos (by omega)]
        · rw [if_neg z]
          by_cases y : m + 1 < u
          · rw [if_pos y, if_pos (by omega)]
          · rw [if_neg y, if_neg (by omega)]
      have inner : ∀ (t k : Nat) (S3 : vs_S), k + t = K → vs_fr [] [] [24] S S3 → (∀ u, u ≤ n → S3.2.2 24 u = lN (en 4611686018427387903 (if u = m + 1 then (kq_m f w q (m + 1) k) else if m + 1 < u then (kq_m f w q u K) else f u))) → vv_V g x 8 0 0 13 [some (vv_r g 23), some (.int (nI w)), some (.int (nI K)), some (.long (lN q)), none, some (.int (nI n)), some (.int (nI (m + 1))), some (.int (nI (k + 1)))] [] (vs_cells g S3) := by
        intro t
        induction t with
        | zero =>
          intro k S3 h1 fr3 h3
          have hk : K = k := by omega
          subst hk
          refine vv_iload C dX5_payWith_13 rfl ?_
          refine vv_iload_n C dX5_payWith_15 rfl ?_
          refine vv_icmp_gt (tgt := 69) C dX5_payWith_16 (by decide) (fun q16 => ?_) (fun q16 => ?_)
          · exact fin69 _ S3 fr3 h3
          · exact absurd ((xn_lt (by omega) (by omega)).mpr (Nat.lt_succ_self _)) q16
        | succ t ih2 =>
          intro k S3 h1 fr3 h3
          have hkw := pu_mul (a := k + 1) (b := w) (by omega) (by omega)
          have hkw1 : w ≤ (k + 1) * w := Nat.le_mul_of_pos_left _ (by omega)
          have hq9 : (k + 1) * q ≤ 9 * 10000000000000000 := Nat.mul_le_mul (by omega) hq
          have hb1 := hmb (m + 1) k (by omega)
          have hb2 := hfb (m + 1 - (k + 1) * w)
          have hmin := en_min (Z := 4611686018427387903) (c := (k + 1) * q) (a := (kq_m f w q (m + 1) k)) (b := f (m + 1 - (k + 1) * w)) (fun x hx => by rw [hx] at hb1; exact hb1) (fun y hy => by have := hf _ y hy; omega)
          refine vv_iload C dX5_payWith_13 rfl ?_
          refine vv_iload_n C dX5_payWith_15 rfl ?_
          refine vv_icmp_gt (tgt := 69) C dX5_payWith_16 (by decide) (fun q16 => ?_) (fun q16 => ?_)
          · exact absurd q16 (by rw [xn_lt (by omega) (by omega)]; omega)
          · refine vv_iload C dX5_payWith_19 rfl ?_
            refine vv_iload_n C dX5_payWith_21 rfl ?_
            refine vv_imul C dX5_payWith_22 ?_
            refine vs_eqi (v9 := nI ((k + 1) * w)) (xn_mul _ _) ?_
            refine vv_iload C dX5_payWith_23 rfl ?_
            refine vv_icmp_gt (tgt := 69) C dX5_payWith_25 (by decide) (fun q25 => ?_) (fun q25 => ?_)
            · have hz : m + 1 < (k + 1) * w := by rw [xn_lt (by omega) (by omega)] at q25; exact q25
              exact fin69 _ S3 fr3 (fun u hu => by rw [h3 u hu, kq_stop hz K (by omega)])
            · have hz : (k + 1) * w ≤ m + 1 := by rw [xn_lt (by omega) (by omega)] at q25; omega
              refine vv_aload_n C dX5_payWith_28 rfl ?_
              refine gf_X5_costs C dX5_payWith_29 fg_X5_13 ?_
              refine vv_iload C dX5_payWith_32 rfl ?_
              refine vv_aload_n C dX5_payWith_34 rfl ?_
              refine gf_X5_costs C dX5_payWith_35 fg_X5_13 ?_
              refine vv_iload C dX5_payWith_38 rfl ?_
              refine ld_24 C dX5_payWith_40 (xn_in (by omega) (by omega)) ?_
              refine vs_eql (v9 := lN (en 4611686018427387903 (kq_m f w q (m + 1) k))) (by rw [xn_cl (by omega), h3 (m + 1) (by omega), if_pos rfl]) ?_
              refine vv_aload_n C dX5_payWith_41 rfl ?_
              refine gf_X5_costs C dX5_payWith_42 fg_X5_13 ?_
              refine vv_iload C dX5_payWith_45 rfl ?_
              refine vv_iload C dX5_payWith_47 rfl ?_
              refine vv_iload_n C dX5_payWith_49 rfl ?_
              refine vv_imul C dX5_payWith_50 ?_
              refine vs_eqi (v9 := nI ((k + 1) * w)) (xn_mul _ _) ?_
              refine vv_isub C dX5_payWith_51 ?_
              refine vs_eqi (v9 := nI (m + 1 - (k + 1) * w)) (xn_sub (by omega)) ?_
              refine ld_24 C dX5_payWith_52 (xn_in (by omega) (by omega)) ?_
              refine vs_eql (v9 := lN (en 4611686018427387903 (f (m + 1 - (k + 1) * w)))) (by rw [xn_cl (by omega), h3 _ (by omega), if_neg (by omega), if_neg (by omega)]) ?_
              refine vv_iload C dX5_payWith_53 rfl ?_
              refine vv_i2l C dX5_payWith_55 ?_
              refine vs_eql (v9 := lN (k + 1)) (xn_i2l (by omega)) ?_
              refine vv_lload_n C dX5_payWith_56 rfl ?_
              refine vv_lmul C dX5_payWith_57 ?_
              refine vs_eql (v9 := lN ((k + 1) * q)) (xn_lmul _ _) ?_
              refine vv_ladd C dX5_payWith_58 ?_
              refine vs_eql (v9 := lN (en 4611686018427387903 (f (m + 1 - (k + 1) * w)) + (k + 1) * q)) (lN_add _ _) ?_
              refine vv_mminL C dX5_payWith_59 lk_X5_68 ⟨Nat.le_of_ble_eq_true rfl, Nat.le_of_ble_eq_true rfl, Nat.zero_le _, Nat.zero_le _⟩ ?_
              refine vs_eql (v9 := lN (en 4611686018427387903 (kq_m f w q (m + 1) (k + 1)))) (by rw [xn_lmin (by omega) (by omega), kq_m1, if_pos hz, hmin]) ?_
              refine st_24 hfl C dX5_payWith_62 (xn_in (by omega) (by omega)) ?_
              refine vw_iinc (lv9 := [_, _, _, _, _, _, _, _]) C dX5_payWith_63 rfl ic_1 (by decide) rfl rfl ?_
              refine vv_goto (tgt := 13) C dX5_payWith_66 (by decide) ?_
              rw [nI_1]
              refine ih2 (k + 1) _ (by omega) (fr3.ul (by decide)) (fun u hu => ?_)
              rw [kc_ul (by omega)]
              by_cases z : u = m + 1
              · rw [if_pos z, if_pos z]
              · rw [if_neg z, if_neg z, h3 u hu, if_neg z]
      refine vv_iload C dX5_payWith_4 rfl ?_
      refine vv_iload_n C dX5_payWith_6 rfl ?_
      refine vv_icmp_lt (tgt := 75) C dX5_payWith_7 (by decide) (fun q7 => ?_) (fun q7 => ?_)
      · have hlt : m + 1 < w := by rw [xn_lt (by omega) (by omega)] at q7; exact q7
        exact vs_vret C F dX5_payWith_75 rfl ⟨fr, fun u hu => by rw [hR2 u hu, fin (m + 1) hlt]⟩
      · have hge : w ≤ m + 1 := by rw [xn_lt (by omega) (by omega)] at q7; omega
        refine vv_iconst C dX5_payWith_10 ic_1 ?_
        refine vw_istore (lv9 := [_, _, _, _, _, _, _, _]) C dX5_payWith_11 (by decide) rfl rfl ?_
        refine inner K 0 S2 (Nat.zero_add _) fr (fun u hu => ?_)
        rw [hR2 u hu]
        by_cases z : u = m + 1
        · rw [if_pos z, if_neg (by omega), z]
          rfl
        · rw [if_neg z]
  refine vv_iload C dX5_payWith_0 rfl ?_
  refine vw_istore (lv9 := [_, _, _, _, _, _, _, _]) C dX5_payWith_2 (by decide) rfl rfl ?_
  exact outer n _ S (Nat.le_refl _) vs_fr.rf (fun u hu => by rw [if_neg (by omega)]; exact hR u hu)
set_option maxRecDepth 20000 in
theorem c_X5_inAll (g : vv_G) (S : vs_S) (n : Nat) (hn : n ≤ 2000) (xc y D : Nat) (hv : S.2.2 24 n = lN y) (hy : y + D = xc * 10000000000000000) (hD : D < 10000000000000000) (hx : xc ≤ 144) : vs_FI g yX5_inAll cX5_inAll 2 (some .int) 1 [vv_r g 23, .int (nI n)] S (nI xc) S := by
  refine vs_ofI (lv := [_, _]) mb_X5_inAll (Nat.le_of_ble_eq_true rfl) rfl (fun x C F => ?_)
  refine vv_aload_n C dX5_inAll_0 rfl ?_
  refine gf_X5_costs C dX5_inAll_1 fg_X5_13 ?_
  refine vv_iload_n C dX5_inAll_4 rfl ?_
  refine ld_24 C dX5_inAll_5 (xn_in (by omega) (by omega)) ?_
  refine vs_eql (v9 := lN y) (by rw [xn_cl (by omega)]; exact hv) ?_
  refine vv_ldc2 C dX5_inAll_6 kc_X5_47 ?_
  refine vv_ladd C dX5_inAll_9 ?_
  refine vs_eql (v9 := lN (y + 10000000000000000)) (lN_add y 10000000000000000) ?_
  refine vv_lconst C dX5_inAll_10 lc_1 ?_
  refine vv_lsub C dX5_inAll_11 ?_
  refine vs_eql (v9 := lN (y + 10000000000000000 - 1)) (xn_lsub (a := y + 10000000000000000) (b := 1) (by omega)) ?_
  refine vv_ldc2 C dX5_inAll_12 kc_X5_47 ?_
  refine vv_ldiv C dX5_inAll_15 (np_lne (a := 10000000000000000) (by omega) (by omega)) ?_
  refine vs_eql (v9 := lN xc) (by rw [xn_lit64, xn_ldiv (by omega) (by omega)]; exact congrArg lN (by omega)) ?_
  refine vv_l2i C dX5_inAll_16 ?_
  refine vs_eqi (v9 := nI xc) (xn_l2i _) ?_
  exact vs_iret C F dX5_inAll_17 rfl ⟨rfl, rfl⟩
set_option maxRecDepth 20000 in
theorem c_X5_fewestOf (g : vv_G) (S : vs_S) (n : Nat) (hn : n ≤ 2000) (i : Nat) (hi : i < 16) (xc y D : Nat) (hv : S.2.2 24 n = lN y) (hy : y + D = xc * 10000000000000000) (hD : D < 10000000000000000) (hx : xc ≤ 144) : vs_FI g yX5_fewestOf cX5_fewestOf 6 (some .int) 2 [vv_r g 23, .int (nI n), .int (nI i)] S (nI (D / kq_d i % 10)) S := by
  refine vs_ofI (lv := [_, _, _, _, _, _]) mb_X5_fewestOf (Nat.le_of_ble_eq_true rfl) rfl (fun x C F => ?_)
  have loop : ∀ (f k : Nat), k + f = 16 → i + 1 ≤ k → vv_V g x 6 0 0 23 [some (vv_r g 23), some (.int (nI n)), some (.int (nI i)), some (.long (lN (D / 10 ^ (k - (i + 1))))), none, some (.int (nI k))] [] (vs_cells g S) := by
    intro f
    induction f with
    | zero =>
      intro k h1 h2
      have hk : 16 = k := by omega
      subst hk
      have hle := Nat.div_le_self D (kq_d i)
      have e16 : 10 ^ (16 - (i + 1)) = kq_d i := by
        unfold kq_d
        rw [show 16 - (i + 1) = 15 - i by omega]
      rw [e16]
      refine vv_iload C dX5_fewestOf_23 rfl ?_
      refine vv_bipush C dX5_fewestOf_25 bp_16 ?_
      refine vv_icmp_ge (tgt := 42) C dX5_fewestOf_27 (by decide) (fun q27 => ?_) (fun q27 => ?_)
      · refine vv_lload_n C dX5_fewestOf_42 rfl ?_
        refine vv_ldc2 C dX5_fewestOf_43 kc_X5_49 ?_
        refine vv_lrem C dX5_fewestOf_46 (np_lne (a := 10) (by omega) (by omega)) ?_
        refine vs_eql (v9 := lN (D / kq_d i % 10)) (by rw [xn_lit64, xn_lmod (by omega) (by omega)]) ?_
        refine vv_l2i C dX5_fewestOf_47 ?_
        refine vs_eqi (v9 := nI (D / kq_d i % 10)) (xn_l2i _) ?_
        exact vs_iret C F dX5_fewestOf_48 rfl ⟨rfl, rfl⟩
      · exact absurd (by decide +kernel : (16 : Int32) ≤ nI 16) q27
    | succ f ih =>
      intro k h1 h2
      have hle := Nat.div_le_self D (10 ^ (k - (i + 1)))
      refine vv_iload C dX5_fewestOf_23 rfl ?_
      refine vv_bipush C dX5_fewestOf_25 bp_16 ?_
      refine vv_icmp_ge (tgt := 42) C dX5_fewestOf_27 (by decide) (fun q27 => ?_) (fun q27 => ?_)
      · exact absurd q27 (by rw [xn_lit, xn_le (by omega) (by omega)]; omega)
      · refine vv_lload_n C dX5_fewestOf_30 rfl ?_
        refine vv_ldc2 C dX5_fewestOf_31 kc_X5_49 ?_
        refine vv_ldiv C dX5_fewestOf_34 (np_lne (a := 10) (by omega) (by omega)) ?_
        refine vs_eql (v9 := lN (D / 10 ^ (k + 1 - (i + 1)))) (by rw [xn_lit64, xn_ldiv (by omega) (by omega), show k + 1 - (i + 1) = (k - (i + 1)) + 1 by omega, Nat.pow_succ, Nat.div_div_eq_div_mul]) ?_
        refine vw_lstore_n (lv9 := [_, _, _, _, _, _]) C dX5_fewestOf_35 (by decide) rfl rfl ?_
        refine vw_iinc (lv9 := [_, _, _, _, _, _]) C dX5_fewestOf_36 rfl ic_1 (by decide) rfl rfl ?_
        refine vv_goto (tgt := 23) C dX5_fewestOf_39 (by decide) ?_
        rw [nI_1]
        exact ih (k + 1) (by omega) (by omega)
  refine vv_aload_n C dX5_fewestOf_0 rfl ?_
  refine vv_iload_n C dX5_fewestOf_1 rfl ?_
  refine vs_caliF C dX5_fewestOf_2 (c_X5_inAll g S n hn xc y D hv hy hD hx) mb_X5_inAll mv_X5_inAll lk_X5_65 ce_23 rfl rfl rfl rfl ⟨Nat.le_of_ble_eq_true rfl, Nat.le_of_ble_eq_true rfl, Nat.le_of_ble_eq_true rfl⟩ ?_
  refine vv_i2l C dX5_fewestOf_5 ?_
  refine vs_eql (v9 := lN xc) (xn_i2l (by omega)) ?_
  refine vv_ldc2 C dX5_fewestOf_6 kc_X5_47 ?_
  refine vv_lmul C dX5_fewestOf_9 ?_
  refine vs_eql (v9 := lN (xc * 10000000000000000)) (xn_lmul xc 10000000000000000) ?_
  refine vv_aload_n C dX5_fewestOf_10 rfl ?_
  refine gf_X5_costs C dX5_fewestOf_11 fg_X5_13 ?_
  refine vv_iload_n C dX5_fewestOf_14 rfl ?_
  refine ld_24 C dX5_fewestOf_15 (xn_in (by omega) (by omega)) ?_
  refine vs_eql (v9 := lN y) (by rw [xn_cl (by omega)]; exact hv) ?_
  refine vv_lsub C dX5_fewestOf_16 ?_
  refine vs_eql (v9 := lN D) (by rw [xn_lsub (by omega)]; exact congrArg lN (by omega)) ?_
  refine vw_lstore_n (lv9 := [_, _, _, _, _, _]) C dX5_fewestOf_17 (by decide) rfl rfl ?_
  refine vv_iload_n C dX5_fewestOf_18 rfl ?_
  refine vv_iconst C dX5_fewestOf_19 ic_1 ?_
  refine vv_iadd C dX5_fewestOf_20 ?_
  refine vs_eqi (v9 := nI (i + 1)) (nI_1 _) ?_
  refine vw_istore (lv9 := [_, _, _, _, _, _]) C dX5_fewestOf_21 (by decide) rfl rfl ?_
  have h := loop (15 - i) (i + 1) (by omega) (Nat.le_refl _)
  rw [Nat.sub_self, Nat.pow_zero, Nat.div_one] at h
  exact h
set_option maxRecDepth 20000 in
theorem c_X5_fewestFor (g : vv_G) (S : vs_S) (hfl : vv_fl g = false) (hS : nx_ok S) (law : Nat) (hl : law ≤ 3) (hs : S.1 0 = nI law) (L : lg_L) (hL : lg_X S L) (hi : lg_in L) (sz : Nat) (hsz : sz ≤ 16) (hz9 : S.1 9 = nI sz) (n : Nat) (hn : n ≤ 2000) : vs_KI g yX5_fewestFor cX5_fewestFor 6 (some .int) 5 [vv_r g 23, .int (nI n)] S (fun r S1 => r = cnr (cF sz (cnW L) (cnM (np_lx law) L) sz n) ∧ (∀ x, cF sz (cnW L) (cnM (np_lx law) L) sz n = some x → ∃ y D, S1.2.2 24 n = lN y ∧ y + D = x * 10000000000000000 ∧ D < 10000000000000000 ∧ ∀ i, i < sz → D / kq_d i % 10 = ct sz (cnW L) (cnM (np_lx law) L) i 0 n) ∧ vs_fr [] [] [24] S S1) := by
  refine vs_ofI (lv := [_, _, _, _, _, _]) mb_X5_fewestFor (Nat.le_of_ble_eq_true rfl) rfl (fun x C F => ?_)
  have e19 : ∀ S2, vs_fr [] [] [24] S S2 → S2.2.1 19 = L.1 := fun S2 fr => (fr.2.1 19 (by decide)).trans (lg_H hL).symm
  have outer : ∀ (f i : Nat) (w5 : Option Value) (S2 : vs_S), i + f = sz → vs_fr [] [] [24] S S2 → kc_R n (kq_C (cnW L) (cnM (np_lx law) L) kq_Q i) S2 → vv_V g x 6 0 0 24 [some (vv_r g 23), some (.int (nI n)), some (.long (lN (10 ^ (16 - i)))), none, some (.int (nI i)), w5] [] (vs_cells g S2) := by
    intro f
    induction f with
    | zero =>
      intro i w5 S2 h1 fr hR
      have hk : sz = i := by omega
      subst hk
      have hbn : en 4611686018427387903 (kq_C (cnW L) (cnM (np_lx law) L) kq_Q sz n) ≤ 4611686018427387903 := by
        cases e : kq_C (cnW L) (cnM (np_lx law) L) kq_Q sz n with
        | none => exact Nat.le_refl _
        | some y =>
          have := kq_Cle (cnM_le hi) sz n y e
          show y ≤ 4611686018427387903
          omega
      refine vv_iload C dX5_fewestFor_24 rfl ?_
      refine vv_aload_n C dX5_fewestFor_26 rfl ?_
      refine gf_X5_size C dX5_fewestFor_27 fg_X5_29 ?_
      refine vs_eqi (v9 := nI sz) ((fr.1 9 (by decide)).trans hz9) ?_
      refine vv_icmp_ge (tgt := 96) C dX5_fewestFor_30 (by decide) (fun q30 => ?_) (fun q30 => ?_)
      · refine vv_aload_n C dX5_fewestFor_96 rfl ?_
        refine gf_X5_costs C dX5_fewestFor_97 fg_X5_13 ?_
        refine vv_iload_n C dX5_fewestFor_100 rfl ?_
        refine ld_24 C dX5_fewestFor_101 (xn_in (by omega) (by omega)) ?_
        refine vs_eql (v9 := lN (en 4611686018427387903 (kq_C (cnW L) (cnM (np_lx law) L) kq_Q sz n))) (by rw [xn_cl (by omega)]; exact hR n (Nat.le_refl _)) ?_
        refine vv_ldc2 C dX5_fewestFor_102 kc_X5_39 ?_
        refine vv_lcmp C dX5_fewestFor_105 ?_
        refine vv_if_ge (tgt := 117) C dX5_fewestFor_106 (by decide) (fun q106 => ?_) (fun q106 => ?_)
        · have h1 := (lg_cmp_ge _ _).mp q106
          rw [xn_lit64, xn_lle (by omega) (by omega)] at h1
          have hz : kq_C (cnW L) (cnM (np_lx law) L) kq_Q sz n = none := by
            cases e : kq_C (cnW L) (cnM (np_lx law) L) kq_Q sz n with
            | none => rfl
            | some y =>
              have h2 := kq_Cle (cnM_le hi) sz n y e
              rw [e] at h1
              have h3 : 4611686018427387903 ≤ y := h1
              omega
          refine vv_bipush C dX5_fewestFor_117 bp_m2 ?_
          first
          | exact vs_iret C F dX5_fewestFor_119 rfl ⟨by rw [kq_none hz]; rfl, fun x hx => (by rw [kq_none hz] at hx; cases hx), fr⟩
          | exact vs_iret C F dX5_fewestFor_119 rfl ⟨by rw [m1]; rfl, fun x hx => (by rw [m1] at hx; cases hx; exact ⟨y9, D9, hv9, m2, m3, m4⟩), fr⟩
        · have ey9 : ∃ y, kq_C (cnW L) (cnM (np_lx law) L) kq_Q sz n = some y := by
            cases e : kq_C (cnW L) (cnM (np_lx law) L) kq_Q sz n with
            | none =>
              rw [e] at q106
              exact absurd ((lg_cmp_ge _ _).mpr (by show lN 4611686018427387903 ≤ lN 4611686018427387903; exact Int64.le_refl _)) q106
            | some y => exact ⟨y, rfl⟩
          obtain ⟨y9, ey⟩ := ey9
          obtain ⟨x9, D9, m1, m2, m3, m4⟩ := kq_main hsz (cnM_le hi) ey
          have hx9 := cF_le (cnM_le hi) sz n x9 m1
          have hv9 : S2.2.2 24 n = lN y9 := by
            rw [hR n (Nat.le_refl _), ey]
            rfl
          refine vv_aload_n C dX5_fewestFor_109 rfl ?_
          refine vv_iload_n C dX5_fewestFor_110 rfl ?_
          refine vs_caliF C dX5_fewestFor_111 (c_X5_inAll g S2 n hn x9 y9 D9 hv9 m2 m3 (by omega)) mb_X5_inAll mv_X5_inAll lk_X5_65 ce_23 rfl rfl rfl rfl ⟨Nat.le_of_ble_eq_true rfl, Nat.le_of_ble_eq_true rfl, Nat.le_of_ble_eq_true rfl⟩ ?_
          refine vv_goto (tgt := 119) C dX5_fewestFor_114 (by decide) ?_
          first
          | exact vs_iret C F dX5_fewestFor_119 rfl ⟨by rw [kq_none hz]; rfl, fun x hx => (by rw [kq_none hz] at hx; cases hx), fr⟩
          | exact vs_iret C F dX5_fewestFor_119 rfl ⟨by rw [m1]; rfl, fun x hx => (by rw [m1] at hx; cases hx; exact ⟨y9, D9, hv9, m2, m3, m4⟩), fr⟩
      · exact absurd (Int32.le_refl _) q30
    | succ f ih =>
      intro i w5 S2 h1 fr hR
      have e19 := e19 S2 fr
      have hWi := cnW_le hi (i := i) (by omega)
      have hdl := kq_dle i
      have e16 : 10 ^ (16 - (i + 1)) = kq_d i := by
        unfold kq_d
        rw [show 16 - (i + 1) = 15 - i by omega]
      refine vv_iload C dX5_fewestFor_24 rfl ?_
      refine vv_aload_n C dX5_fewestFor_26 rfl ?_
      refine gf_X5_size C dX5_fewestFor_27 fg_X5_29 ?_
      refine vs_eqi (v9 := nI sz) ((fr.1 9 (by decide)).trans hz9) ?_
      refine vv_icmp_ge (tgt := 96) C dX5_fewestFor_30 (by decide) (fun q30 => ?_) (fun q30 => ?_)
      · exact absurd q30 (by rw [xn_le (by omega) (by omega)]; omega)
      · refine vv_lload_n C dX5_fewestFor_33 rfl ?_
        refine vv_ldc2 C dX5_fewestFor_34 kc_X5_49 ?_
        refine vv_ldiv C dX5_fewestFor_37 (np_lne (a := 10) (by omega) (by omega)) ?_
        refine vs_eql (v9 := lN (kq_d i)) (by rw [kq_d1 (by omega), xn_lit64, xn_ldiv (by omega) (by omega), Nat.mul_div_cancel_left _ (by omega)]) ?_
        refine vw_lstore_n (lv9 := [_, _, _, _, _, _]) C dX5_fewestFor_38 (by decide) rfl rfl ?_
        refine vv_aload_n C dX5_fewestFor_39 rfl ?_
        refine gf_X5_ledger C dX5_fewestFor_40 fg_X5_21 ?_
        refine vv_bipush C dX5_fewestFor_43 bp_64 ?_
        refine vv_iload C dX5_fewestFor_45 rfl ?_
        refine vv_iadd C dX5_fewestFor_47 ?_
        refine vs_eqi (v9 := nI (64 + i)) (nI_add 64 _) ?_
        refine vs_caliF C dX5_fewestFor_48 (c_X2_at g S2 (nI (64 + i)) (xn_in (by omega) (by omega))) mb_X2_at mv_X2_at lk_X5_51 ce_18 rfl rfl rfl rfl ⟨Nat.le_of_ble_eq_true rfl, Nat.le_of_ble_eq_true rfl, Nat.le_of_ble_eq_true rfl⟩ ?_
        refine vs_eqi (v9 := nI (cnW L i)) (by rw [xn_cl (by omega), e19]; exact (lg_inD hi (p := 64 + i) (by omega)).1) ?_
        refine vw_istore (lv9 := [_, _, _, _, _, _]) C dX5_fewestFor_51 (by decide) rfl rfl ?_
        refine vv_aload_n C dX5_fewestFor_53 rfl ?_
        refine gf_X5_laws C dX5_fewestFor_54 fg_X5_17 ?_
        refine vv_iload C dX5_fewestFor_57 rfl ?_
        refine vv_i2l C dX5_fewestFor_59 ?_
        refine vs_eql (v9 := lN (cnW L i)) (xn_i2l (by omega)) ?_
        refine vs_caliF C dX5_fewestFor_60 (c_X1_isLawful g S2 (nx_fr hS fr (by decide)) law hl ((fr.1 0 (by decide)).trans hs) (cnW L i) (by omega)) mb_X1_isLawful mv_X1_isLawful lk_X5_55 ce_4 rfl rfl rfl rfl ⟨Nat.le_of_ble_eq_true rfl, Nat.le_of_ble_eq_true rfl, Nat.le_of_ble_eq_true rfl⟩ ?_
        refine vv_if_eq (tgt := 90) C dX5_fewestFor_63 (by decide) (fun q63 => ?_) (fun q63 => ?_)
        · have hp : np_lx law (cnW L i) = false := vs_b0.mp q63
          refine vw_iinc (lv9 := [_, _, _, _, _, _]) C dX5_fewestFor_90 rfl ic_1 (by decide) rfl rfl ?_
          refine vv_goto (tgt := 24) C dX5_fewestFor_93 (by decide) ?_
          rw [nI_1, ← e16]
          first
          | exact ih (i + 1) _ S87 (by omega) (fr.tr p87.1) p87.2
          | exact ih (i + 1) _ S2 (by omega) fr (fun u hu => by rw [kq_C1, show (cnM (np_lx law) L) i = 0 from (by unfold cnM; rw [if_pos (by omega), if_neg (by rw [show lgD L (64 + i) = cnW L i from rfl, hp]; decide)])]; exact hR u hu)
        · have hp : np_lx law (cnW L i) = true := vs_b1.mp q63
          refine vv_aload_n C dX5_fewestFor_66 rfl ?_
          refine vv_iload C dX5_fewestFor_67 rfl ?_
          refine vv_aload_n C dX5_fewestFor_69 rfl ?_
          refine gf_X5_ledger C dX5_fewestFor_70 fg_X5_21 ?_
          refine vv_bipush C dX5_fewestFor_73 bp_80 ?_
          refine vv_iload C dX5_fewestFor_75 rfl ?_
          refine vv_iadd C dX5_fewestFor_77 ?_
          refine vs_eqi (v9 := nI (80 + i)) (nI_add 80 _) ?_
          refine vs_caliF C dX5_fewestFor_78 (c_X2_at g S2 (nI (80 + i)) (xn_in (by omega) (by omega))) mb_X2_at mv_X2_at lk_X5_51 ce_18 rfl rfl rfl rfl ⟨Nat.le_of_ble_eq_true rfl, Nat.le_of_ble_eq_true rfl, Nat.le_of_ble_eq_true rfl⟩ ?_
          refine vs_eqi (v9 := nI ((cnM (np_lx law) L) i)) (by rw [xn_cl (by omega), e19]; unfold cnM; rw [if_pos (by omega), if_pos (show np_lx law (lgD L (64 + i)) = true from hp)]; exact (lg_inD hi (p := 80 + i) (by omega)).1) ?_
          refine vv_ldc2 C dX5_fewestFor_81 kc_X5_47 ?_
          refine vv_lload_n C dX5_fewestFor_84 rfl ?_
          refine vv_lsub C dX5_fewestFor_85 ?_
          refine vs_eql (v9 := lN (kq_Q i)) (xn_lsub (a := 10000000000000000) (b := kq_d i) (by omega)) ?_
          refine vv_iload_n C dX5_fewestFor_86 rfl ?_
          refine vs_callv C dX5_fewestFor_87 (c_X5_payWith g S2 hfl (kq_C (cnW L) (cnM (np_lx law) L) kq_Q i) (fun u y h => by have := kq_Cle (cnM_le hi) i u y h; omega) (cnW L i) ((cnM (np_lx law) L) i) (kq_Q i) n (kq_w1 hWi hp) hWi (cnM_le hi i) (Nat.sub_le _ _) hn hR) mb_X5_payWith mv_X5_payWith lk_X5_61 ce_23 rfl rfl rfl rfl ⟨Nat.le_of_ble_eq_true rfl, Nat.le_of_ble_eq_true rfl, Nat.le_of_ble_eq_true rfl⟩ (fun S87 p87 => ?_)
          refine vw_iinc (lv9 := [_, _, _, _, _, _]) C dX5_fewestFor_90 rfl ic_1 (by decide) rfl rfl ?_
          refine vv_goto (tgt := 24) C dX5_fewestFor_93 (by decide) ?_
          rw [nI_1, ← e16]
          first
          | exact ih (i + 1) _ S87 (by omega) (fr.tr p87.1) p87.2
          | exact ih (i + 1) _ S2 (by omega) fr (fun u hu => by rw [kq_C1, show (cnM (np_lx law) L) i = 0 from (by unfold cnM; rw [if_pos (by omega), if_neg (by rw [show lgD L (64 + i) = cnW L i from rfl, hp]; decide)])]; exact hR u hu)
  refine vv_aload_n C dX5_fewestFor_0 rfl ?_
  refine gf_X5_costs C dX5_fewestFor_1 fg_X5_13 ?_
  refine vv_ldc2 C dX5_fewestFor_4 kc_X5_39 ?_
  refine vs_callsv C dX5_fewestFor_7 (c_fill_costs g hfl S 4611686018427387903) mb_J7_fill_d0a16 ms_J7_fill_d0a16 lk_X5_41 rfl rfl ⟨Nat.le_of_ble_eq_true rfl, Nat.le_of_ble_eq_true rfl, Nat.le_of_ble_eq_true rfl⟩ (fun S7 p7 => ?_)
  obtain ⟨f1, e7, h7⟩ := p7
  subst e7
  refine vv_aload_n C dX5_fewestFor_10 rfl ?_
  refine gf_X5_costs C dX5_fewestFor_11 fg_X5_13 ?_
  refine vv_iconst C dX5_fewestFor_14 ic_0 ?_
  refine vv_lconst C dX5_fewestFor_15 lc_0 ?_
  refine st_24 hfl C dX5_fewestFor_16 (xn_in (n := 0) (by omega) (by omega)) ?_
  refine vv_ldc2 C dX5_fewestFor_17 kc_X5_47 ?_
  refine vs_eql (v9 := lN (10 ^ (16 - 0))) (congrArg lN (show 10000000000000000 = 10 ^ (16 - 0) by decide)) ?_
  refine vw_lstore_n (lv9 := [_, _, _, _, _, _]) C dX5_fewestFor_20 (by decide) rfl rfl ?_
  refine vv_iconst C dX5_fewestFor_21 ic_0 ?_
  refine vw_istore (lv9 := [_, _, _, _, _, _]) C dX5_fewestFor_22 (by decide) rfl rfl ?_
  refine outer sz 0 none _ (Nat.zero_add _) ((vs_fr.rf.ul (by decide)).ul (by decide)) (fun u hu => ?_)
  refine (kc_ul (m := 0) (by omega)).trans ?_
  show (if u = 0 then (0 : Int64) else f1 u) = lN (en 4611686018427387903 (if u = 0 then some 0 else none))
  by_cases z : u = 0
  · rw [if_pos z, if_pos z]
    rfl
  · rw [if_neg z, if_neg z]
    exact h7 u (by omega)
set_option maxRecDepth 20000 in
theorem c_X11_coins (g : vv_G) (S : vs_S) (hfl : vv_fl g = false) (hS : nx_ok S) (law : Nat) (hl : law ≤ 3) (hs : S.1 0 = nI law) (L : lg_L) (hL : lg_X S L) (hi : lg_in L) (sz : Nat) (hsz : sz ≤ 16) (hz9 : S.1 9 = nI sz) (n i : Int32) : vs_KI g yX11_coins cX11_coins 4 (some .int) 6 [vv_r g 0, .int n, .int i] S (fun r S1 => r = (if (vs_w n 0 2000 && vs_w i (-1) (nI sz - 1)) = true then cnv sz (cnW L) (cnM (np_lx law) L) n.toNatClampNeg i else -1) ∧ vs_fr [] [] [24] S S1) := by
  refine vs_ofI (lv := [_, _, _, _]) mb_X11_coins (Nat.le_of_ble_eq_true rfl) rfl (fun x C F => ?_)
  refine vv_iload_n C dX11_coins_0 rfl ?_
  refine vv_iconst C dX11_coins_1 ic_0 ?_
  refine vv_sipush C dX11_coins_2 sp_2000 ?_
  refine vs_calsiF C dX11_coins_5 (c_X11_within g S _ _ _) mb_X11_within ms_X11_within lk_X11_94 rfl rfl ⟨Nat.le_of_ble_eq_true rfl, Nat.le_of_ble_eq_true rfl, Nat.le_of_ble_eq_true rfl⟩ ?_
  refine vv_if_eq (tgt := 28) C dX11_coins_8 (by decide) (fun q8 => ?_) (fun q8 => ?_)
  · have hw : ¬ (vs_w n 0 2000 && vs_w i (-1) (nI sz - 1)) = true := by rw [show vs_w n 0 2000 = false from vs_b0.mp q8, Bool.false_and]; decide
    refine vv_iconst C dX11_coins_28 ic_m1 ?_
    exact vs_iret C F dX11_coins_29 rfl ⟨by rw [if_neg hw], vs_fr.rf⟩
  · have w1 : vs_w n 0 2000 = true := vs_b1.mp q8
    obtain ⟨n1, _, hn2, en1⟩ := vs_wN (a := 0) (b := 2000) (by omega) (by omega) w1
    subst en1
    refine vv_iload_n C dX11_coins_11 rfl ?_
    refine vv_iconst C dX11_coins_12 ic_m1 ?_
    refine vv_aload_n C dX11_coins_13 rfl ?_
    refine gf_X11_purse C dX11_coins_14 fg_X11_53 ?_
    refine vs_caliF C dX11_coins_17 (c_X5_size g S) mb_X5_size mv_X5_size lk_X11_165 ce_23 rfl rfl rfl rfl ⟨Nat.le_of_ble_eq_true rfl, Nat.le_of_ble_eq_true rfl, Nat.le_of_ble_eq_true rfl⟩ ?_
    refine vs_eqi (v9 := nI sz) (hz9) ?_
    refine vv_iconst C dX11_coins_20 ic_1 ?_
    refine vv_isub C dX11_coins_21 ?_
    refine vs_calsiF C dX11_coins_22 (c_X11_within g S _ _ _) mb_X11_within ms_X11_within lk_X11_94 rfl rfl ⟨Nat.le_of_ble_eq_true rfl, Nat.le_of_ble_eq_true rfl, Nat.le_of_ble_eq_true rfl⟩ ?_
    refine vv_if_ne (tgt := 30) C dX11_coins_25 (by decide) (fun q25 => ?_) (fun q25 => ?_)
    · have w2 : vs_w i (-1) (nI sz - 1) = true := vs_b1.mp q25
      have hw : (vs_w (nI n1) 0 2000 && vs_w i (-1) (nI sz - 1)) = true := by rw [w1, w2]; rfl
      refine vv_aload_n C dX11_coins_30 rfl ?_
      refine gf_X11_purse C dX11_coins_31 fg_X11_53 ?_
      refine vv_iload_n C dX11_coins_34 rfl ?_
      refine vs_calli C dX11_coins_35 (c_X5_fewestFor g S hfl hS law hl hs L hL hi sz hsz hz9 n1 hn2) mb_X5_fewestFor mv_X5_fewestFor lk_X11_171 ce_23 rfl rfl rfl rfl ⟨Nat.le_of_ble_eq_true rfl, Nat.le_of_ble_eq_true rfl, Nat.le_of_ble_eq_true rfl⟩ (fun r35 S35 p35 => ?_)
      obtain ⟨er, hM, fr⟩ := p35
      subst er
      refine vw_istore_n (lv9 := [_, _, _, _]) C dX11_coins_38 (by decide) rfl rfl ?_
      refine vv_iload_n C dX11_coins_39 rfl ?_
      refine vv_bipush C dX11_coins_40 bp_m2 ?_
      refine vv_icmp_eq (tgt := 50) C dX11_coins_42 (by decide) (fun q42 => ?_) (fun q42 => ?_)
      · have ex : cF sz (cnW L) (cnM (np_lx law) L) sz n1 = none := cnr_n (fun x hx => by have := cF_le (cnM_le hi) sz n1 x hx; omega) q42
        refine vv_iload_n C dX11_coins_50 rfl ?_
        refine vv_goto (tgt := 63) C dX11_coins_51 (by decide) ?_
        first
        | exact vs_iret C F dX11_coins_63 rfl ⟨by rw [if_pos hw, xn_cl (by omega)]; rw [q42]; unfold cnv; rw [ex], fr⟩
        | exact vs_iret C F dX11_coins_63 rfl ⟨by rw [if_pos hw, xn_cl (by omega)]; rw [e9]; unfold cnv; rw [ex]; exact (if_pos q47).symm, fr⟩
        | exact vs_iret C F dX11_coins_63 rfl ⟨by rw [if_pos hw, xn_cl (by omega)]; unfold cnv; rw [ex]; show _ = (if nI k1 = -1 then _ else _); rw [if_neg q47, xn_cl (by omega), g5 k1 hk1], fr⟩
      · obtain ⟨x9, ex⟩ := cnr_s q42
        obtain ⟨y9, D9, g1, g2, g3, g5⟩ := hM x9 ex
        have h144 := cF_le (cnM_le hi) sz n1 x9 ex
        have e9 : cnr (cF sz (cnW L) (cnM (np_lx law) L) sz n1) = nI x9 := by rw [ex]; rfl
        refine vv_iload_n C dX11_coins_45 rfl ?_
        refine vv_iconst C dX11_coins_46 ic_m1 ?_
        refine vv_icmp_ne (tgt := 54) C dX11_coins_47 (by decide) (fun q47 => ?_) (fun q47 => ?_)
        · obtain ⟨k1, hk1, ek1⟩ := cn_i hsz w2 q47
          subst ek1
          refine vv_aload_n C dX11_coins_54 rfl ?_
          refine gf_X11_purse C dX11_coins_55 fg_X11_53 ?_
          refine vv_iload_n C dX11_coins_58 rfl ?_
          refine vv_iload_n C dX11_coins_59 rfl ?_
          refine vs_caliF C dX11_coins_60 (c_X5_fewestOf g S35 n1 hn2 k1 (by omega) x9 y9 D9 g1 g2 g3 (by omega)) mb_X5_fewestOf mv_X5_fewestOf lk_X11_172 ce_23 rfl rfl rfl rfl ⟨Nat.le_of_ble_eq_true rfl, Nat.le_of_ble_eq_true rfl, Nat.le_of_ble_eq_true rfl⟩ ?_
          first
          | exact vs_iret C F dX11_coins_63 rfl ⟨by rw [if_pos hw, xn_cl (by omega)]; rw [q42]; unfold cnv; rw [ex], fr⟩
          | exact vs_iret C F dX11_coins_63 rfl ⟨by rw [if_pos hw, xn_cl (by omega)]; rw [e9]; unfold cnv; rw [ex]; exact (if_pos q47).symm, fr⟩
          | exact vs_iret C F dX11_coins_63 rfl ⟨by rw [if_pos hw, xn_cl (by omega)]; unfold cnv; rw [ex]; show _ = (if nI k1 = -1 then _ else _); rw [if_neg q47, xn_cl (by omega), g5 k1 hk1], fr⟩
        · refine vv_iload_n C dX11_coins_50 rfl ?_
          refine vv_goto (tgt := 63) C dX11_coins_51 (by decide) ?_
          first
          | exact vs_iret C F dX11_coins_63 rfl ⟨by rw [if_pos hw, xn_cl (by omega)]; rw [q42]; unfold cnv; rw [ex], fr⟩
          | exact vs_iret C F dX11_coins_63 rfl ⟨by rw [if_pos hw, xn_cl (by omega)]; rw [e9]; unfold cnv; rw [ex]; exact (if_pos q47).symm, fr⟩
          | exact vs_iret C F dX11_coins_63 rfl ⟨by rw [if_pos hw, xn_cl (by omega)]; unfold cnv; rw [ex]; show _ = (if nI k1 = -1 then _ else _); rw [if_neg q47, xn_cl (by omega), g5 k1 hk1], fr⟩
    · have hw : ¬ (vs_w (nI n1) 0 2000 && vs_w i (-1) (nI sz - 1)) = true := by rw [show vs_w i (-1) (nI sz - 1) = false from vs_b0.mp q25, Bool.and_false]; decide
      refine vv_iconst C dX11_coins_28 ic_m1 ?_
      exact vs_iret C F dX11_coins_29 rfl ⟨by rw [if_neg hw], vs_fr.rf⟩
