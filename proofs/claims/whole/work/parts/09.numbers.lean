/-! shifts and masks of longs -/
theorem xm1 (v : Int32) : v + (-1) = v - 1 := (Int32.sub_eq_add_neg v 1).symm
theorem xb_tn {n : Nat} (h : n < 2 ^ 64) : (lN n).toBitVec.toNat = n := Nat.mod_eq_of_lt h
theorem xb_shr {n : Nat} (h : n < 2 ^ 63) (s : Int64) (k : Nat) (hs : (s.toBitVec.smod 64).toNat = k) : lN n >>> s = lN (n / 2 ^ k) := by
  apply Int64.toInt_inj.mp
  have h2 : n / 2 ^ k ≤ n := Nat.div_le_self _ _
  have e : (lN n >>> s).toInt = (lN n).toInt >>> k := by
    show ((lN n).toBitVec.sshiftRight (s.toBitVec.smod 64).toNat).toInt = _
    rw [hs, BitVec.toInt_sshiftRight]
    rfl
  rw [e, xn_lN h, xn_lN (by omega), Int.shiftRight_eq_div_pow]
  rfl
theorem xb_shl {n : Nat} (s : Int64) (k : Nat) (hs : (s.toBitVec.smod 64).toNat = k) (h : n * 2 ^ k < 2 ^ 64) : lN n <<< s = lN (n * 2 ^ k) := by
  apply Int64.toBitVec_inj.mp
  apply BitVec.eq_of_toNat_eq
  have hn : n < 2 ^ 64 := by
    have := Nat.le_mul_of_pos_right n (Nat.two_pow_pos k)
    omega
  show ((lN n).toBitVec <<< (s.toBitVec.smod 64).toNat).toNat = _
  rw [hs, BitVec.toNat_shiftLeft, Nat.shiftLeft_eq, xb_tn hn, xb_tn h]
  exact Nat.mod_eq_of_lt h
theorem xb_and {n : Nat} (h : n < 2 ^ 64) {m : Int64} (k : Nat) (hm : m.toBitVec.toNat = 2 ^ k - 1) : lN n &&& m = lN (n % 2 ^ k) := by
  apply Int64.toBitVec_inj.mp
  apply BitVec.eq_of_toNat_eq
  rw [Int64.toBitVec_and, BitVec.toNat_and, hm, Nat.and_two_pow_sub_one_eq_mod, xb_tn h, xb_tn (Nat.lt_of_le_of_lt (Nat.mod_le _ _) h)]
theorem xb_amt : ∀ k, k < 64 → (((nI k).toInt64 &&& 63 : Int64).toBitVec.smod 64).toNat = k := by decide +kernel
theorem xb_amt32 : ∀ k, k < 32 → ((nI k &&& 31 : Int32).toBitVec.smod 32).toNat = k := by decide +kernel
/-! THE CLASS'S NUMBERS -/
/-- the sieve's bits tell what is whole -/
def nx_ok (S : vs_S) : Prop := ∀ n, n < 100003 → ((S.2.1 2 (n / 32) >>> (nI (n % 32) &&& 31)) &&& 1) = (if np_pr n = true then 1 else 0)
def np_sp (b n : Nat) : Nat → Nat → Bool
  | 0, made => !(made == 1)
  | k + 1, made => if made * made % n = 1 ∧ ¬ made = 1 ∧ ¬ made = n - 1 then true else np_sp b n k (if (n - 1) / 2 ^ k % 2 = 1 then (made * made % n) * b % n else made * made % n)
/-- what the class takes for whole -/
def np_wx (n : Nat) : Bool := if n < 100003 ∨ 1099511627776 ≤ n then np_pr n else [2, 3, 5, 7, 11, 13].all (fun b => !(n % b == 0) && !(np_sp b n 41 1))
theorem np_prod {a b n : Nat} : ((a * (b / 2 ^ 20) % n) * 2 ^ 20 + a * (b % 2 ^ 20)) % n = a * b % n := by
  rw [Nat.add_mod, Nat.mul_mod, Nat.mod_mod, ← Nat.mul_mod, ← Nat.add_mod]
  congr 1
  rw [Nat.mul_assoc, ← Nat.mul_add]
  congr 1
  have := Nat.div_add_mod b (2 ^ 20)
  rw [Nat.mul_comm] at this
  exact this
theorem np_pb {a b x y : Nat} (h1 : a < x) (h2 : b ≤ y) : a * b ≤ x * y := Nat.mul_le_mul (Nat.le_of_lt h1) h2
def np_bs (i : Nat) : Nat := [2, 3, 5, 7, 11, 13].getD i 0
theorem np_bs6 : ∀ i, i < 6 → vv_fB i = nI (np_bs i) ∧ 2 ≤ np_bs i ∧ np_bs i < 14 ∧ [2, 3, 5, 7, 11, 13].drop i = np_bs i :: [2, 3, 5, 7, 11, 13].drop (i + 1) := by decide +kernel
def np_xl (n : Nat) : Nat := if np_wx n = true then n else np_lp n
/-- small parts, as they are sought -/
def np_small (n most : Nat) (r : Int64) : Prop := (r = 0 ∧ np_no n (most + 1)) ∨ ∃ q, r = lN q ∧ np_LP n q ∧ (q ≤ most + 2) ∧ (q ≤ 3 ∨ q ≤ most ∨ (q - 2) % 6 = 5 ∧ q - 2 ≤ most)
theorem np_no1 {n a : Nat} (h : ∀ d, 2 ≤ d → d < a → ¬ d ∣ n) : np_no n a := h
theorem np_LP2 {n : Nat} (h : 2 ∣ n) : np_LP n 2 := ⟨Nat.le_refl _, h, fun _ h1 _ => h1⟩
theorem np_LP3 {n : Nat} (h2 : ¬ 2 ∣ n) (h : 3 ∣ n) : np_LP n 3 := by
  refine ⟨by omega, h, fun d h1 h3 => Nat.le_of_not_lt (fun h4 => h2 ?_)⟩
  have e : d = 2 := by omega
  rw [e] at h3
  exact h3
def np_be (n : Nat) : Nat := if np_lp n ≤ 10000 then n / np_lp n else 2
def np_g2 (n : Nat) : Nat → Nat → Bool
  | 0, _ => false
  | f + 1, a => if 2 * a ≤ n then (if np_pr a && np_pr (n - a) then true else np_g2 n f (a + 2)) else false
def np_go (n : Nat) : Bool := if n % 2 = 1 then np_pr (n - 2) else if n = 4 then true else np_g2 n n 3
/-- what the reference takes for lawful -/
def np_lm (law n : Nat) : Bool := if n < 2 then false else if law = 0 then np_pr n else if law = 1 then decide (np_lp n < n) && np_pr (n / np_lp n) else if law = 2 then np_go n else np_pr n && (np_pr (n + 2) || np_pr (n - 2))
/-- what the class takes for lawful -/
def np_l0 (law n : Nat) : Bool := if n < 2 then false else if law = 0 then np_wx n else if law = 1 then !(np_wx n) && np_wx (np_be n) else if law = 2 then (if n % 2 = 0 then decide (2 < n) else np_wx (n - 2)) else np_wx n && (np_wx (n + 2) || np_wx (n - 2))
def np_lx (law n : Nat) : Bool := if n ≤ 1000000000000 then np_l0 law n else np_lm law n
theorem np_lx0 {law n : Nat} (h : n ≤ 1000000000000) : np_lx law n = np_l0 law n := if_pos h
theorem np_be_small {n : Nat} {r : Int64} (h2 : 2 ≤ n) (h : np_small n 10000 r) : (r = 0 ∧ np_be n = 2) ∨ ∃ q, r = lN q ∧ 0 < q ∧ q < 2 ^ 20 ∧ np_be n = n / q := by
  rcases h with ⟨h1, h3⟩ | ⟨q, h1, h3, h4, h5⟩
  · left
    refine ⟨h1, ?_⟩
    unfold np_be
    rw [if_neg]
    intro h6
    exact h3 _ (np_lp_spec h2).1 (by omega) (np_lp_spec h2).2.1
  · right
    have e := np_lp_eq h2 h3
    have h6 := h3.1
    refine ⟨q, h1, by omega, by omega, ?_⟩
    unfold np_be
    rw [e, if_pos (by omega)]
theorem np_xl_small {n : Nat} {r : Int64} (h2 : 2 ≤ n) (hn : n ≤ 1000000000000) (hw : np_wx n = false) (h : np_small n 1000000 r) : (r = 0 ∧ np_xl n = n) ∨ ∃ q, r = lN q ∧ 0 < q ∧ q < 2 ^ 21 ∧ np_xl n = q := by
  unfold np_xl
  rw [hw]
  rcases h with ⟨h1, h3⟩ | ⟨q, h1, h3, h4, h5⟩
  · left
    exact ⟨h1, by rw [if_neg (by decide)]; exact np_root h2 h3 (by omega)⟩
  · right
    have h6 := h3.1
    exact ⟨q, h1, by omega, by omega, by rw [if_neg (by decide)]; exact np_lp_eq h2 h3⟩

set_option maxRecDepth 20000 in
theorem c_X3_sieved (g : vv_G) (S : vs_S) (hS : nx_ok S) (n : Nat) (hn : n < 100003) : vs_FI g yX3_sieved cX3_sieved 2 (some .boolean) 1 [vv_r g 1, .int (nI n)] S (vs_b (np_pr n)) S := by
  refine vs_ofI (lv := [_, _]) mb_X3_sieved (Nat.le_of_ble_eq_true rfl) rfl (fun x C F => ?_)
  refine vv_aload_n C dX3_sieved_0 rfl ?_
  refine gf_X3_whole C dX3_sieved_1 fg_X3_11 ?_
  refine vv_iload_n C dX3_sieved_4 rfl ?_
  refine vv_iconst C dX3_sieved_5 ic_5 ?_
  refine vv_ishr C dX3_sieved_6 ?_
  refine vs_eqi (v9 := nI (n / 32)) (pk_shrN (by omega) _ 5 (by decide +kernel)) ?_
  refine ld_2 C dX3_sieved_7 (xn_in (by omega) (by omega)) ?_
  refine vs_eqi (v9 := S.2.1 2 (n / 32)) (by rw [xn_cl (by omega)]) ?_
  refine vv_iload_n C dX3_sieved_8 rfl ?_
  refine vv_bipush C dX3_sieved_9 bp_31 ?_
  refine vv_iand C dX3_sieved_11 ?_
  refine vs_eqi (v9 := nI (n % 32)) (pk_andN (by omega) 5 (by decide +kernel)) ?_
  refine vv_ishr C dX3_sieved_12 ?_
  refine vv_iconst C dX3_sieved_13 ic_1 ?_
  refine vv_iand C dX3_sieved_14 ?_
  refine vs_eqi (v9 := if np_pr n = true then 1 else 0) (hS n hn) ?_
  refine vv_iconst C dX3_sieved_15 ic_1 ?_
  refine vv_icmp_ne (tgt := 23) C dX3_sieved_16 (by decide) (fun q16 => ?_) (fun q16 => ?_)
  · refine vv_iconst C dX3_sieved_23 ic_0 ?_
    exact vs_zret C F dX3_sieved_24 rfl rfl ⟨by cases h : np_pr n <;> simp [h, vs_b] at *, rfl⟩
  · refine vv_iconst C dX3_sieved_19 ic_1 ?_
    refine vv_goto (tgt := 24) C dX3_sieved_20 (by decide) ?_
    exact vs_zret C F dX3_sieved_24 rfl rfl ⟨by cases h : np_pr n <;> simp [h, vs_b] at *, rfl⟩
set_option maxRecDepth 20000 in
theorem c_X3_product (g : vv_G) (S : vs_S) (a b n : Nat) (h2 : 2 ≤ n) (ha : a < 2 ^ 40) (hb : b < 2 ^ 40) (hn : n < 2 ^ 40) : vs_FL g yX3_product cX3_product 8 (some .long) 1 [.long (lN a), .long (lN b), .long (lN n)] S (lN (a * b % n)) S := by
  have m1 : a * (b / 2 ^ 20) < 2 ^ 60 := by
    have h5 : b / 2 ^ 20 < 2 ^ 20 := by omega
    have h6 := Nat.mul_lt_mul_of_le_of_lt (Nat.le_of_lt ha) h5 (by omega)
    omega
  have m2 : a * (b % 2 ^ 20) < 2 ^ 60 := by
    have h5 : b % 2 ^ 20 < 2 ^ 20 := by omega
    have h6 := Nat.mul_lt_mul_of_le_of_lt (Nat.le_of_lt ha) h5 (by omega)
    omega
  have m3 : a * (b / 2 ^ 20) % n < 2 ^ 40 := Nat.lt_trans (Nat.mod_lt _ (by omega)) hn
  refine vs_ofL (lv := [_, _, _, _, _, _, _, _]) mb_X3_product (Nat.le_of_ble_eq_true rfl) rfl (fun x C F => ?_)
  refine vv_lload C dX3_product_0 rfl ?_
  refine vv_ldc2 C dX3_product_2 kc_X3_34 ?_
  refine vv_lcmp C dX3_product_5 ?_
  refine vv_if_ge (tgt := 11) C dX3_product_6 (by decide) (fun q6 => ?_) (fun q6 => ?_)
  · refine vv_lload_n C dX3_product_11 rfl ?_
    refine vv_lload_n C dX3_product_12 rfl ?_
    refine vv_bipush C dX3_product_13 bp_20 ?_
    refine vv_lshr C dX3_product_15 ?_
    refine vs_eql (v9 := lN (b / 2 ^ 20)) (xb_shr (by omega) _ 20 (by decide +kernel)) ?_
    refine vv_lmul C dX3_product_16 ?_
    refine vs_eql (v9 := lN (a * (b / 2 ^ 20))) (xn_lmul _ _) ?_
    refine vv_lload C dX3_product_17 rfl ?_
    refine vv_lrem C dX3_product_19 (np_lne (by omega) (by omega)) ?_
    refine vs_eql (v9 := lN (a * (b / 2 ^ 20) % n)) (xn_lmod (by omega) (by omega)) ?_
    refine vw_lstore (lv9 := [_, _, _, _, _, _, _, _]) C dX3_product_20 (by decide) rfl rfl ?_
    refine vv_lload C dX3_product_22 rfl ?_
    refine vv_bipush C dX3_product_24 bp_20 ?_
    refine vv_lshl C dX3_product_26 ?_
    refine vs_eql (v9 := lN (a * (b / 2 ^ 20) % n * 2 ^ 20)) (xb_shl _ 20 (by decide +kernel) (by omega)) ?_
    refine vv_lload_n C dX3_product_27 rfl ?_
    refine vv_lload_n C dX3_product_28 rfl ?_
    refine vv_ldc2 C dX3_product_29 kc_X3_75 ?_
    refine vv_land C dX3_product_32 ?_
    refine vs_eql (v9 := lN (b % 2 ^ 20)) (xb_and (by omega) 20 (by decide +kernel)) ?_
    refine vv_lmul C dX3_product_33 ?_
    refine vs_eql (v9 := lN (a * (b % 2 ^ 20))) (xn_lmul _ _) ?_
    refine vv_ladd C dX3_product_34 ?_
    refine vs_eql (v9 := lN (a * (b / 2 ^ 20) % n * 2 ^ 20 + a * (b % 2 ^ 20))) (lN_add _ _) ?_
    refine vv_lload C dX3_product_35 rfl ?_
    refine vv_lrem C dX3_product_37 (np_lne (by omega) (by omega)) ?_
    refine vs_eql (v9 := lN (a * b % n)) (by rw [xn_lmod (by omega) (by omega), np_prod]) ?_
    exact vs_lret C F dX3_product_38 rfl ⟨rfl, rfl⟩
  · exact absurd ((lg_cmp_ge _ _).mpr (by rw [xn_lit64, xn_lle (by omega) (by omega)]; exact h2)) q6
set_option maxRecDepth 20000 in
theorem c_X3_showsParts (g : vv_G) (S : vs_S) (b n : Nat) (hb : b < 14) (h2 : 100003 ≤ n) (hn : n < 2 ^ 40) : vs_FI g yX3_showsParts cX3_showsParts 9 (some .boolean) 2 [.long (lN b), .long (lN n)] S (vs_b (np_sp b n 41 1)) S := by
  refine vs_ofI (lv := [_, _, _, _, _, _, _, _, _]) mb_X3_showsParts (Nat.le_of_ble_eq_true rfl) rfl (fun x C F => ?_)
  have loop : ∀ (k made : Nat) (w : Option Value), k ≤ 41 → made < n → np_sp b n k made = np_sp b n 41 1 → vv_V g x 9 0 0 7 [some (.long (lN b)), none, some (.long (lN n)), none, some (.long (lN made)), none, some (.int (nI k - 1)), w, none] [] (vs_cells g S) := by
    intro k
    induction k with
    | zero =>
      intro made w hk hm he
      refine vv_iload C dX3_showsParts_7 rfl ?_
      refine vv_if_lt (tgt := 80) C dX3_showsParts_9 (by decide) (fun q9 => ?_) (fun q9 => ?_)
      · refine vv_lload C dX3_showsParts_80 rfl ?_
        refine vv_lconst C dX3_showsParts_82 lc_1 ?_
        refine vv_lcmp C dX3_showsParts_83 ?_
        have c2 : lg_cmp (lN made) 1 = 0 ↔ made = 1 := by rw [lg_cmp_eq, xn_lit64, xn_leq (by omega) (by omega)]
        refine vv_if_eq (tgt := 91) C dX3_showsParts_84 (by decide) (fun q84 => ?_) (fun q84 => ?_)
        · refine vv_iconst C dX3_showsParts_91 ic_0 ?_
          exact vs_zret C F dX3_showsParts_92 rfl rfl ⟨by rw [← he]; unfold np_sp; first | (rw [c2.mp q84]; rfl) | (rw [beq_false_of_ne (fun z => q84 (c2.mpr z))]; rfl), rfl⟩
        · refine vv_iconst C dX3_showsParts_87 ic_1 ?_
          refine vv_goto (tgt := 92) C dX3_showsParts_88 (by decide) ?_
          exact vs_zret C F dX3_showsParts_92 rfl rfl ⟨by rw [← he]; unfold np_sp; first | (rw [c2.mp q84]; rfl) | (rw [beq_false_of_ne (fun z => q84 (c2.mpr z))]; rfl), rfl⟩
      · exact absurd (by decide +kernel : nI 0 - 1 < 0) q9
    | succ k ih =>
      intro made w hk hm he
      have hk1 : nI (k + 1) - 1 = nI k := nI_pred k
      have hlt : made * made % n < n := Nat.mod_lt _ (by omega)
      have hlt2 : (made * made % n) * b % n < n := Nat.mod_lt _ (by omega)
      refine vs_eqlv (lv9 := [_, _, _, _, _, _, some (.int (nI k)), _, _]) (by rw [hk1]) ?_
      have c1 : lg_cmp (lN (made * made % n)) 1 = 0 ↔ made * made % n = 1 := by rw [lg_cmp_eq, xn_lit64, xn_leq (by omega) (by omega)]
      have c2 : lg_cmp (lN made) 1 = 0 ↔ made = 1 := by rw [lg_cmp_eq, xn_lit64, xn_leq (by omega) (by omega)]
      have c3 : lg_cmp (lN made) (lN (n - 1)) = 0 ↔ made = n - 1 := by rw [lg_cmp_eq, xn_leq (by omega) (by omega)]
      have c4 : lg_cmp (lN ((n - 1) / 2 ^ k % 2)) 1 = 0 ↔ (n - 1) / 2 ^ k % 2 = 1 := by rw [lg_cmp_eq, xn_lit64, xn_leq (by omega) (by omega)]
      have hdv : (n - 1) / 2 ^ k ≤ n - 1 := Nat.div_le_self _ _
      have iret : (made * made % n = 1 ∧ ¬ made = 1 ∧ ¬ made = n - 1) → (1 : Int32) = vs_b (np_sp b n 41 1) := by
        intro q
        rw [← he]
        unfold np_sp
        rw [if_pos q]
        rfl
      have bit : ¬ (made * made % n = 1 ∧ ¬ made = 1 ∧ ¬ made = n - 1) → vv_V g x 9 0 0 47 [some (.long (lN b)), none, some (.long (lN n)), none, some (.long (lN made)), none, some (.int (nI k)), some (.long (lN (made * made % n))), none] [] (vs_cells g S) := by
        intro q
        have he2 := he
        unfold np_sp at he2
        rw [if_neg q] at he2
        refine vv_lload_n C dX3_showsParts_47 rfl ?_
        refine vv_lconst C dX3_showsParts_48 lc_1 ?_
        refine vv_lsub C dX3_showsParts_49 ?_
        refine vs_eql (v9 := lN (n - 1)) (by rw [xn_lit64, xn_lsub (by omega)]) ?_
        refine vv_iload C dX3_showsParts_50 rfl ?_
        refine vv_lshr C dX3_showsParts_52 ?_
        refine vs_eql (v9 := lN ((n - 1) / 2 ^ k)) (xb_shr (by omega) _ k (xb_amt k (by omega))) ?_
        refine vv_lconst C dX3_showsParts_53 lc_1 ?_
        refine vv_land C dX3_showsParts_54 ?_
        refine vs_eql (v9 := lN ((n - 1) / 2 ^ k % 2)) (xb_and (by omega) 1 (by decide +kernel)) ?_
        refine vv_lconst C dX3_showsParts_55 lc_1 ?_
        refine vv_lcmp C dX3_showsParts_56 ?_
        refine vv_if_ne (tgt := 70) C dX3_showsParts_57 (by decide) (fun q57 => ?_) (fun q57 => ?_)
        · rw [if_neg (fun z => q57 (c4.mpr z))] at he2
          refine vv_lload C dX3_showsParts_70 rfl ?_
          refine vw_lstore (lv9 := [_, _, _, _, _, _, _, _, _]) C dX3_showsParts_72 (by decide) rfl rfl ?_
          refine vw_iinc (lv9 := [_, _, _, _, _, _, _, _, _]) C dX3_showsParts_74 rfl ic_m1 (by decide) rfl rfl ?_
          refine vv_goto (tgt := 7) C dX3_showsParts_77 (by decide) ?_
          have := ih _ (some (.long (lN (made * made % n)))) (by omega) (by omega) he2
          rw [xm1]
          exact this
        · rw [if_pos (c4.mp q57)] at he2
          refine vv_lload C dX3_showsParts_60 rfl ?_
          refine vv_lload_n C dX3_showsParts_62 rfl ?_
          refine vv_lload_n C dX3_showsParts_63 rfl ?_
          refine vs_calslF C dX3_showsParts_64 (c_X3_product g S (made * made % n) b n (by omega) (by omega) (by omega) (by omega)) mb_X3_product ms_X3_product lk_X3_72 rfl rfl ⟨Nat.le_of_ble_eq_true rfl, Nat.le_of_ble_eq_true rfl, Nat.le_of_ble_eq_true rfl⟩ ?_
          refine vv_goto (tgt := 72) C dX3_showsParts_67 (by decide) ?_
          refine vw_lstore (lv9 := [_, _, _, _, _, _, _, _, _]) C dX3_showsParts_72 (by decide) rfl rfl ?_
          refine vw_iinc (lv9 := [_, _, _, _, _, _, _, _, _]) C dX3_showsParts_74 rfl ic_m1 (by decide) rfl rfl ?_
          refine vv_goto (tgt := 7) C dX3_showsParts_77 (by decide) ?_
          have := ih _ (some (.long (lN (made * made % n)))) (by omega) (by omega) he2
          rw [xm1]
          exact this
      refine vv_iload C dX3_showsParts_7 rfl ?_
      refine vv_if_lt (tgt := 80) C dX3_showsParts_9 (by decide) (fun q9 => ?_) (fun q9 => ?_)
      · exact absurd q9 (xn_neg (by omega))
      · refine vv_lload C dX3_showsParts_12 rfl ?_
        refine vv_lload C dX3_showsParts_14 rfl ?_
        refine vv_lload_n C dX3_showsParts_16 rfl ?_
        refine vs_calslF C dX3_showsParts_17 (c_X3_product g S made made n (by omega) (by omega) (by omega) (by omega)) mb_X3_product ms_X3_product lk_X3_72 rfl rfl ⟨Nat.le_of_ble_eq_true rfl, Nat.le_of_ble_eq_true rfl, Nat.le_of_ble_eq_true rfl⟩ ?_
        refine vw_lstore (lv9 := [_, _, _, _, _, _, _, _, _]) C dX3_showsParts_20 (by decide) rfl rfl ?_
        refine vv_lload C dX3_showsParts_22 rfl ?_
        refine vv_lconst C dX3_showsParts_24 lc_1 ?_
        refine vv_lcmp C dX3_showsParts_25 ?_
        refine vv_if_ne (tgt := 47) C dX3_showsParts_26 (by decide) (fun q26 => ?_) (fun q26 => ?_)
        · exact bit (fun z => q26 (c1.mpr z.1))
        · refine vv_lload C dX3_showsParts_29 rfl ?_
          refine vv_lconst C dX3_showsParts_31 lc_1 ?_
          refine vv_lcmp C dX3_showsParts_32 ?_
          refine vv_if_eq (tgt := 47) C dX3_showsParts_33 (by decide) (fun q33 => ?_) (fun q33 => ?_)
          · exact bit (fun z => z.2.1 (c2.mp q33))
          · refine vv_lload C dX3_showsParts_36 rfl ?_
            refine vv_lload_n C dX3_showsParts_38 rfl ?_
            refine vv_lconst C dX3_showsParts_39 lc_1 ?_
            refine vv_lsub C dX3_showsParts_40 ?_
            refine vs_eql (v9 := lN (n - 1)) (by rw [xn_lit64, xn_lsub (by omega)]) ?_
            refine vv_lcmp C dX3_showsParts_41 ?_
            refine vv_if_eq (tgt := 47) C dX3_showsParts_42 (by decide) (fun q42 => ?_) (fun q42 => ?_)
            · exact bit (fun z => z.2.2 (c3.mp q42))
            · refine vv_iconst C dX3_showsParts_45 ic_1 ?_
              exact vs_zret C F dX3_showsParts_46 rfl rfl ⟨iret ⟨c1.mp q26, fun z => q33 (c2.mpr z), fun z => q42 (c3.mpr z)⟩, rfl⟩
  refine vv_lconst C dX3_showsParts_0 lc_1 ?_
  refine vw_lstore (lv9 := [_, _, _, _, _, _, _, _, _]) C dX3_showsParts_1 (by decide) rfl rfl ?_
  refine vv_bipush C dX3_showsParts_3 bp_40 ?_
  refine vw_istore (lv9 := [_, _, _, _, _, _, _, _, _]) C dX3_showsParts_5 (by decide) rfl rfl ?_
  exact loop 41 1 none (Nat.le_refl _) (by omega) rfl
