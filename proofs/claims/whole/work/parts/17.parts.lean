/-! powers, lists of parts, proofs -/
theorem np_pw1 {m s k n : Nat} (h : k % 2 = 1) : ((m * s % n) * (s * s % n) ^ (k / 2)) % n = (m * s ^ k) % n := by
  have e : s ^ k = s * (s * s) ^ (k / 2) := by
    have h1 : k = 2 * (k / 2) + 1 := by omega
    rw [← Nat.pow_two, ← Nat.pow_mul]
    conv => lhs; rw [h1]
    rw [Nat.pow_succ, Nat.mul_comm]
  rw [e, ← Nat.mul_assoc, Nat.mul_mod, Nat.mod_mod, Nat.pow_mod (s * s % n), Nat.mod_mod, ← Nat.pow_mod, ← Nat.mul_mod]
theorem np_pw0 {m s k n : Nat} (h : k % 2 = 0) : (m * (s * s % n) ^ (k / 2)) % n = (m * s ^ k) % n := by
  have e : s ^ k = (s * s) ^ (k / 2) := by
    have h1 : k = 2 * (k / 2) := by omega
    rw [← Nat.pow_two, ← Nat.pow_mul]
    conv => lhs; rw [h1]
  rw [e, Nat.mul_mod m, Nat.pow_mod (s * s % n), Nat.mod_mod, ← Nat.pow_mod, ← Nat.mul_mod]
def np_li (Q : Nat → Nat) : Nat → Nat → List Nat
  | 0, _ => []
  | f + 1, n => if n ≤ 1 then [] else Q n :: np_li Q f (n / Q n)
theorem np_li1 {Q : Nat → Nat} {f n : Nat} (h : ¬ n ≤ 1) : np_li Q (f + 1) n = Q n :: np_li Q f (n / Q n) := by
  show (if n ≤ 1 then [] else _) = _
  rw [if_neg h]
theorem np_li0 {Q : Nat → Nat} {f n : Nat} (h : n ≤ 1) : np_li Q f n = [] := by
  cases f with
  | zero => rfl
  | succ f => show (if n ≤ 1 then [] else _) = _; rw [if_pos h]
theorem np_xl_b {n : Nat} (h : 2 ≤ n) : 2 ≤ np_xl n ∧ np_xl n ≤ n := by
  unfold np_xl
  split
  · exact ⟨h, Nat.le_refl _⟩
  · exact ⟨(np_lp_spec h).1, np_lp_le h⟩
theorem np_lp_b {n : Nat} (h : 2 ≤ n) : 2 ≤ np_lp n ∧ np_lp n ≤ n := ⟨(np_lp_spec h).1, np_lp_le h⟩
/-- what the array at the head has of a list -/
def np_has (f : Nat → Int32) (l : List Nat) : Prop := ∀ (i x : Nat), l[i]? = some x → f i = nI x
theorem np_has.push {f : Nat → Int32} {l : List Nat} {x : Nat} (h : np_has f l) : np_has (upd f l.length (nI x)) (l ++ [x]) := by
  intro i y hy
  by_cases e : i = l.length
  · subst e
    rw [List.getElem?_append_right (Nat.le_refl _), Nat.sub_self] at hy
    cases hy
    exact pk_us
  · rw [pk_un e]
    by_cases e2 : i < l.length
    · rw [List.getElem?_append_left e2] at hy
      exact h i y hy
    · rw [List.getElem?_append_right (by omega)] at hy
      have h1 := (List.getElem?_eq_some_iff.mp hy).1
      simp at h1
      omega
theorem np_li_len {Q : Nat → Nat} : ∀ (f n : Nat), (np_li Q f n).length ≤ f
  | 0, _ => Nat.le_refl _
  | f + 1, n => by
    show (if n ≤ 1 then [] else _).length ≤ _
    split
    · exact Nat.zero_le _
    · exact Nat.succ_le_succ (np_li_len f _)
theorem np_li_ge {Q : Nat → Nat} (hQ : ∀ n, 2 ≤ n → 2 ≤ Q n ∧ Q n ≤ n) {m : Nat} : ∀ (f n : Nat), n ≤ m → ∀ x ∈ np_li Q f n, 2 ≤ x ∧ x ≤ m
  | 0, _, _, x, hx => by cases hx
  | f + 1, n, hn, x, hx => by
    by_cases h : n ≤ 1
    · rw [np_li0 h] at hx; cases hx
    · rw [np_li1 h] at hx
      have h1 := hQ n (by omega)
      rcases List.mem_cons.mp hx with e | e
      · rw [e]; exact ⟨h1.1, by omega⟩
      · exact np_li_ge hQ f _ (Nat.le_trans (Nat.div_le_self _ _) hn) x e
def np_pg (l : List Nat) (n g : Nat) : Bool := (g ^ (n - 1) % n == 1) && l.all (fun q => !(g ^ ((n - 1) / q) % n == 1))
def np_fp (p : Nat → Bool) : Nat → Nat → Int32
  | 0, _ => -2
  | f + 1, g => if p g = true then nI g else np_fp p f (g + 1)
theorem np_fp1 {p : Nat → Bool} {f g : Nat} : np_fp p (f + 1) g = if p g = true then nI g else np_fp p f (g + 1) := rfl
theorem xn_ieq1 {a : Nat} (ha : a < 2 ^ 63) : lg_cmp (lN a) 1 = 0 ↔ a = 1 := by rw [lg_cmp_eq, xn_lit64, xn_leq ha (by omega)]

set_option maxRecDepth 20000 in
theorem c_X3_power (g : vv_G) (S : vs_S) (a e n : Nat) (h2n : 2 ≤ n) (hn : n < 2 ^ 40) (ha : a < 2 ^ 40) (he0 : e < 2 ^ 32) : vs_FL g yX3_power cX3_power 12 (some .long) 2 [.long (lN a), .long (lN e), .long (lN n)] S (lN (a ^ e % n)) S := by
  refine vs_ofL (lv := [_, _, _, _, _, _, _, _, _, _, _, _]) mb_X3_power (Nat.le_of_ble_eq_true rfl) rfl (fun x C F => ?_)
  have loop : ∀ (f k m s : Nat), k < 2 ^ f → f ≤ 32 → m < n → s < 2 ^ 40 → (m * s ^ k) % n = a ^ e % n → vv_V g x 12 0 0 9 [some (.long (lN a)), none, some (.long (lN e)), none, some (.long (lN n)), none, some (.long (lN m)), none, some (.long (lN s)), none, some (.long (lN k)), none] [] (vs_cells g S) := by
    intro f
    induction f with
    | zero =>
      intro k m s h1 hf h2 h3 he
      have hk : k = 0 := by omega
      subst hk
      refine vv_lload C dX3_power_9 rfl ?_
      refine vv_lconst C dX3_power_11 lc_0 ?_
      refine vv_lcmp C dX3_power_12 ?_
      refine vv_if_le (tgt := 56) C dX3_power_13 (by decide) (fun q13 => ?_) (fun q13 => ?_)
      · refine vv_lload C dX3_power_56 rfl ?_
        exact vs_lret C F dX3_power_58 rfl ⟨by rw [← he, Nat.pow_zero, Nat.mul_one, Nat.mod_eq_of_lt h2], rfl⟩
      · exact absurd (by decide +kernel) q13
    | succ f ih =>
      intro k m s h1 hf h2 h3 he
      have hk31 : k < 2 ^ 32 := Nat.lt_of_lt_of_le h1 (Nat.pow_le_pow_right (by omega) hf)
      have hss : s * s % n < n := Nat.mod_lt _ (by omega)
      have hkd : k / 2 < 2 ^ f := by rw [Nat.pow_succ] at h1; omega
      have next : ∀ m2 : Nat, m2 < n → (m2 * (s * s % n) ^ (k / 2)) % n = a ^ e % n → vv_V g x 12 0 0 36 [some (.long (lN a)), none, some (.long (lN e)), none, some (.long (lN n)), none, some (.long (lN m2)), none, some (.long (lN s)), none, some (.long (lN k)), none] [] (vs_cells g S) := by
        intro m2 hm2 he2
        refine vv_lload C dX3_power_36 rfl ?_
        refine vv_lload C dX3_power_38 rfl ?_
        refine vv_lload C dX3_power_40 rfl ?_
        refine vs_calslF C dX3_power_42 (c_X3_product g S s s n h2n h3 h3 (by omega)) mb_X3_product ms_X3_product lk_X3_72 rfl rfl ⟨Nat.le_of_ble_eq_true rfl, Nat.le_of_ble_eq_true rfl, Nat.le_of_ble_eq_true rfl⟩ ?_
        refine vw_lstore (lv9 := [_, _, _, _, _, _, _, _, _, _, _, _]) C dX3_power_45 (by decide) rfl rfl ?_
        refine vv_lload C dX3_power_47 rfl ?_
        refine vv_iconst C dX3_power_49 ic_1 ?_
        refine vv_lshr C dX3_power_50 ?_
        refine vs_eql (v9 := lN (k / 2)) (xb_shr (by omega) _ 1 (by decide +kernel)) ?_
        refine vw_lstore (lv9 := [_, _, _, _, _, _, _, _, _, _, _, _]) C dX3_power_51 (by decide) rfl rfl ?_
        refine vv_goto (tgt := 9) C dX3_power_53 (by decide) ?_
        exact ih (k / 2) m2 (s * s % n) hkd (by omega) hm2 (by omega) he2
      refine vv_lload C dX3_power_9 rfl ?_
      refine vv_lconst C dX3_power_11 lc_0 ?_
      refine vv_lcmp C dX3_power_12 ?_
      refine vv_if_le (tgt := 56) C dX3_power_13 (by decide) (fun q13 => ?_) (fun q13 => ?_)
      · have hk : k = 0 := by rw [lg_cmp_le, xn_lit64, xn_lle (by omega) (by omega)] at q13; omega
        subst hk
        refine vv_lload C dX3_power_56 rfl ?_
        exact vs_lret C F dX3_power_58 rfl ⟨by rw [← he, Nat.pow_zero, Nat.mul_one, Nat.mod_eq_of_lt h2], rfl⟩
      · refine vv_lload C dX3_power_16 rfl ?_
        refine vv_lconst C dX3_power_18 lc_1 ?_
        refine vv_land C dX3_power_19 ?_
        refine vs_eql (v9 := lN (k % 2)) (xb_and (by omega) 1 (by decide +kernel)) ?_
        refine vv_lconst C dX3_power_20 lc_1 ?_
        refine vv_lcmp C dX3_power_21 ?_
        refine vv_if_ne (tgt := 36) C dX3_power_22 (by decide) (fun q22 => ?_) (fun q22 => ?_)
        · have hb1 : ¬ k % 2 = 1 := fun z => q22 ((xn_ieq1 (by omega)).mpr z)
          have hb : k % 2 = 0 := by omega
          exact next m h2 (by rw [np_pw0 hb]; exact he)
        · have hb : k % 2 = 1 := (xn_ieq1 (by omega)).mp q22
          refine vv_lload C dX3_power_25 rfl ?_
          refine vv_lload C dX3_power_27 rfl ?_
          refine vv_lload C dX3_power_29 rfl ?_
          refine vs_calslF C dX3_power_31 (c_X3_product g S m s n h2n (by omega) h3 (by omega)) mb_X3_product ms_X3_product lk_X3_72 rfl rfl ⟨Nat.le_of_ble_eq_true rfl, Nat.le_of_ble_eq_true rfl, Nat.le_of_ble_eq_true rfl⟩ ?_
          refine vw_lstore (lv9 := [_, _, _, _, _, _, _, _, _, _, _, _]) C dX3_power_34 (by decide) rfl rfl ?_
          exact next (m * s % n) (Nat.mod_lt _ (by omega)) (by rw [np_pw1 hb]; exact he)
  refine vv_lconst C dX3_power_0 lc_1 ?_
  refine vw_lstore (lv9 := [_, _, _, _, _, _, _, _, _, _, _, _]) C dX3_power_1 (by decide) rfl rfl ?_
  refine vv_lload_n C dX3_power_3 rfl ?_
  refine vw_lstore (lv9 := [_, _, _, _, _, _, _, _, _, _, _, _]) C dX3_power_4 (by decide) rfl rfl ?_
  refine vv_lload_n C dX3_power_6 rfl ?_
  refine vw_lstore (lv9 := [_, _, _, _, _, _, _, _, _, _, _, _]) C dX3_power_7 (by decide) rfl rfl ?_
  exact loop 32 e 1 a he0 (Nat.le_refl _) (by omega) ha (by rw [Nat.one_mul])
set_option maxRecDepth 20000 in
theorem c_X12_power (g : vv_G) (S : vs_S) (a e n : Nat) (h2n : 2 ≤ n) (hn : n ≤ 1000000000) (ha : a < 2 ^ 31) (he0 : e < 2 ^ 31) : vs_FL g yX12_power cX12_power 10 (some .long) 1 [.long (lN a), .int (nI e), .long (lN n)] S (lN (a ^ e % n)) S := by
  refine vs_ofL (lv := [_, _, _, _, _, _, _, _, _, _]) mb_X12_power (Nat.le_of_ble_eq_true rfl) rfl (fun x C F => ?_)
  have loop : ∀ (f k m s : Nat), k < 2 ^ f → f ≤ 31 → m < n → s < n → (m * s ^ k) % n = a ^ e % n → vv_V g x 10 0 0 11 [some (.long (lN a)), none, some (.int (nI e)), some (.long (lN n)), none, some (.long (lN m)), none, some (.long (lN s)), none, some (.int (nI k))] [] (vs_cells g S) := by
    intro f
    induction f with
    | zero =>
      intro k m s h1 hf h2 h3 he
      have hk : k = 0 := by omega
      subst hk
      refine vv_iload C dX12_power_11 rfl ?_
      refine vv_if_le (tgt := 51) C dX12_power_13 (by decide) (fun q13 => ?_) (fun q13 => ?_)
      · refine vv_lload C dX12_power_51 rfl ?_
        exact vs_lret C F dX12_power_53 rfl ⟨by rw [← he, Nat.pow_zero, Nat.mul_one, Nat.mod_eq_of_lt h2], rfl⟩
      · exact absurd (by decide +kernel) q13
    | succ f ih =>
      intro k m s h1 hf h2 h3 he
      have hk31 : k < 2 ^ 31 := Nat.lt_of_lt_of_le h1 (Nat.pow_le_pow_right (by omega) hf)
      have hss : s * s % n < n := Nat.mod_lt _ (by omega)
      have hs2 := Nat.mul_le_mul (Nat.le_of_lt h3) (Nat.le_of_lt h3)
      have hs3 := Nat.mul_le_mul (Nat.le_of_lt h2) (Nat.le_of_lt h3)
      have hs4 := Nat.mul_le_mul hn hn
      have hkd : k / 2 < 2 ^ f := by rw [Nat.pow_succ] at h1; omega
      have next : ∀ m2 : Nat, m2 < n → (m2 * (s * s % n) ^ (k / 2)) % n = a ^ e % n → vv_V g x 10 0 0 33 [some (.long (lN a)), none, some (.int (nI e)), some (.long (lN n)), none, some (.long (lN m2)), none, some (.long (lN s)), none, some (.int (nI k))] [] (vs_cells g S) := by
        intro m2 hm2 he2
        refine vv_lload C dX12_power_33 rfl ?_
        refine vv_lload C dX12_power_35 rfl ?_
        refine vv_lmul C dX12_power_37 ?_
        refine vs_eql (v9 := lN (s * s)) (xn_lmul s s) ?_
        refine vv_lload_n C dX12_power_38 rfl ?_
        refine vv_lrem C dX12_power_39 (np_lne (by omega) (by omega)) ?_
        refine vs_eql (v9 := lN (s * s % n)) (xn_lmod (by omega) (by omega)) ?_
        refine vw_lstore (lv9 := [_, _, _, _, _, _, _, _, _, _]) C dX12_power_40 (by decide) rfl rfl ?_
        refine vv_iload C dX12_power_42 rfl ?_
        refine vv_iconst C dX12_power_44 ic_2 ?_
        refine vv_idiv C dX12_power_45 (by decide) ?_
        refine vs_eqi (v9 := nI (k / 2)) (by rw [xn_lit, xn_div (by omega) (by omega)]) ?_
        refine vw_istore (lv9 := [_, _, _, _, _, _, _, _, _, _]) C dX12_power_46 (by decide) rfl rfl ?_
        refine vv_goto (tgt := 11) C dX12_power_48 (by decide) ?_
        exact ih (k / 2) m2 (s * s % n) hkd (by omega) hm2 hss he2
      refine vv_iload C dX12_power_11 rfl ?_
      refine vv_if_le (tgt := 51) C dX12_power_13 (by decide) (fun q13 => ?_) (fun q13 => ?_)
      · have hk : k = 0 := by
          have z : ¬ 0 < nI k := Int32.not_lt.mpr q13
          rw [xn_lit, xn_lt (by omega) (by omega)] at z
          omega
        subst hk
        refine vv_lload C dX12_power_51 rfl ?_
        exact vs_lret C F dX12_power_53 rfl ⟨by rw [← he, Nat.pow_zero, Nat.mul_one, Nat.mod_eq_of_lt h2], rfl⟩
      · refine vv_iload C dX12_power_16 rfl ?_
        refine vv_iconst C dX12_power_18 ic_2 ?_
        refine vv_irem C dX12_power_19 (by decide) ?_
        refine vs_eqi (v9 := nI (k % 2)) (by rw [xn_lit, xn_mod (by omega) (by omega)]) ?_
        refine vv_iconst C dX12_power_20 ic_1 ?_
        refine vv_icmp_ne (tgt := 33) C dX12_power_21 (by decide) (fun q21 => ?_) (fun q21 => ?_)
        · have hb1 : ¬ k % 2 = 1 := fun z => q21 (by rw [z]; rfl)
          have hb : k % 2 = 0 := by omega
          exact next m h2 (by rw [np_pw0 hb]; exact he)
        · have hb : k % 2 = 1 := by rw [xn_lit, xn_eq (by omega) (by omega)] at q21; exact q21
          refine vv_lload C dX12_power_24 rfl ?_
          refine vv_lload C dX12_power_26 rfl ?_
          refine vv_lmul C dX12_power_28 ?_
          refine vs_eql (v9 := lN (m * s)) (xn_lmul m s) ?_
          refine vv_lload_n C dX12_power_29 rfl ?_
          refine vv_lrem C dX12_power_30 (np_lne (by omega) (by omega)) ?_
          refine vs_eql (v9 := lN (m * s % n)) (xn_lmod (by omega) (by omega)) ?_
          refine vw_lstore (lv9 := [_, _, _, _, _, _, _, _, _, _]) C dX12_power_31 (by decide) rfl rfl ?_
          exact next (m * s % n) (Nat.mod_lt _ (by omega)) (by rw [np_pw1 hb]; exact he)
  refine vv_lconst C dX12_power_0 lc_1 ?_
  refine vw_lstore (lv9 := [_, _, _, _, _, _, _, _, _, _]) C dX12_power_1 (by decide) rfl rfl ?_
  refine vv_lload_n C dX12_power_3 rfl ?_
  refine vv_lload_n C dX12_power_4 rfl ?_
  refine vv_lrem C dX12_power_5 (np_lne (by omega) (by omega)) ?_
  refine vs_eql (v9 := lN (a % n)) (xn_lmod (by omega) (by omega)) ?_
  refine vw_lstore (lv9 := [_, _, _, _, _, _, _, _, _, _]) C dX12_power_6 (by decide) rfl rfl ?_
  refine vv_iload_n C dX12_power_8 rfl ?_
  refine vw_istore (lv9 := [_, _, _, _, _, _, _, _, _, _]) C dX12_power_9 (by decide) rfl rfl ?_
  exact loop 31 e 1 (a % n) he0 (Nat.le_refl _) (by omega) (Nat.mod_lt _ (by omega)) (by rw [Nat.one_mul, ← Nat.pow_mod])
set_option maxRecDepth 20000 in
theorem c_X3_listParts (g : vv_G) (S : vs_S) (hS : nx_ok S) (n : Nat) (h1n : 1 ≤ n) (hn : n ≤ 1000000000) : vs_KI g yX3_listParts cX3_listParts 7 (some .int) 5 [vv_r g 1, .int (nI n)] S (fun r S1 => r = nI (np_li np_xl 32 n).length ∧ ∃ fa, S1 = vs_ua S 3 fa ∧ np_has fa (np_li np_xl 32 n)) := by
  refine vs_ofI (lv := [_, _, _, _, _, _, _]) mb_X3_listParts (Nat.le_of_ble_eq_true rfl) rfl (fun x C F => ?_)
  have loop : ∀ (f k : Nat) (l : List Nat) (fa : Nat → Int32) (w5 w6 : Option Value), l.length + f = 32 → 1 ≤ k → k ≤ 1000000000 → np_has fa l → np_li np_xl 32 n = l ++ np_li np_xl f k → vv_V g x 7 0 0 5 [some (vv_r g 1), some (.int (nI n)), some (.int (nI l.length)), some (.long (lN k)), none, w5, w6] [] (vs_cells g (vs_ua S 3 fa)) := by
    intro f
    induction f with
    | zero =>
      intro k l fa w5 w6 h1 h2 h3 h4 he
      have hl : l.length = 32 := by omega
      refine vv_iload_n C dX3_listParts_5 rfl ?_
      refine vv_aload_n C dX3_listParts_6 rfl ?_
      refine gf_X3_list C dX3_listParts_7 fg_X3_15 ?_
      refine ln_3 C dX3_listParts_10 ?_
      refine vv_icmp_ge (tgt := 60) C dX3_listParts_11 (by decide) (fun q11 => ?_) (fun q11 => ?_)
      · refine vv_iload_n C dX3_listParts_60 rfl ?_
        exact vs_iret C F dX3_listParts_61 rfl ⟨by rw [he]; show nI l.length = nI (l ++ []).length; rw [List.append_nil], fa, rfl, by rw [he]; show np_has fa (l ++ []); rw [List.append_nil]; exact h4⟩
      · exact absurd (by rw [hl]; decide +kernel) q11
    | succ f ih =>
      intro k l fa w5 w6 h1 h2 h3 h4 he
      have c1 : lg_cmp (lN k) 1 ≤ 0 ↔ k ≤ 1 := by rw [lg_cmp_le, xn_lit64, xn_lle (by omega) (by omega)]
      refine vv_iload_n C dX3_listParts_5 rfl ?_
      refine vv_aload_n C dX3_listParts_6 rfl ?_
      refine gf_X3_list C dX3_listParts_7 fg_X3_15 ?_
      refine ln_3 C dX3_listParts_10 ?_
      refine vv_icmp_ge (tgt := 60) C dX3_listParts_11 (by decide) (fun q11 => ?_) (fun q11 => ?_)
      · exact absurd q11 (by rw [xn_lit, xn_le (by omega) (by omega)]; omega)
      · refine vv_lload_n C dX3_listParts_14 rfl ?_
        refine vv_lconst C dX3_listParts_15 lc_1 ?_
        refine vv_lcmp C dX3_listParts_16 ?_
        refine vv_if_le (tgt := 60) C dX3_listParts_17 (by decide) (fun q17 => ?_) (fun q17 => ?_)
        · rw [np_li0 (c1.mp q17), List.append_nil] at he
          refine vv_iload_n C dX3_listParts_60 rfl ?_
          exact vs_iret C F dX3_listParts_61 rfl ⟨by rw [he], fa, rfl, by rw [he]; exact h4⟩
        · have hk : ¬ k ≤ 1 := fun z => q17 (c1.mpr z)
          obtain ⟨b1, b2⟩ := np_xl_b (n := k) (by omega)
          rw [np_li1 hk] at he
          refine vv_aload_n C dX3_listParts_20 rfl ?_
          refine vv_lload_n C dX3_listParts_21 rfl ?_
          refine vs_callF C dX3_listParts_22 (c_X3_leastPart g (vs_ua S 3 fa) hS k (by omega) (by omega)) mb_X3_leastPart mv_X3_leastPart lk_X3_56 ce_1 rfl rfl rfl rfl ⟨Nat.le_of_ble_eq_true rfl, Nat.le_of_ble_eq_true rfl, Nat.le_of_ble_eq_true rfl⟩ ?_
          refine vw_lstore (lv9 := [_, _, _, _, _, _, _]) C dX3_listParts_25 (by decide) rfl rfl ?_
          refine vv_aload_n C dX3_listParts_27 rfl ?_
          refine gf_X3_list C dX3_listParts_28 fg_X3_15 ?_
          refine vv_iload_n C dX3_listParts_31 rfl ?_
          refine vv_lload C dX3_listParts_32 rfl ?_
          refine vv_l2i C dX3_listParts_34 ?_
          refine vs_eqi (v9 := nI (np_xl k)) (xn_l2i _) ?_
          refine st_3 C dX3_listParts_35 (xn_in (by omega) (by omega)) ?_
          refine vs_eqS (S9 := vs_ua S 3 (upd fa l.length (nI (np_xl k)))) (by rw [vs_uaa, xn_cl (by omega)]; rfl) ?_
          refine vv_lload C dX3_listParts_36 rfl ?_
          refine vv_ldc2 C dX3_listParts_38 kc_X3_34 ?_
          refine vv_lcmp C dX3_listParts_41 ?_
          refine vv_if_ge (tgt := 49) C dX3_listParts_42 (by decide) (fun q42 => ?_) (fun q42 => ?_)
          · refine vv_lload_n C dX3_listParts_49 rfl ?_
            refine vv_lload C dX3_listParts_50 rfl ?_
            refine vv_ldiv C dX3_listParts_52 (np_lne (by omega) (by omega)) ?_
            refine vs_eql (v9 := lN (k / np_xl k)) (xn_ldiv (by omega) (by omega)) ?_
            refine vw_lstore_n (lv9 := [_, _, _, _, _, _, _]) C dX3_listParts_53 (by decide) rfl rfl ?_
            refine vw_iinc (lv9 := [_, _, _, _, _, _, _]) C dX3_listParts_54 rfl ic_1 (by decide) rfl rfl ?_
            refine vv_goto (tgt := 5) C dX3_listParts_57 (by decide) ?_
            have hle := Nat.div_le_self k (np_xl k)
            have h9 := Nat.div_pos b2 (by omega : 0 < np_xl k)
            have := ih (k / np_xl k) (l ++ [np_xl k]) (upd fa l.length (nI (np_xl k))) (some (.long (lN (np_xl k)))) none (by rw [List.length_append]; show l.length + 1 + f = 32; omega) h9 (by omega) h4.push (by rw [he, List.append_assoc]; rfl)
            rw [List.length_append, show l.length + [np_xl k].length = l.length + 1 from rfl, ← nI_1] at this
            exact this
          · exact absurd ((lg_cmp_ge _ _).mpr (by rw [xn_lit64, xn_lle (by omega) (by omega)]; exact b1)) q42
  refine vv_iconst C dX3_listParts_0 ic_0 ?_
  refine vw_istore_n (lv9 := [_, _, _, _, _, _, _]) C dX3_listParts_1 (by decide) rfl rfl ?_
  refine vv_iload_n C dX3_listParts_2 rfl ?_
  refine vv_i2l C dX3_listParts_3 ?_
  refine vs_eql (v9 := lN n) (xn_i2l (by omega)) ?_
  refine vw_lstore_n (lv9 := [_, _, _, _, _, _, _]) C dX3_listParts_4 (by decide) rfl rfl ?_
  have := loop 32 n [] (S.2.1 3) none none rfl h1n hn (fun i x h => by simp at h) rfl
  rw [vs_ua0] at this
  exact this
set_option maxRecDepth 20000 in
theorem c_X3_listed (g : vv_G) (S : vs_S) (i : Nat) (hi : i < 32) : vs_FI g yX3_listed cX3_listed 2 (some .int) 1 [vv_r g 1, .int (nI i)] S (S.2.1 3 i) S := by
  refine vs_ofI (lv := [_, _]) mb_X3_listed (Nat.le_of_ble_eq_true rfl) rfl (fun x C F => ?_)
  refine vv_iload_n C dX3_listed_0 rfl ?_
  refine vv_if_lt (tgt := 22) C dX3_listed_1 (by decide) (fun q1 => ?_) (fun q1 => ?_)
  · exact absurd q1 (xn_neg (by omega))
  · refine vv_iload_n C dX3_listed_4 rfl ?_
    refine vv_aload_n C dX3_listed_5 rfl ?_
    refine gf_X3_list C dX3_listed_6 fg_X3_15 ?_
    refine ln_3 C dX3_listed_9 ?_
    refine vv_icmp_ge (tgt := 22) C dX3_listed_10 (by decide) (fun q10 => ?_) (fun q10 => ?_)
    · exact absurd q10 (by rw [xn_lit, xn_le (by omega) (by omega)]; omega)
    · refine vv_aload_n C dX3_listed_13 rfl ?_
      refine gf_X3_list C dX3_listed_14 fg_X3_15 ?_
      refine vv_iload_n C dX3_listed_17 rfl ?_
      refine ld_3 C dX3_listed_18 (xn_in hi (by omega)) ?_
      refine vs_eqi (v9 := S.2.1 3 i) (by rw [xn_cl (by omega)]) ?_
      refine vv_goto (tgt := 23) C dX3_listed_19 (by decide) ?_
      exact vs_iret C F dX3_listed_23 rfl ⟨rfl, rfl⟩
