/-! small whole numbers as ints and longs -/
theorem xn_lit (n : Nat) : (@OfNat.ofNat Int32 n Int32.instOfNat) = nI (@OfNat.ofNat Nat n (instOfNatNat n)) := rfl
theorem xn_lit64 (n : Nat) : (@OfNat.ofNat Int64 n Int64.instOfNat) = lN (@OfNat.ofNat Nat n (instOfNatNat n)) := rfl
theorem xn_toInt {n : Nat} (h : n < 2 ^ 31) : (nI n).toInt = n := nI_toInt h
theorem xn_lN {n : Nat} (h : n < 2 ^ 63) : (lN n).toInt = n := by
  unfold lN
  rw [Int64.toInt_ofNat_of_lt (by omega)]
theorem xn_mul (a b : Nat) : nI a * nI b = nI (a * b) := by
  unfold nI
  rw [Int32.ofNat_mul]
theorem xn_sub {a b : Nat} (h : b ≤ a) : nI a - nI b = nI (a - b) := by
  have e : nI (a - b) + nI b = nI a := by rw [nI_add]; congr 1; omega
  rw [← e]
  exact Int32.add_sub_cancel _ _
theorem xn_div {a b : Nat} (ha : a < 2 ^ 31) (hb : b < 2 ^ 31) : nI a / nI b = nI (a / b) := by
  apply Int32.toInt_inj.mp
  have h1 : a / b ≤ a := Nat.div_le_self a b
  rw [Int32.toInt_div, nI_toInt ha, nI_toInt hb, nI_toInt (by omega)]
  rw [← Int.ofNat_tdiv]
  generalize a / b = q at h1
  exact Int.bmod_eq_of_le_mul_two (by omega) (by omega)
theorem xn_mod {a b : Nat} (ha : a < 2 ^ 31) (hb : b < 2 ^ 31) : nI a % nI b = nI (a % b) := by
  apply Int32.toInt_inj.mp
  have h1 : a % b ≤ a := Nat.mod_le a b
  rw [Int32.toInt_mod, nI_toInt ha, nI_toInt hb, nI_toInt (by omega)]
  rw [← Int.ofNat_tmod]
theorem xn_lmul (a b : Nat) : lN a * lN b = lN (a * b) := lN_mul a b
theorem xn_lsub {a b : Nat} (h : b ≤ a) : lN a - lN b = lN (a - b) := lN_sub h
theorem xn_ldiv {a b : Nat} (ha : a < 2 ^ 63) (hb : b < 2 ^ 63) : lN a / lN b = lN (a / b) := by
  apply Int64.toInt_inj.mp
  have h1 : a / b ≤ a := Nat.div_le_self a b
  rw [Int64.toInt_div, xn_lN ha, xn_lN hb, xn_lN (by omega)]
  rw [← Int.ofNat_tdiv]
  generalize a / b = q at h1
  exact Int.bmod_eq_of_le_mul_two (by omega) (by omega)
theorem xn_lmod {a b : Nat} (ha : a < 2 ^ 63) (hb : b < 2 ^ 63) : lN a % lN b = lN (a % b) := by
  apply Int64.toInt_inj.mp
  have h1 : a % b ≤ a := Nat.mod_le a b
  rw [Int64.toInt_mod, xn_lN ha, xn_lN hb, xn_lN (by omega)]
  rw [← Int.ofNat_tmod]
theorem xn_llt {a b : Nat} (ha : a < 2 ^ 63) (hb : b < 2 ^ 63) : lN a < lN b ↔ a < b := by
  rw [Int64.lt_iff_toInt_lt, xn_lN ha, xn_lN hb]
  omega
theorem xn_lle {a b : Nat} (ha : a < 2 ^ 63) (hb : b < 2 ^ 63) : lN a ≤ lN b ↔ a ≤ b := by
  rw [Int64.le_iff_toInt_le, xn_lN ha, xn_lN hb]
  omega
theorem xn_leq {a b : Nat} (ha : a < 2 ^ 63) (hb : b < 2 ^ 63) : lN a = lN b ↔ a = b := by
  constructor
  · intro h
    have h1 := congrArg Int64.toInt h
    rw [xn_lN ha, xn_lN hb] at h1
    omega
  · intro h
    rw [h]
theorem xn_i2l {n : Nat} (h : n < 2 ^ 31) : (nI n).toInt64 = lN n := nI_l h
theorem xn_l2i (n : Nat) : (lN n).toInt32 = nI n := lN_i n
theorem xn_neg {n : Nat} (h : n < 2 ^ 31) : ¬ nI n < 0 := nI_pos h
theorem xn_eq {a b : Nat} (ha : a < 2 ^ 31) (hb : b < 2 ^ 31) : nI a = nI b ↔ a = b := nI_eq ha hb
theorem xn_le {a b : Nat} (ha : a < 2 ^ 31) (hb : b < 2 ^ 31) : nI a ≤ nI b ↔ a ≤ b := nI_leI ha hb
theorem xn_lt {a b : Nat} (ha : a < 2 ^ 31) (hb : b < 2 ^ 31) : nI a < nI b ↔ a < b := nI_ltI ha hb
theorem xn_cl {n : Nat} (h : n < 2 ^ 31) : (nI n).toNatClampNeg = n := nI_clamp h
theorem xn_in {n N : Nat} (h : n < N) (hN : N < 2 ^ 31) : vp_in (nI n) N := vp_in_nI h hN
/-- an int between 0 and a bound is a small whole number -/
theorem xn_of {x : Int32} {n : Nat} (hn : n < 2 ^ 31) (h0 : 0 ≤ x) (h1 : x ≤ nI n) : ∃ j : Nat, j ≤ n ∧ x = nI j := nI_of2 (nI_toInt hn) (Int32.not_lt.mpr h0) h1
theorem xn_ofN {x : Int32} (h0 : 0 ≤ x) : ∃ j : Nat, j < 2 ^ 31 ∧ x = nI j := nI_of (Int32.not_lt.mpr h0)
/-- cells that stay -/
def vs_fr (ks is js : List Nat) (S S1 : vs_S) : Prop := (∀ k, k ∉ ks → S1.1 k = S.1 k) ∧ (∀ i, i ∉ is → S1.2.1 i = S.2.1 i) ∧ ∀ j, j ∉ js → S1.2.2 j = S.2.2 j
theorem vs_fr.rf {ks is js : List Nat} {S : vs_S} : vs_fr ks is js S S := ⟨fun _ _ => rfl, fun _ _ => rfl, fun _ _ => rfl⟩
theorem vs_fr.tr {ks is js : List Nat} {S S1 S2 : vs_S} (h : vs_fr ks is js S S1) (h2 : vs_fr ks is js S1 S2) : vs_fr ks is js S S2 := ⟨fun k q => (h2.1 k q).trans (h.1 k q), fun k q => (h2.2.1 k q).trans (h.2.1 k q), fun k q => (h2.2.2 k q).trans (h.2.2 k q)⟩
theorem vs_fr.us {ks is js : List Nat} {S S1 : vs_S} {k : Nat} {v : Int32} (h : vs_fr ks is js S S1) (hk : k ∈ ks) : vs_fr ks is js S (vs_us S1 k v) := ⟨fun j q => by rw [vs_us1, if_neg (fun e => q (by rw [e]; exact hk))]; exact h.1 j q, h.2.1, h.2.2⟩
theorem vs_fr.ua {ks is js : List Nat} {S S1 : vs_S} {i : Nat} {f : Nat → Int32} (h : vs_fr ks is js S S1) (hi : i ∈ is) : vs_fr ks is js S (vs_ua S1 i f) := ⟨h.1, fun j q => by rw [vs_ua2, if_neg (fun e => q (by rw [e]; exact hi))]; exact h.2.1 j q, h.2.2⟩
theorem vs_fr.ul {ks is js : List Nat} {S S1 : vs_S} {i : Nat} {f : Nat → Int64} (h : vs_fr ks is js S S1) (hi : i ∈ js) : vs_fr ks is js S (vs_ul S1 i f) := ⟨h.1, h.2.1, fun j q => by rw [vs_ul3, if_neg (fun e => q (by rw [e]; exact hi))]; exact h.2.2 j q⟩
theorem vs_fr.wd {ks is js ks' is' js' : List Nat} {S S1 : vs_S} (h : vs_fr ks is js S S1) (h1 : ∀ k ∈ ks, k ∈ ks') (h2 : ∀ k ∈ is, k ∈ is') (h3 : ∀ k ∈ js, k ∈ js') : vs_fr ks' is' js' S S1 := ⟨fun k q => h.1 k (fun z => q (h1 k z)), fun k q => h.2.1 k (fun z => q (h2 k z)), fun k q => h.2.2 k (fun z => q (h3 k z))⟩
theorem vs_eqi {g : vv_G} {x : vv_X} {nL k n pc : Nat} {lv : List (Option Value)} {st : List Value} {h : List va_E} {v v9 : Int32} (e : v = v9) (kk : vv_V g x nL k n pc lv (.int v9 :: st) h) : vv_V g x nL k n pc lv (.int v :: st) h := e ▸ kk
theorem vs_eql {g : vv_G} {x : vv_X} {nL k n pc : Nat} {lv : List (Option Value)} {st : List Value} {h : List va_E} {v v9 : Int64} (e : v = v9) (kk : vv_V g x nL k n pc lv (.long v9 :: st) h) : vv_V g x nL k n pc lv (.long v :: st) h := e ▸ kk
theorem vs_eqS {g : vv_G} {x : vv_X} {nL k n pc : Nat} {lv : List (Option Value)} {st : List Value} {S S9 : vs_S} (e : S = S9) (kk : vv_V g x nL k n pc lv st (vs_cells g S9)) : vv_V g x nL k n pc lv st (vs_cells g S) := e ▸ kk
theorem vs_eqlv {g : vv_G} {x : vv_X} {nL k n pc : Nat} {lv lv9 : List (Option Value)} {st : List Value} {h : List va_E} (e : lv = lv9) (kk : vv_V g x nL k n pc lv9 st h) : vv_V g x nL k n pc lv st h := e ▸ kk
