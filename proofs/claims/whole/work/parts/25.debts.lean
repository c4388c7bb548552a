/-! A CONSTANT BY A WIDE INDEX -/
section
variable {p : Program} {l : Launch} {e : Env} {R : Room} {s : State} {m : MethodId} {args : Array Value} {below : List Frame} {meth : Method} {c : Code} {T : State} {locs : List Loc} {cells slots : Nat}
theorem vq_ldcw (X : Stand p l e R s m args below meth c T locs cells slots) (hexec : p.tables.exec = Jvm.exec) {own : String} {index : Nat} {v : Int32} (hown : s.vm.findClass own = some m.cls)
    (hconst : (Cond.constant own index v).before args s = true) {g : JFrame} (hg : g.method = m) (hdg : decode c.code g.pc = .ok (.ldc_w index, 3)) :
    ∀ target, Steps p.tables e below (T.setTop { g with pc := g.pc + 3, stack := .int v :: g.stack }) target → Steps p.tables e below (T.setTop g) target := by
  obtain ⟨k, cf, bytes, hk, hcf, hcp, hb⟩ := Cond.constant_spec hown hconst
  obtain ⟨k', hk', he⟩ := X.warmed.alike.2.2 _ _ hk
  intro target hrest
  subst hg
  jvm_step X.here [hexec, hdg, Op.ldc_w.sem, ldc.wp_int (s := T) (f := g) X.here.top hk' (by rw [he]; exact hcf) hcp, hb]
  exact hrest
end
theorem vv_ldcw {g : vv_G} {x : vv_X} {own nm : String} {cc : ByteArray} {nL k n pc : Nat} {ret : Option FieldType} {R0 : Room} {lv : List (Option Value)} {st : List Value} {h : List va_E} {i : Nat} {v : Int32} (C : vv_C g own nm cc nL ret R0 x) (d : decode cc pc = .ok (.ldc_w i, 3)) (hw : Cond.constant own i v ∈ vv_Ws) (kk : vv_V g x nL k n (pc + 3) lv (.int v :: st) h) : vv_V g x nL k n (pc) lv (st) h := by
  obtain ⟨p, e, R, s, m, args, below, meth, c, Q⟩ := x
  intro H locs ls hS hW hl
  have k2 := kk H locs ls hS hW hl
  intro T hT X
  obtain ⟨t, a, b⟩ := k2 T hT X
  exact ⟨t, vq_ldcw X C.1 C.2.2.2.2.2.1 (C.2.2.2.2.2.2.2.1 _ hw) rfl (by rw [C.2.1]; exact d) t a, b⟩
/-! DEBTS LOOKED AT -/
def dn_net (H : Nat → Int32) (p : Nat) : Nat → Nat → Int32 → Int32
  | 0, _, s => s
  | f + 1, o, s => dn_net H p f (o + 1) (s + (H (8 * o + p) - H (8 * p + o)))
def du (P : Nat → Bool) (v : Int32) : Bool := decide (0 < v) && !(P v.toNatClampNeg)
def dj (P : Nat → Bool) (H : Nat → Int32) : Nat → Nat → Int32
  | 0, _ => -2
  | f + 1, p => if du P (H p) = true then nI (p / 8 * 10 + p % 8) else dj P H f (p + 1)
def ds (P : Nat → Bool) (H : Nat → Int32) : Nat → Nat → Int32 → Int32
  | 0, _, s => s
  | f + 1, p, s => if du P (H p) = true then (if lw_next P (H p).toNatClampNeg = -2 then -2 else ds P H f (p + 1) (s + (lw_next P (H p).toNatClampNeg - H p))) else ds P H f (p + 1) s
def dop (H : Nat → Int32) : Nat → Nat → Nat
  | 0, _ => 0
  | f + 1, p => (if 0 < H p then 1 else 0) + dop H f (p + 1)
theorem du0 {P : Nat → Bool} {v : Int32} (h : v ≤ 0) : du P v = false := by
  unfold du
  rw [decide_eq_false (Int32.not_lt.mpr h)]
  rfl
theorem du1 {P : Nat → Bool} {v : Int32} (h : ¬ v ≤ 0) : du P v = !(P v.toNatClampNeg) := by
  unfold du
  rw [decide_eq_true (Int32.not_le.mp h)]
  rfl
theorem du2 {v : Int32} (h : ¬ v ≤ 0) : ∃ n, n < 2 ^ 31 ∧ v = nI n := nI_of (fun z => h (Int32.le_of_lt z))
theorem ow_1 (ab : Int32) : (-1 - ab).toInt = -1 - ab.toInt := by
  have h1 := Int32.le_toInt ab
  have h2 := Int32.toInt_lt ab
  rw [Int32.toInt_sub]
  show (-1 - ab.toInt).bmod (2 ^ 32) = _
  rw [Int.bmod_eq_of_le_mul_two (by omega) (by omega)]
theorem ow_2 {ab : Int32} (h : ab < 0) : vs_w (-1 - ab) 0 7 = decide (-8 ≤ ab) := by
  have h0 := Int32.lt_iff_toInt_lt.mp h
  have e0 : (0 : Int32).toInt = 0 := rfl
  have e7 : (7 : Int32).toInt = 7 := rfl
  have e8 : (-8 : Int32).toInt = -8 := rfl
  unfold vs_w
  rw [decide_eq_true (Int32.le_iff_toInt_le.mpr (by rw [ow_1]; omega)), Bool.true_and]
  by_cases z : -8 ≤ ab
  · rw [decide_eq_true z, decide_eq_true (Int32.le_iff_toInt_le.mpr (by rw [ow_1]; have := Int32.le_iff_toInt_le.mp z; omega))]
  · rw [decide_eq_false z, decide_eq_false (fun y => z (Int32.le_iff_toInt_le.mpr (by have := Int32.le_iff_toInt_le.mp y; rw [ow_1] at this; omega)))]
theorem ow_3 {ab : Int32} (h : ¬ ab < 0) : vs_w (-1 - ab) 0 7 = false := by
  have h0 : ¬ ab.toInt < 0 := fun z => h (Int32.lt_iff_toInt_lt.mpr z)
  have e0 : (0 : Int32).toInt = 0 := rfl
  unfold vs_w
  rw [decide_eq_false (fun y => by have := Int32.le_iff_toInt_le.mp y; rw [ow_1] at this; omega)]
  rfl
theorem ow_4 {ab : Int32} (h : vs_w (-1 - ab) 0 7 = true) : ∃ k, k < 8 ∧ -1 - ab = nI k := by
  obtain ⟨k, h1, h2, h3⟩ := vs_wN (a := 0) (b := 7) (by omega) (by omega) h
  exact ⟨k, by omega, h3⟩
theorem ow_5 {ab : Int32} (h : ab < 0) : db_c ab = false := by
  unfold db_c
  rw [decide_eq_true h]
  rfl
theorem dj1 (f : Nat) {P : Nat → Bool} {H : Nat → Int32} {p : Nat} : dj P H (f + 1) p = if du P (H p) = true then nI (p / 8 * 10 + p % 8) else dj P H f (p + 1) := rfl
theorem ds1 (f : Nat) {P : Nat → Bool} {H : Nat → Int32} {p : Nat} {s : Int32} : ds P H (f + 1) p s = if du P (H p) = true then (if lw_next P (H p).toNatClampNeg = -2 then -2 else ds P H f (p + 1) (s + (lw_next P (H p).toNatClampNeg - H p))) else ds P H f (p + 1) s := rfl
theorem dop1 (f : Nat) {H : Nat → Int32} {p : Nat} : dop H (f + 1) p = (if 0 < H p then 1 else 0) + dop H f (p + 1) := rfl
theorem dj2 {P : Nat → Bool} {H : Nat → Int32} {p : Nat} (h : p < 64) : dj P H (64 - p) p = if du P (H p) = true then nI (p / 8 * 10 + p % 8) else dj P H (64 - (p + 1)) (p + 1) := by
  rw [show 64 - p = (64 - (p + 1)) + 1 by omega]
  exact dj1 _

set_option maxRecDepth 20000 in
theorem c_X0_net (g : vv_G) (S : vs_S) (p : Nat) (hp : p < 8) : vs_FI g yX0_net cX0_net 4 (some .int) 3 [vv_r g 43, .int (nI p)] S (dn_net (S.2.1 19) p 8 0 0) S := by
  refine vs_ofI (lv := [_, _, _, _]) mb_X0_net (Nat.le_of_ble_eq_true rfl) rfl (fun x C F => ?_)
  have loop : ∀ (f o : Nat) (s : Int32), o + f = 8 → dn_net (S.2.1 19) p f o s = dn_net (S.2.1 19) p 8 0 0 → vv_V g x 4 0 0 4 [some (vv_r g 43), some (.int (nI p)), some (.int s), some (.int (nI o))] [] (vs_cells g S) := by
    intro f
    induction f with
    | zero =>
      intro o s h1 he
      have ho : o = 8 := by omega
      subst ho
      refine vv_iload_n C dX0_net_4 rfl ?_
      refine vv_bipush C dX0_net_5 bp_8 ?_
      refine vv_icmp_ge (tgt := 32) C dX0_net_7 (by decide) (fun q7 => ?_) (fun q7 => ?_)
      · refine vv_iload_n C dX0_net_32 rfl ?_
        exact vs_iret C F dX0_net_33 rfl ⟨he, rfl⟩
      · exact absurd (by decide +kernel) q7
    | succ f ih =>
      intro o s h1 he
      refine vv_iload_n C dX0_net_4 rfl ?_
      refine vv_bipush C dX0_net_5 bp_8 ?_
      refine vv_icmp_ge (tgt := 32) C dX0_net_7 (by decide) (fun q7 => ?_) (fun q7 => ?_)
      · exact absurd q7 (by rw [xn_lit, xn_le (by omega) (by omega)]; omega)
      · refine vv_iload_n C dX0_net_10 rfl ?_
        refine vv_aload_n C dX0_net_11 rfl ?_
        refine vv_iload_n C dX0_net_12 rfl ?_
        refine vv_iload_n C dX0_net_13 rfl ?_
        refine vs_caliF C dX0_net_14 (c_X0_of g S (nI o) (nI p) (by rw [xn_lit, xn_mul, nI_add]; exact xn_in (by omega) (by omega))) mb_X0_of mv_X0_of lk_X0_33 ce_43 rfl rfl rfl rfl ⟨Nat.le_of_ble_eq_true rfl, Nat.le_of_ble_eq_true rfl, Nat.le_of_ble_eq_true rfl⟩ ?_
        refine vs_eqi (v9 := S.2.1 19 (8 * o + p)) (by rw [xn_lit, xn_mul, nI_add, xn_cl (by omega), Nat.mul_comm]) ?_
        refine vv_aload_n C dX0_net_17 rfl ?_
        refine vv_iload_n C dX0_net_18 rfl ?_
        refine vv_iload_n C dX0_net_19 rfl ?_
        refine vs_caliF C dX0_net_20 (c_X0_of g S (nI p) (nI o) (by rw [xn_lit, xn_mul, nI_add]; exact xn_in (by omega) (by omega))) mb_X0_of mv_X0_of lk_X0_33 ce_43 rfl rfl rfl rfl ⟨Nat.le_of_ble_eq_true rfl, Nat.le_of_ble_eq_true rfl, Nat.le_of_ble_eq_true rfl⟩ ?_
        refine vs_eqi (v9 := S.2.1 19 (8 * p + o)) (by rw [xn_lit, xn_mul, nI_add, xn_cl (by omega), Nat.mul_comm]) ?_
        refine vv_isub C dX0_net_23 ?_
        refine vv_iadd C dX0_net_24 ?_
        refine vw_istore_n (lv9 := [_, _, _, _]) C dX0_net_25 (by decide) rfl rfl ?_
        refine vw_iinc (lv9 := [_, _, _, _]) C dX0_net_26 rfl ic_1 (by decide) rfl rfl ?_
        refine vv_goto (tgt := 4) C dX0_net_29 (by decide) ?_
        rw [nI_1]
        exact ih (o + 1) _ (by omega) he
  refine vv_iconst C dX0_net_0 ic_0 ?_
  refine vw_istore_n (lv9 := [_, _, _, _]) C dX0_net_1 (by decide) rfl rfl ?_
  refine vv_iconst C dX0_net_2 ic_0 ?_
  refine vw_istore_n (lv9 := [_, _, _, _]) C dX0_net_3 (by decide) rfl rfl ?_
  exact loop 8 0 0 rfl rfl
set_option maxRecDepth 20000 in
theorem c_X12_netOf (g : vv_G) (S : vs_S) (p : Nat) (hp : p < 8) : vs_FI g yX12_netOf cX12_netOf 4 (some .int) 2 [vv_r g 65, .int (nI p)] S (dn_net (S.2.1 66) p 8 0 0) S := by
  refine vs_ofI (lv := [_, _, _, _]) mb_X12_netOf (Nat.le_of_ble_eq_true rfl) rfl (fun x C F => ?_)
  have loop : ∀ (f o : Nat) (s : Int32), o + f = 8 → dn_net (S.2.1 66) p f o s = dn_net (S.2.1 66) p 8 0 0 → vv_V g x 4 0 0 4 [some (vv_r g 65), some (.int (nI p)), some (.int s), some (.int (nI o))] [] (vs_cells g S) := by
    intro f
    induction f with
    | zero =>
      intro o s h1 he
      have ho : o = 8 := by omega
      subst ho
      refine vv_iload_n C dX12_netOf_4 rfl ?_
      refine vv_bipush C dX12_netOf_5 bp_8 ?_
      refine vv_icmp_ge (tgt := 32) C dX12_netOf_7 (by decide) (fun q7 => ?_) (fun q7 => ?_)
      · refine vv_iload_n C dX12_netOf_32 rfl ?_
        exact vs_iret C F dX12_netOf_33 rfl ⟨he, rfl⟩
      · exact absurd (by decide +kernel) q7
    | succ f ih =>
      intro o s h1 he
      refine vv_iload_n C dX12_netOf_4 rfl ?_
      refine vv_bipush C dX12_netOf_5 bp_8 ?_
      refine vv_icmp_ge (tgt := 32) C dX12_netOf_7 (by decide) (fun q7 => ?_) (fun q7 => ?_)
      · exact absurd q7 (by rw [xn_lit, xn_le (by omega) (by omega)]; omega)
      · refine vv_iload_n C dX12_netOf_10 rfl ?_
        refine vv_aload_n C dX12_netOf_11 rfl ?_
        refine vv_iload_n C dX12_netOf_12 rfl ?_
        refine vv_iload_n C dX12_netOf_13 rfl ?_
        refine vs_caliF C dX12_netOf_14 (c_X12_debtOf g S (nI o) (nI p) (by rw [xn_lit, xn_mul, nI_add]; exact xn_in (by omega) (by omega))) mb_X12_debtOf mv_X12_debtOf lk_X12_288 ce_65 rfl rfl rfl rfl ⟨Nat.le_of_ble_eq_true rfl, Nat.le_of_ble_eq_true rfl, Nat.le_of_ble_eq_true rfl⟩ ?_
        refine vs_eqi (v9 := S.2.1 66 (8 * o + p)) (by rw [xn_lit, xn_mul, nI_add, xn_cl (by omega)]) ?_
        refine vv_aload_n C dX12_netOf_17 rfl ?_
        refine vv_iload_n C dX12_netOf_18 rfl ?_
        refine vv_iload_n C dX12_netOf_19 rfl ?_
        refine vs_caliF C dX12_netOf_20 (c_X12_debtOf g S (nI p) (nI o) (by rw [xn_lit, xn_mul, nI_add]; exact xn_in (by omega) (by omega))) mb_X12_debtOf mv_X12_debtOf lk_X12_288 ce_65 rfl rfl rfl rfl ⟨Nat.le_of_ble_eq_true rfl, Nat.le_of_ble_eq_true rfl, Nat.le_of_ble_eq_true rfl⟩ ?_
        refine vs_eqi (v9 := S.2.1 66 (8 * p + o)) (by rw [xn_lit, xn_mul, nI_add, xn_cl (by omega)]) ?_
        refine vv_isub C dX12_netOf_23 ?_
        refine vv_iadd C dX12_netOf_24 ?_
        refine vw_istore_n (lv9 := [_, _, _, _]) C dX12_netOf_25 (by decide) rfl rfl ?_
        refine vw_iinc (lv9 := [_, _, _, _]) C dX12_netOf_26 rfl ic_1 (by decide) rfl rfl ?_
        refine vv_goto (tgt := 4) C dX12_netOf_29 (by decide) ?_
        rw [nI_1]
        exact ih (o + 1) _ (by omega) he
  refine vv_iconst C dX12_netOf_0 ic_0 ?_
  refine vw_istore_n (lv9 := [_, _, _, _]) C dX12_netOf_1 (by decide) rfl rfl ?_
  refine vv_iconst C dX12_netOf_2 ic_0 ?_
  refine vw_istore_n (lv9 := [_, _, _, _]) C dX12_netOf_3 (by decide) rfl rfl ?_
  exact loop 8 0 0 rfl rfl
set_option maxRecDepth 20000 in
theorem c_X11_owes (g : vv_G) (S : vs_S) (ab : Int32) : vs_FI g yX11_owes cX11_owes 2 (some .int) 4 [vv_r g 0, .int ab] S (if db_c ab = true then S.2.1 19 (db_pp ab) else if vs_w (-1 - ab) 0 7 = true then dn_net (S.2.1 19) (-1 - ab).toNatClampNeg 8 0 0 else -2000000000) S := by
  refine vs_ofI (lv := [_, _]) mb_X11_owes (Nat.le_of_ble_eq_true rfl) rfl (fun x C F => ?_)
  refine vv_iload_n C dX11_owes_0 rfl ?_
  refine vs_calsiF C dX11_owes_1 (c_X0_isPair g S _) mb_X0_isPair ms_X0_isPair lk_X11_222 rfl rfl ⟨Nat.le_of_ble_eq_true rfl, Nat.le_of_ble_eq_true rfl, Nat.le_of_ble_eq_true rfl⟩ ?_
  refine vv_if_eq (tgt := 23) C dX11_owes_4 (by decide) (fun q4 => ?_) (fun q4 => ?_)
  · have w1 : db_c ab = false := vs_b0.mp q4
    refine vv_iconst C dX11_owes_23 ic_m1 ?_
    refine vv_iload_n C dX11_owes_24 rfl ?_
    refine vv_isub C dX11_owes_25 ?_
    refine vv_iconst C dX11_owes_26 ic_0 ?_
    refine vv_bipush C dX11_owes_27 bp_7 ?_
    refine vs_calsiF C dX11_owes_29 (c_X11_within g S _ _ _) mb_X11_within ms_X11_within lk_X11_94 rfl rfl ⟨Nat.le_of_ble_eq_true rfl, Nat.le_of_ble_eq_true rfl, Nat.le_of_ble_eq_true rfl⟩ ?_
    refine vv_if_eq (tgt := 48) C dX11_owes_32 (by decide) (fun q32 => ?_) (fun q32 => ?_)
    · have w2 : vs_w (-1 - ab) 0 7 = false := vs_b0.mp q32
      refine vv_ldc C dX11_owes_48 kc_X11_201 ?_
      first
      | exact vs_iret C F dX11_owes_50 rfl ⟨by rw [w1, if_neg (by decide), if_pos w2, ek, xn_cl (by omega)], rfl⟩
      | exact vs_iret C F dX11_owes_50 rfl ⟨by rw [w1, if_neg (by decide), w2]; rfl, rfl⟩
    · have w2 : vs_w (-1 - ab) 0 7 = true := vs_b1.mp q32
      obtain ⟨k, hk, ek⟩ := ow_4 w2
      refine vv_aload_n C dX11_owes_35 rfl ?_
      refine gf_X11_debts C dX11_owes_36 fg_X11_60 ?_
      refine vv_iconst C dX11_owes_39 ic_m1 ?_
      refine vv_iload_n C dX11_owes_40 rfl ?_
      refine vv_isub C dX11_owes_41 ?_
      refine vs_eqi (v9 := nI k) (ek) ?_
      refine vs_caliF C dX11_owes_42 (c_X0_net g S k hk) mb_X0_net mv_X0_net lk_X11_231 ce_43 rfl rfl rfl rfl ⟨Nat.le_of_ble_eq_true rfl, Nat.le_of_ble_eq_true rfl, Nat.le_of_ble_eq_true rfl⟩ ?_
      refine vv_goto (tgt := 50) C dX11_owes_45 (by decide) ?_
      first
      | exact vs_iret C F dX11_owes_50 rfl ⟨by rw [w1, if_neg (by decide), if_pos w2, ek, xn_cl (by omega)], rfl⟩
      | exact vs_iret C F dX11_owes_50 rfl ⟨by rw [w1, if_neg (by decide), w2]; rfl, rfl⟩
  · have w1 : db_c ab = true := vs_b1.mp q4
    obtain ⟨k, k0, k1, k2, k3, k4⟩ := db_p w1
    subst k1
    refine vv_aload_n C dX11_owes_7 rfl ?_
    refine gf_X11_debts C dX11_owes_8 fg_X11_60 ?_
    refine vv_iload_n C dX11_owes_11 rfl ?_
    refine vv_bipush C dX11_owes_12 bp_10 ?_
    refine vv_idiv C dX11_owes_14 (by decide) ?_
    refine vs_eqi (v9 := nI (k / 10)) (by rw [xn_lit, xn_div (by omega) (by omega)]) ?_
    refine vv_iload_n C dX11_owes_15 rfl ?_
    refine vv_bipush C dX11_owes_16 bp_10 ?_
    refine vv_irem C dX11_owes_18 (by decide) ?_
    refine vs_eqi (v9 := nI (k % 10)) (by rw [xn_lit, xn_mod (by omega) (by omega)]) ?_
    refine vs_caliF C dX11_owes_19 (c_X0_of g S (nI (k / 10)) (nI (k % 10)) (by rw [xn_lit, xn_mul, nI_add]; exact xn_in (by omega) (by omega))) mb_X0_of mv_X0_of lk_X11_228 ce_43 rfl rfl rfl rfl ⟨Nat.le_of_ble_eq_true rfl, Nat.le_of_ble_eq_true rfl, Nat.le_of_ble_eq_true rfl⟩ ?_
    refine vs_eqi (v9 := S.2.1 19 (k / 10 * 8 + k % 10)) (by rw [xn_lit, xn_mul, nI_add, xn_cl (by omega)]) ?_
    exact vs_iret C F dX11_owes_22 rfl ⟨by rw [if_pos w1, db_pk (by omega)], rfl⟩
set_option maxRecDepth 20000 in
theorem c_X12_owes (g : vv_G) (S : vs_S) (ab : Int32) : vs_FI g yX12_owes cX12_owes 2 (some .int) 4 [vv_r g 65, .int ab] S (if db_c ab = true then S.2.1 66 (db_pp ab) else if vs_w (-1 - ab) 0 7 = true then dn_net (S.2.1 66) (-1 - ab).toNatClampNeg 8 0 0 else -2000000000) S := by
  refine vs_ofI (lv := [_, _]) mb_X12_owes (Nat.le_of_ble_eq_true rfl) rfl (fun x C F => ?_)
  refine vv_iload_n C dX12_owes_0 rfl ?_
  refine vv_if_ge (tgt := 24) C dX12_owes_1 (by decide) (fun q1 => ?_) (fun q1 => ?_)
  · have w0 : ¬ ab < 0 := Int32.not_lt.mpr q1
    have w2 := ow_3 w0
    refine vv_iload_n C dX12_owes_24 rfl ?_
    refine vs_calsiF C dX12_owes_25 (c_X12_isAb g S _) mb_X12_isAb ms_X12_isAb lk_X12_283 rfl rfl ⟨Nat.le_of_ble_eq_true rfl, Nat.le_of_ble_eq_true rfl, Nat.le_of_ble_eq_true rfl⟩ ?_
    refine vv_if_eq (tgt := 46) C dX12_owes_28 (by decide) (fun q28 => ?_) (fun q28 => ?_)
    · have w1 : db_c ab = false := by rw [← db_e]; exact vs_b0.mp q28
      refine vv_ldcw C dX12_owes_46 kc_X12_259 ?_
      first
      | exact vs_iret C F dX12_owes_49 rfl ⟨by rw [if_pos w1, db_pk (by omega)], rfl⟩
      | exact vs_iret C F dX12_owes_49 rfl ⟨by rw [w1, if_neg (by decide), w2]; rfl, rfl⟩
    · have w1 : db_c ab = true := by rw [← db_e]; exact vs_b1.mp q28
      obtain ⟨k, k0, k1, k2, k3, k4⟩ := db_p w1
      subst k1
      refine vv_aload_n C dX12_owes_31 rfl ?_
      refine vv_iload_n C dX12_owes_32 rfl ?_
      refine vv_bipush C dX12_owes_33 bp_10 ?_
      refine vv_idiv C dX12_owes_35 (by decide) ?_
      refine vs_eqi (v9 := nI (k / 10)) (by rw [xn_lit, xn_div (by omega) (by omega)]) ?_
      refine vv_iload_n C dX12_owes_36 rfl ?_
      refine vv_bipush C dX12_owes_37 bp_10 ?_
      refine vv_irem C dX12_owes_39 (by decide) ?_
      refine vs_eqi (v9 := nI (k % 10)) (by rw [xn_lit, xn_mod (by omega) (by omega)]) ?_
      refine vs_caliF C dX12_owes_40 (c_X12_debtOf g S (nI (k / 10)) (nI (k % 10)) (by rw [xn_lit, xn_mul, nI_add]; exact xn_in (by omega) (by omega))) mb_X12_debtOf mv_X12_debtOf lk_X12_288 ce_65 rfl rfl rfl rfl ⟨Nat.le_of_ble_eq_true rfl, Nat.le_of_ble_eq_true rfl, Nat.le_of_ble_eq_true rfl⟩ ?_
      refine vs_eqi (v9 := S.2.1 66 (k / 10 * 8 + k % 10)) (by rw [xn_lit, xn_mul, nI_add, xn_cl (by omega), Nat.mul_comm]) ?_
      refine vv_goto (tgt := 49) C dX12_owes_43 (by decide) ?_
      first
      | exact vs_iret C F dX12_owes_49 rfl ⟨by rw [if_pos w1, db_pk (by omega)], rfl⟩
      | exact vs_iret C F dX12_owes_49 rfl ⟨by rw [w1, if_neg (by decide), w2]; rfl, rfl⟩
  · have w0 : ab < 0 := Int32.not_le.mp q1
    have w1 := ow_5 w0
    refine vv_iload_n C dX12_owes_4 rfl ?_
    refine vv_bipush C dX12_owes_5 bp_m8 ?_
    refine vv_icmp_lt (tgt := 20) C dX12_owes_7 (by decide) (fun q7 => ?_) (fun q7 => ?_)
    · have w2 : vs_w (-1 - ab) 0 7 = false := by rw [ow_2 w0, decide_eq_false (Int32.not_le.mpr q7)]
      refine vv_ldcw C dX12_owes_20 kc_X12_259 ?_
      first
      | exact vs_iret C F dX12_owes_23 rfl ⟨by rw [w1, if_neg (by decide), if_pos w2, ek, xn_cl (by omega)], rfl⟩
      | exact vs_iret C F dX12_owes_23 rfl ⟨by rw [w1, if_neg (by decide), w2]; rfl, rfl⟩
    · have w2 : vs_w (-1 - ab) 0 7 = true := by rw [ow_2 w0, decide_eq_true (Int32.not_lt.mp q7)]
      obtain ⟨k, hk, ek⟩ := ow_4 w2
      refine vv_aload_n C dX12_owes_10 rfl ?_
      refine vv_iconst C dX12_owes_11 ic_m1 ?_
      refine vv_iload_n C dX12_owes_12 rfl ?_
      refine vv_isub C dX12_owes_13 ?_
      refine vs_eqi (v9 := nI k) (ek) ?_
      refine vs_caliF C dX12_owes_14 (c_X12_netOf g S k hk) mb_X12_netOf mv_X12_netOf lk_X12_291 ce_65 rfl rfl rfl rfl ⟨Nat.le_of_ble_eq_true rfl, Nat.le_of_ble_eq_true rfl, Nat.le_of_ble_eq_true rfl⟩ ?_
      refine vv_goto (tgt := 23) C dX12_owes_17 (by decide) ?_
      first
      | exact vs_iret C F dX12_owes_23 rfl ⟨by rw [w1, if_neg (by decide), if_pos w2, ek, xn_cl (by omega)], rfl⟩
      | exact vs_iret C F dX12_owes_23 rfl ⟨by rw [w1, if_neg (by decide), w2]; rfl, rfl⟩
set_option maxRecDepth 20000 in
theorem c_X0_isUnlawful (g : vv_G) (S : vs_S) (hS : nx_ok S) (law : Nat) (hl : law ≤ 3) (hs : S.1 0 = nI law) (p : Nat) (hp : p < 96) : vs_FI g yX0_isUnlawful cX0_isUnlawful 2 (some .boolean) 5 [vv_r g 43, .int (nI p)] S (vs_b (du (np_lx law) (S.2.1 19 p))) S := by
  refine vs_ofI (lv := [_, _]) mb_X0_isUnlawful (Nat.le_of_ble_eq_true rfl) rfl (fun x C F => ?_)
  refine vv_aload_n C dX0_isUnlawful_0 rfl ?_
  refine gf_X0_ledger C dX0_isUnlawful_1 fg_X0_19 ?_
  refine vv_iload_n C dX0_isUnlawful_4 rfl ?_
  refine vs_caliF C dX0_isUnlawful_5 (c_X2_at g S _ (xn_in (by omega) (by omega))) mb_X2_at mv_X2_at lk_X0_27 ce_18 rfl rfl rfl rfl ⟨Nat.le_of_ble_eq_true rfl, Nat.le_of_ble_eq_true rfl, Nat.le_of_ble_eq_true rfl⟩ ?_
  refine vs_eqi (v9 := S.2.1 19 p) (by rw [xn_cl (by omega)]) ?_
  refine vv_if_le (tgt := 34) C dX0_isUnlawful_8 (by decide) (fun q8 => ?_) (fun q8 => ?_)
  · have z : du (np_lx law) (S.2.1 19 p) = false := du0 q8
    refine vv_iconst C dX0_isUnlawful_34 ic_0 ?_
    exact vs_zret C F dX0_isUnlawful_35 rfl rfl ⟨by rw [z]; rfl, rfl⟩
  · obtain ⟨n, hn, e⟩ := du2 q8
    have y := du1 (P := np_lx law) q8
    rw [e, xn_cl hn] at y
    refine vv_aload_n C dX0_isUnlawful_11 rfl ?_
    refine gf_X0_laws C dX0_isUnlawful_12 fg_X0_15 ?_
    refine vv_aload_n C dX0_isUnlawful_15 rfl ?_
    refine gf_X0_ledger C dX0_isUnlawful_16 fg_X0_19 ?_
    refine vv_iload_n C dX0_isUnlawful_19 rfl ?_
    refine vs_caliF C dX0_isUnlawful_20 (c_X2_at g S _ (xn_in (by omega) (by omega))) mb_X2_at mv_X2_at lk_X0_27 ce_18 rfl rfl rfl rfl ⟨Nat.le_of_ble_eq_true rfl, Nat.le_of_ble_eq_true rfl, Nat.le_of_ble_eq_true rfl⟩ ?_
    refine vs_eqi (v9 := nI n) (by rw [xn_cl (by omega)]; exact e) ?_
    refine vv_i2l C dX0_isUnlawful_23 ?_
    refine vs_eql (v9 := lN n) (xn_i2l (by omega)) ?_
    refine vs_caliF C dX0_isUnlawful_24 (c_X1_isLawful g S hS law hl hs n (by omega)) mb_X1_isLawful mv_X1_isLawful lk_X0_36 ce_4 rfl rfl rfl rfl ⟨Nat.le_of_ble_eq_true rfl, Nat.le_of_ble_eq_true rfl, Nat.le_of_ble_eq_true rfl⟩ ?_
    refine vv_if_ne (tgt := 34) C dX0_isUnlawful_27 (by decide) (fun q27 => ?_) (fun q27 => ?_)
    · have z : du (np_lx law) (S.2.1 19 p) = false := by rw [e, y, vs_b1.mp q27]; rfl
      refine vv_iconst C dX0_isUnlawful_34 ic_0 ?_
      exact vs_zret C F dX0_isUnlawful_35 rfl rfl ⟨by rw [z]; rfl, rfl⟩
    · have z : du (np_lx law) (S.2.1 19 p) = true := by rw [e, y, vs_b0.mp q27]; rfl
      refine vv_iconst C dX0_isUnlawful_30 ic_1 ?_
      refine vv_goto (tgt := 35) C dX0_isUnlawful_31 (by decide) ?_
      exact vs_zret C F dX0_isUnlawful_35 rfl rfl ⟨by rw [z]; rfl, rfl⟩
set_option maxRecDepth 20000 in
theorem c_X0_firstUnlawful (g : vv_G) (S : vs_S) (hS : nx_ok S) (law : Nat) (hl : law ≤ 3) (hs : S.1 0 = nI law) : vs_FI g yX0_firstUnlawful cX0_firstUnlawful 2 (some .int) 6 [vv_r g 43] S (dj (np_lx law) (S.2.1 19) 64 0) S := by
  refine vs_ofI (lv := [_, _]) mb_X0_firstUnlawful (Nat.le_of_ble_eq_true rfl) rfl (fun x C F => ?_)
  have loop : ∀ (f p : Nat), p + f = 64 → dj (np_lx law) (S.2.1 19) f p = dj (np_lx law) (S.2.1 19) 64 0 → vv_V g x 2 0 0 2 [some (vv_r g 43), some (.int (nI p))] [] (vs_cells g S) := by
    intro f
    induction f with
    | zero =>
      intro p h1 he
      have ho : p = 64 := by omega
      subst ho
      refine vv_iload_n C dX0_firstUnlawful_2 rfl ?_
      refine vv_bipush C dX0_firstUnlawful_3 bp_64 ?_
      refine vv_icmp_ge (tgt := 35) C dX0_firstUnlawful_5 (by decide) (fun q5 => ?_) (fun q5 => ?_)
      · refine vv_bipush C dX0_firstUnlawful_35 bp_m2 ?_
        exact vs_iret C F dX0_firstUnlawful_37 rfl ⟨he, rfl⟩
      · exact absurd (by decide +kernel) q5
    | succ f ih =>
      intro p h1 he
      rw [dj1 f] at he
      refine vv_iload_n C dX0_firstUnlawful_2 rfl ?_
      refine vv_bipush C dX0_firstUnlawful_3 bp_64 ?_
      refine vv_icmp_ge (tgt := 35) C dX0_firstUnlawful_5 (by decide) (fun q5 => ?_) (fun q5 => ?_)
      · exact absurd q5 (by rw [xn_lit, xn_le (by omega) (by omega)]; omega)
      · refine vv_aload_n C dX0_firstUnlawful_8 rfl ?_
        refine vv_iload_n C dX0_firstUnlawful_9 rfl ?_
        refine vs_caliF C dX0_firstUnlawful_10 (c_X0_isUnlawful g S hS law hl hs p (by omega)) mb_X0_isUnlawful mv_X0_isUnlawful lk_X0_42 ce_43 rfl rfl rfl rfl ⟨Nat.le_of_ble_eq_true rfl, Nat.le_of_ble_eq_true rfl, Nat.le_of_ble_eq_true rfl⟩ ?_
        refine vv_if_eq (tgt := 29) C dX0_firstUnlawful_13 (by decide) (fun q13 => ?_) (fun q13 => ?_)
        · rw [if_neg (by rw [vs_b0.mp q13]; decide)] at he
          refine vw_iinc (lv9 := [_, _]) C dX0_firstUnlawful_29 rfl ic_1 (by decide) rfl rfl ?_
          refine vv_goto (tgt := 2) C dX0_firstUnlawful_32 (by decide) ?_
          rw [nI_1]
          exact ih (p + 1) (by omega) he
        · rw [if_pos (vs_b1.mp q13)] at he
          refine vv_iload_n C dX0_firstUnlawful_16 rfl ?_
          refine vv_bipush C dX0_firstUnlawful_17 bp_8 ?_
          refine vv_idiv C dX0_firstUnlawful_19 (by decide) ?_
          refine vs_eqi (v9 := nI (p / 8)) (by rw [xn_lit, xn_div (by omega) (by omega)]) ?_
          refine vv_bipush C dX0_firstUnlawful_20 bp_10 ?_
          refine vv_imul C dX0_firstUnlawful_22 ?_
          refine vs_eqi (v9 := nI (p / 8 * 10)) (by rw [xn_lit, xn_mul]) ?_
          refine vv_iload_n C dX0_firstUnlawful_23 rfl ?_
          refine vv_bipush C dX0_firstUnlawful_24 bp_8 ?_
          refine vv_irem C dX0_firstUnlawful_26 (by decide) ?_
          refine vs_eqi (v9 := nI (p % 8)) (by rw [xn_lit, xn_mod (by omega) (by omega)]) ?_
          refine vv_iadd C dX0_firstUnlawful_27 ?_
          refine vs_eqi (v9 := nI (p / 8 * 10 + p % 8)) (nI_add _ _) ?_
          exact vs_iret C F dX0_firstUnlawful_28 rfl ⟨he, rfl⟩
  refine vv_iconst C dX0_firstUnlawful_0 ic_0 ?_
  refine vw_istore_n (lv9 := [_, _]) C dX0_firstUnlawful_1 (by decide) rfl rfl ?_
  exact loop 64 0 rfl rfl
set_option maxRecDepth 20000 in
theorem c_X0_rise (g : vv_G) (S : vs_S) (hS : nx_ok S) (law : Nat) (hl : law ≤ 3) (hs : S.1 0 = nI law) : vs_FI g yX0_rise cX0_rise 4 (some .int) 6 [vv_r g 43] S (ds (np_lx law) (S.2.1 19) 64 0 0) S := by
  refine vs_ofI (lv := [_, _, _, _]) mb_X0_rise (Nat.le_of_ble_eq_true rfl) rfl (fun x C F => ?_)
  have loop : ∀ (f p : Nat) (s : Int32) (w : Option Value), p + f = 64 → ds (np_lx law) (S.2.1 19) f p s = ds (np_lx law) (S.2.1 19) 64 0 0 → vv_V g x 4 0 0 4 [some (vv_r g 43), some (.int s), some (.int (nI p)), w] [] (vs_cells g S) := by
    intro f
    induction f with
    | zero =>
      intro p s w h1 he
      have ho : p = 64 := by omega
      subst ho
      refine vv_iload_n C dX0_rise_4 rfl ?_
      refine vv_bipush C dX0_rise_5 bp_64 ?_
      refine vv_icmp_ge (tgt := 62) C dX0_rise_7 (by decide) (fun q7 => ?_) (fun q7 => ?_)
      · refine vv_iload_n C dX0_rise_62 rfl ?_
        exact vs_iret C F dX0_rise_63 rfl ⟨he, rfl⟩
      · exact absurd (by decide +kernel) q7
    | succ f ih =>
      intro p s w h1 he
      rw [ds1 f] at he
      refine vv_iload_n C dX0_rise_4 rfl ?_
      refine vv_bipush C dX0_rise_5 bp_64 ?_
      refine vv_icmp_ge (tgt := 62) C dX0_rise_7 (by decide) (fun q7 => ?_) (fun q7 => ?_)
      · exact absurd q7 (by rw [xn_lit, xn_le (by omega) (by omega)]; omega)
      · refine vv_aload_n C dX0_rise_10 rfl ?_
        refine vv_iload_n C dX0_rise_11 rfl ?_
        refine vs_caliF C dX0_rise_12 (c_X0_isUnlawful g S hS law hl hs p (by omega)) mb_X0_isUnlawful mv_X0_isUnlawful lk_X0_42 ce_43 rfl rfl rfl rfl ⟨Nat.le_of_ble_eq_true rfl, Nat.le_of_ble_eq_true rfl, Nat.le_of_ble_eq_true rfl⟩ ?_
        refine vv_if_eq (tgt := 56) C dX0_rise_15 (by decide) (fun q15 => ?_) (fun q15 => ?_)
        · rw [if_neg (by rw [vs_b0.mp q15]; decide)] at he
          refine vw_iinc (lv9 := [_, _, _, _]) C dX0_rise_56 rfl ic_1 (by decide) rfl rfl ?_
          refine vv_goto (tgt := 4) C dX0_rise_59 (by decide) ?_
          rw [nI_1]
          exact ih (p + 1) _ _ (by omega) he
        · rw [if_pos (vs_b1.mp q15)] at he
          refine vv_aload_n C dX0_rise_18 rfl ?_
          refine gf_X0_laws C dX0_rise_19 fg_X0_15 ?_
          refine vv_aload_n C dX0_rise_22 rfl ?_
          refine gf_X0_ledger C dX0_rise_23 fg_X0_19 ?_
          refine vv_iload_n C dX0_rise_26 rfl ?_
          refine vs_caliF C dX0_rise_27 (c_X2_at g S _ (xn_in (by omega) (by omega))) mb_X2_at mv_X2_at lk_X0_27 ce_18 rfl rfl rfl rfl ⟨Nat.le_of_ble_eq_true rfl, Nat.le_of_ble_eq_true rfl, Nat.le_of_ble_eq_true rfl⟩ ?_
          refine vs_eqi (v9 := S.2.1 19 p) (by rw [xn_cl (by omega)]) ?_
          refine vs_caliF C dX0_rise_30 (c_X1_leastFrom g S hS law hl hs _) mb_X1_leastFrom mv_X1_leastFrom lk_X0_46 ce_4 rfl rfl rfl rfl ⟨Nat.le_of_ble_eq_true rfl, Nat.le_of_ble_eq_true rfl, Nat.le_of_ble_eq_true rfl⟩ ?_
          refine vw_istore_n (lv9 := [_, _, _, _]) C dX0_rise_33 (by decide) rfl rfl ?_
          refine vv_iload_n C dX0_rise_34 rfl ?_
          refine vv_bipush C dX0_rise_35 bp_m2 ?_
          refine vv_icmp_ne (tgt := 43) C dX0_rise_37 (by decide) (fun q37 => ?_) (fun q37 => ?_)
          · rw [if_neg q37] at he
            refine vv_iload_n C dX0_rise_43 rfl ?_
            refine vv_iload_n C dX0_rise_44 rfl ?_
            refine vv_aload_n C dX0_rise_45 rfl ?_
            refine gf_X0_ledger C dX0_rise_46 fg_X0_19 ?_
            refine vv_iload_n C dX0_rise_49 rfl ?_
            refine vs_caliF C dX0_rise_50 (c_X2_at g S _ (xn_in (by omega) (by omega))) mb_X2_at mv_X2_at lk_X0_27 ce_18 rfl rfl rfl rfl ⟨Nat.le_of_ble_eq_true rfl, Nat.le_of_ble_eq_true rfl, Nat.le_of_ble_eq_true rfl⟩ ?_
            refine vs_eqi (v9 := S.2.1 19 p) (by rw [xn_cl (by omega)]) ?_
            refine vv_isub C dX0_rise_53 ?_
            refine vv_iadd C dX0_rise_54 ?_
            refine vw_istore_n (lv9 := [_, _, _, _]) C dX0_rise_55 (by decide) rfl rfl ?_
            refine vw_iinc (lv9 := [_, _, _, _]) C dX0_rise_56 rfl ic_1 (by decide) rfl rfl ?_
            refine vv_goto (tgt := 4) C dX0_rise_59 (by decide) ?_
            rw [nI_1]
            exact ih (p + 1) _ _ (by omega) he
          · rw [if_pos q37] at he
            refine vv_bipush C dX0_rise_40 bp_m2 ?_
            exact vs_iret C F dX0_rise_42 rfl ⟨he, rfl⟩
  refine vv_iconst C dX0_rise_0 ic_0 ?_
  refine vw_istore_n (lv9 := [_, _, _, _]) C dX0_rise_1 (by decide) rfl rfl ?_
  refine vv_iconst C dX0_rise_2 ic_0 ?_
  refine vw_istore_n (lv9 := [_, _, _, _]) C dX0_rise_3 (by decide) rfl rfl ?_
  exact loop 64 0 0 none rfl rfl
set_option maxRecDepth 20000 in
theorem c_X0_open (g : vv_G) (S : vs_S) : vs_FI g yX0_open cX0_open 3 (some .int) 2 [vv_r g 43] S (nI (dop (S.2.1 19) 64 0)) S := by
  refine vs_ofI (lv := [_, _, _]) mb_X0_open (Nat.le_of_ble_eq_true rfl) rfl (fun x C F => ?_)
  have loop : ∀ (f p m : Nat), p + f = 64 → m + dop (S.2.1 19) f p = dop (S.2.1 19) 64 0 → vv_V g x 3 0 0 4 [some (vv_r g 43), some (.int (nI m)), some (.int (nI p))] [] (vs_cells g S) := by
    intro f
    induction f with
    | zero =>
      intro p m h1 he
      have ho : p = 64 := by omega
      subst ho
      refine vv_iload_n C dX0_open_4 rfl ?_
      refine vv_bipush C dX0_open_5 bp_64 ?_
      refine vv_icmp_ge (tgt := 30) C dX0_open_7 (by decide) (fun q7 => ?_) (fun q7 => ?_)
      · refine vv_iload_n C dX0_open_30 rfl ?_
        exact vs_iret C F dX0_open_31 rfl ⟨by rw [← he]; rfl, rfl⟩
      · exact absurd (by decide +kernel) q7
    | succ f ih =>
      intro p m h1 he
      rw [dop1 f] at he
      refine vv_iload_n C dX0_open_4 rfl ?_
      refine vv_bipush C dX0_open_5 bp_64 ?_
      refine vv_icmp_ge (tgt := 30) C dX0_open_7 (by decide) (fun q7 => ?_) (fun q7 => ?_)
      · exact absurd q7 (by rw [xn_lit, xn_le (by omega) (by omega)]; omega)
      · refine vv_aload_n C dX0_open_10 rfl ?_
        refine gf_X0_ledger C dX0_open_11 fg_X0_19 ?_
        refine vv_iload_n C dX0_open_14 rfl ?_
        refine vs_caliF C dX0_open_15 (c_X2_at g S _ (xn_in (by omega) (by omega))) mb_X2_at mv_X2_at lk_X0_27 ce_18 rfl rfl rfl rfl ⟨Nat.le_of_ble_eq_true rfl, Nat.le_of_ble_eq_true rfl, Nat.le_of_ble_eq_true rfl⟩ ?_
        refine vs_eqi (v9 := S.2.1 19 p) (by rw [xn_cl (by omega)]) ?_
        refine vv_if_le (tgt := 24) C dX0_open_18 (by decide) (fun q18 => ?_) (fun q18 => ?_)
        · rw [if_neg (Int32.not_lt.mpr q18)] at he
          refine vw_iinc (lv9 := [_, _, _]) C dX0_open_24 rfl ic_1 (by decide) rfl rfl ?_
          refine vv_goto (tgt := 4) C dX0_open_27 (by decide) ?_
          first
          | (rw [nI_1, nI_1]; exact ih (p + 1) (m + 1) (by omega) (by omega))
          | (rw [nI_1]; exact ih (p + 1) m (by omega) (by omega))
        · rw [if_pos (Int32.not_le.mp q18)] at he
          refine vw_iinc (lv9 := [_, _, _]) C dX0_open_21 rfl ic_1 (by decide) rfl rfl ?_
          refine vw_iinc (lv9 := [_, _, _]) C dX0_open_24 rfl ic_1 (by decide) rfl rfl ?_
          refine vv_goto (tgt := 4) C dX0_open_27 (by decide) ?_
          first
          | (rw [nI_1, nI_1]; exact ih (p + 1) (m + 1) (by omega) (by omega))
          | (rw [nI_1]; exact ih (p + 1) m (by omega) (by omega))
  refine vv_iconst C dX0_open_0 ic_0 ?_
  refine vw_istore_n (lv9 := [_, _, _]) C dX0_open_1 (by decide) rfl rfl ?_
  refine vv_iconst C dX0_open_2 ic_0 ?_
  refine vw_istore_n (lv9 := [_, _, _]) C dX0_open_3 (by decide) rfl rfl ?_
  exact loop 64 0 0 rfl (by omega)
set_option maxRecDepth 20000 in
theorem c_X11_judge (g : vv_G) (S : vs_S) (hS : nx_ok S) (law : Nat) (hl : law ≤ 3) (hs : S.1 0 = nI law) : vs_FI g yX11_judge cX11_judge 1 (some .int) 7 [vv_r g 0] S (dj (np_lx law) (S.2.1 19) 64 0) S := by
  refine vs_ofI (lv := [_]) mb_X11_judge (Nat.le_of_ble_eq_true rfl) rfl (fun x C F => ?_)
  refine vv_aload_n C dX11_judge_0 rfl ?_
  refine gf_X11_debts C dX11_judge_1 fg_X11_60 ?_
  refine vs_caliF C dX11_judge_4 (c_X0_firstUnlawful g S hS law hl hs) mb_X0_firstUnlawful mv_X0_firstUnlawful lk_X11_234 ce_43 rfl rfl rfl rfl ⟨Nat.le_of_ble_eq_true rfl, Nat.le_of_ble_eq_true rfl, Nat.le_of_ble_eq_true rfl⟩ ?_
  exact vs_iret C F dX11_judge_7 rfl ⟨rfl, rfl⟩
set_option maxRecDepth 20000 in
theorem c_X11_struck (g : vv_G) (S : vs_S) (hS : nx_ok S) (law : Nat) (hl : law ≤ 3) (hs : S.1 0 = nI law) : vs_FI g yX11_struck cX11_struck 1 (some .int) 7 [vv_r g 0] S (ds (np_lx law) (S.2.1 19) 64 0 0) S := by
  refine vs_ofI (lv := [_]) mb_X11_struck (Nat.le_of_ble_eq_true rfl) rfl (fun x C F => ?_)
  refine vv_aload_n C dX11_struck_0 rfl ?_
  refine gf_X11_debts C dX11_struck_1 fg_X11_60 ?_
  refine vs_caliF C dX11_struck_4 (c_X0_rise g S hS law hl hs) mb_X0_rise mv_X0_rise lk_X11_240 ce_43 rfl rfl rfl rfl ⟨Nat.le_of_ble_eq_true rfl, Nat.le_of_ble_eq_true rfl, Nat.le_of_ble_eq_true rfl⟩ ?_
  exact vs_iret C F dX11_struck_7 rfl ⟨rfl, rfl⟩
set_option maxRecDepth 20000 in
theorem c_X12_judge (g : vv_G) (S : vs_S) (hfl : vv_fl g = false) (hS : nm_ok S) (law : Nat) (hl : law ≤ 3) (hs : S.1 23 = nI law) : vs_KI g yX12_judge cX12_judge 3 (some .int) 5 [vv_r g 65] S (fun r S1 => r = (dj (np_lm law) (S.2.1 66) 64 0) ∧ nm_to S S1) := by
  refine vs_ofI (lv := [_, _, _]) mb_X12_judge (Nat.le_of_ble_eq_true rfl) rfl (fun x C F => ?_)
  have outer : ∀ (m a : Nat) (S2 : vs_S) (w : Option Value), a + m = 8 → nm_T law S S2 → dj (np_lm law) (S.2.1 66) (64 - (8 * a)) (8 * a) = dj (np_lm law) (S.2.1 66) (64 - (0)) (0) → vv_V g x 3 0 0 2 [some (vv_r g 65), some (.int (nI a)), w] [] (vs_cells g S2) := by
    intro m
    induction m with
    | zero =>
      intro a S2 w h1 t he
      have hb : a = 8 := by omega
      subst hb
      refine vv_iload_n C dX12_judge_2 rfl ?_
      refine vv_bipush C dX12_judge_3 bp_8 ?_
      refine vv_icmp_ge (tgt := 58) C dX12_judge_5 (by decide) (fun q5 => ?_) (fun q5 => ?_)
      · refine vv_bipush C dX12_judge_58 bp_m2 ?_
        exact vs_iret C F dX12_judge_60 rfl ⟨he, t.1⟩
      · exact absurd (by decide +kernel) q5
    | succ m ih =>
      intro a S2 w h1 t he
      have inner : ∀ (k b : Nat) (S2 : vs_S), b + k = 8 → nm_T law S S2 → dj (np_lm law) (S.2.1 66) (64 - (8 * a + b)) (8 * a + b) = dj (np_lm law) (S.2.1 66) (64 - (0)) (0) → vv_V g x 3 0 0 10 [some (vv_r g 65), some (.int (nI a)), some (.int (nI b))] [] (vs_cells g S2) := by
        intro k
        induction k with
        | zero =>
          intro b S2 h3 t he
          have hb : b = 8 := by omega
          subst hb
          refine vv_iload_n C dX12_judge_10 rfl ?_
          refine vv_bipush C dX12_judge_11 bp_8 ?_
          refine vv_icmp_ge (tgt := 52) C dX12_judge_13 (by decide) (fun q13 => ?_) (fun q13 => ?_)
          · refine vw_iinc (lv9 := [_, _, _]) C dX12_judge_52 rfl ic_1 (by decide) rfl rfl ?_
            refine vv_goto (tgt := 2) C dX12_judge_55 (by decide) ?_
            rw [nI_1]
            exact ih (a + 1) S2 _ (by omega) t (by rw [show 8 * (a + 1) = 8 * a + 8 by omega]; exact he)
          · exact absurd (by decide +kernel) q13
        | succ k ih2 =>
          intro b S2 h3 t he
          have eH : S2.2.1 66 = S.2.1 66 := t.1.1.2.1 66 (by decide)
          rw [dj2 (p := 8 * a + b) (by omega)] at he
          have e8 : (8 * a + b) / 8 * 10 + (8 * a + b) % 8 = 10 * a + b := by omega
          rw [e8] at he
          refine vv_iload_n C dX12_judge_10 rfl ?_
          refine vv_bipush C dX12_judge_11 bp_8 ?_
          refine vv_icmp_ge (tgt := 52) C dX12_judge_13 (by decide) (fun q13 => ?_) (fun q13 => ?_)
          · exact absurd q13 (by rw [xn_lit, xn_le (by omega) (by omega)]; omega)
          · refine vv_aload_n C dX12_judge_16 rfl ?_
            refine vv_iload_n C dX12_judge_17 rfl ?_
            refine vv_iload_n C dX12_judge_18 rfl ?_
            refine vs_caliF C dX12_judge_19 (c_X12_debtOf g S2 (nI a) (nI b) (by rw [xn_lit, xn_mul, nI_add]; exact xn_in (by omega) (by omega))) mb_X12_debtOf mv_X12_debtOf lk_X12_288 ce_65 rfl rfl rfl rfl ⟨Nat.le_of_ble_eq_true rfl, Nat.le_of_ble_eq_true rfl, Nat.le_of_ble_eq_true rfl⟩ ?_
            refine vs_eqi (v9 := S.2.1 66 (8 * a + b)) (by rw [xn_lit, xn_mul, nI_add, xn_cl (by omega), eH]) ?_
            refine vv_if_le (tgt := 46) C dX12_judge_22 (by decide) (fun q22 => ?_) (fun q22 => ?_)
            · rw [du0 q22, if_neg (by decide)] at he
              refine vw_iinc (lv9 := [_, _, _]) C dX12_judge_46 rfl ic_1 (by decide) rfl rfl ?_
              refine vv_goto (tgt := 10) C dX12_judge_49 (by decide) ?_
              rw [nI_1]
              first
              | exact ih2 (b + 1) _ (by omega) t he
              | exact ih2 (b + 1) _ (by omega) t33 he
            · obtain ⟨n, hn, e⟩ := du2 q22
              rw [du1 q22, e, xn_cl hn] at he
              refine vv_aload_n C dX12_judge_25 rfl ?_
              refine vv_aload_n C dX12_judge_26 rfl ?_
              refine vv_iload_n C dX12_judge_27 rfl ?_
              refine vv_iload_n C dX12_judge_28 rfl ?_
              refine vs_caliF C dX12_judge_29 (c_X12_debtOf g S2 (nI a) (nI b) (by rw [xn_lit, xn_mul, nI_add]; exact xn_in (by omega) (by omega))) mb_X12_debtOf mv_X12_debtOf lk_X12_288 ce_65 rfl rfl rfl rfl ⟨Nat.le_of_ble_eq_true rfl, Nat.le_of_ble_eq_true rfl, Nat.le_of_ble_eq_true rfl⟩ ?_
              refine vs_eqi (v9 := nI n) (by rw [xn_lit, xn_mul, nI_add, xn_cl (by omega), eH]; exact e) ?_
              refine vv_i2l C dX12_judge_32 ?_
              refine vs_eql (v9 := lN n) (xn_i2l (by omega)) ?_
              refine vs_calli C dX12_judge_33 (c_X12_isLawful g S2 hfl t.1.2 law hl t.2 n (by omega)) mb_X12_isLawful mv_X12_isLawful lk_X12_135 ce_65 rfl rfl rfl rfl ⟨Nat.le_of_ble_eq_true rfl, Nat.le_of_ble_eq_true rfl, Nat.le_of_ble_eq_true rfl⟩ (fun r33 S33 p33 => ?_)
              obtain ⟨e33, u33⟩ := p33
              subst e33
              have t33 := t.go u33
              refine vv_if_ne (tgt := 46) C dX12_judge_36 (by decide) (fun q36 => ?_) (fun q36 => ?_)
              · rw [vs_b1.mp q36, if_neg (by decide)] at he
                refine vw_iinc (lv9 := [_, _, _]) C dX12_judge_46 rfl ic_1 (by decide) rfl rfl ?_
                refine vv_goto (tgt := 10) C dX12_judge_49 (by decide) ?_
                rw [nI_1]
                first
                | exact ih2 (b + 1) _ (by omega) t he
                | exact ih2 (b + 1) _ (by omega) t33 he
              · rw [vs_b0.mp q36, if_pos (by decide)] at he
                refine vv_bipush C dX12_judge_39 bp_10 ?_
                refine vv_iload_n C dX12_judge_41 rfl ?_
                refine vv_imul C dX12_judge_42 ?_
                refine vs_eqi (v9 := nI (10 * a)) (by rw [xn_lit, xn_mul]) ?_
                refine vv_iload_n C dX12_judge_43 rfl ?_
                refine vv_iadd C dX12_judge_44 ?_
                refine vs_eqi (v9 := nI (10 * a + b)) (nI_add _ _) ?_
                exact vs_iret C F dX12_judge_45 rfl ⟨he, t33.1⟩
      refine vv_iload_n C dX12_judge_2 rfl ?_
      refine vv_bipush C dX12_judge_3 bp_8 ?_
      refine vv_icmp_ge (tgt := 58) C dX12_judge_5 (by decide) (fun q5 => ?_) (fun q5 => ?_)
      · exact absurd q5 (by rw [xn_lit, xn_le (by omega) (by omega)]; omega)
      · refine vv_iconst C dX12_judge_8 ic_0 ?_
        refine vw_istore_n (lv9 := [_, _, _]) C dX12_judge_9 (by decide) rfl rfl ?_
        exact inner 8 0 S2 (by omega) t he
  refine vv_iconst C dX12_judge_0 ic_0 ?_
  refine vw_istore_n (lv9 := [_, _, _]) C dX12_judge_1 (by decide) rfl rfl ?_
  exact outer 8 0 S none (by omega) (nm_T.rf hS hs) rfl
set_option maxRecDepth 20000 in
theorem c_X12_struck (g : vv_G) (S : vs_S) (hfl : vv_fl g = false) (hS : nm_ok S) (law : Nat) (hl : law ≤ 3) (hs : S.1 23 = nI law) : vs_KI g yX12_struck cX12_struck 4 (some .int) 6 [vv_r g 65] S (fun r S1 => r = (ds (np_lm law) (S.2.1 66) 64 0 0) ∧ nm_to S S1) := by
  refine vs_ofI (lv := [_, _, _, _]) mb_X12_struck (Nat.le_of_ble_eq_true rfl) rfl (fun x C F => ?_)
  have loop : ∀ (f p : Nat) (s : Int32) (w : Option Value) (S2 : vs_S), p + f = 64 → nm_T law S S2 → ds (np_lm law) (S.2.1 66) f p s = ds (np_lm law) (S.2.1 66) 64 0 0 → vv_V g x 4 0 0 4 [some (vv_r g 65), some (.int s), some (.int (nI p)), w] [] (vs_cells g S2) := by
    intro f
    induction f with
    | zero =>
      intro p s w S2 h1 t he
      have ho : p = 64 := by omega
      subst ho
      refine vv_iload_n C dX12_struck_4 rfl ?_
      refine vv_bipush C dX12_struck_5 bp_64 ?_
      refine vv_icmp_ge (tgt := 68) C dX12_struck_7 (by decide) (fun q7 => ?_) (fun q7 => ?_)
      · refine vv_iload_n C dX12_struck_68 rfl ?_
        exact vs_iret C F dX12_struck_69 rfl ⟨he, t.1⟩
      · exact absurd (by decide +kernel) q7
    | succ f ih =>
      intro p s w S2 h1 t he
      have eH : S2.2.1 66 = S.2.1 66 := t.1.1.2.1 66 (by decide)
      rw [ds1 f] at he
      refine vv_iload_n C dX12_struck_4 rfl ?_
      refine vv_bipush C dX12_struck_5 bp_64 ?_
      refine vv_icmp_ge (tgt := 68) C dX12_struck_7 (by decide) (fun q7 => ?_) (fun q7 => ?_)
      · exact absurd q7 (by rw [xn_lit, xn_le (by omega) (by omega)]; omega)
      · refine vv_aload_n C dX12_struck_10 rfl ?_
        refine gf_X12_may C dX12_struck_11 fg_X12_9 ?_
        refine vv_iload_n C dX12_struck_14 rfl ?_
        refine ld_66 C dX12_struck_15 (xn_in (by omega) (by omega)) ?_
        refine vs_eqi (v9 := S.2.1 66 p) (by rw [xn_cl (by omega), eH]) ?_
        refine vv_if_le (tgt := 62) C dX12_struck_16 (by decide) (fun q16 => ?_) (fun q16 => ?_)
        · rw [du0 q16, if_neg (by decide)] at he
          refine vw_iinc (lv9 := [_, _, _, _]) C dX12_struck_62 rfl ic_1 (by decide) rfl rfl ?_
          refine vv_goto (tgt := 4) C dX12_struck_65 (by decide) ?_
          rw [nI_1]
          first
          | exact ih (p + 1) _ _ _ (by omega) t he
          | exact ih (p + 1) _ _ _ (by omega) t27 he
          | exact ih (p + 1) _ _ _ (by omega) t40 he
        · obtain ⟨n, hn, e⟩ := du2 q16
          rw [du1 q16, e, xn_cl hn] at he
          refine vv_aload_n C dX12_struck_19 rfl ?_
          refine vv_aload_n C dX12_struck_20 rfl ?_
          refine gf_X12_may C dX12_struck_21 fg_X12_9 ?_
          refine vv_iload_n C dX12_struck_24 rfl ?_
          refine ld_66 C dX12_struck_25 (xn_in (by omega) (by omega)) ?_
          refine vs_eqi (v9 := nI n) (by rw [xn_cl (by omega), eH]; exact e) ?_
          refine vv_i2l C dX12_struck_26 ?_
          refine vs_eql (v9 := lN n) (xn_i2l (by omega)) ?_
          refine vs_calli C dX12_struck_27 (c_X12_isLawful g S2 hfl t.1.2 law hl t.2 n (by omega)) mb_X12_isLawful mv_X12_isLawful lk_X12_135 ce_65 rfl rfl rfl rfl ⟨Nat.le_of_ble_eq_true rfl, Nat.le_of_ble_eq_true rfl, Nat.le_of_ble_eq_true rfl⟩ (fun r27 S27 p27 => ?_)
          obtain ⟨e27, u27⟩ := p27
          subst e27
          have t27 := t.go u27
          refine vv_if_ne (tgt := 62) C dX12_struck_30 (by decide) (fun q30 => ?_) (fun q30 => ?_)
          · rw [vs_b1.mp q30, if_neg (by decide)] at he
            refine vw_iinc (lv9 := [_, _, _, _]) C dX12_struck_62 rfl ic_1 (by decide) rfl rfl ?_
            refine vv_goto (tgt := 4) C dX12_struck_65 (by decide) ?_
            rw [nI_1]
            first
            | exact ih (p + 1) _ _ _ (by omega) t he
            | exact ih (p + 1) _ _ _ (by omega) t27 he
            | exact ih (p + 1) _ _ _ (by omega) t40 he
          · rw [vs_b0.mp q30, if_pos (by decide)] at he
            refine vv_aload_n C dX12_struck_33 rfl ?_
            refine vv_aload_n C dX12_struck_34 rfl ?_
            refine gf_X12_may C dX12_struck_35 fg_X12_9 ?_
            refine vv_iload_n C dX12_struck_38 rfl ?_
            refine ld_66 C dX12_struck_39 (xn_in (by omega) (by omega)) ?_
            refine vs_eqi (v9 := nI n) (by rw [xn_cl (by omega), u27.1.2.1 66 (by decide), eH]; exact e) ?_
            refine vs_calli C dX12_struck_40 (c_X12_nextOf g S27 hfl t27.1.2 law hl t27.2 (nI n)) mb_X12_nextOf mv_X12_nextOf lk_X12_197 ce_65 rfl rfl rfl rfl ⟨Nat.le_of_ble_eq_true rfl, Nat.le_of_ble_eq_true rfl, Nat.le_of_ble_eq_true rfl⟩ (fun r40 S40 p40 => ?_)
            obtain ⟨e40, u40⟩ := p40
            subst e40
            have t40 := t27.go u40
            rw [xn_cl hn] at *
            refine vw_istore_n (lv9 := [_, _, _, _]) C dX12_struck_43 (by decide) rfl rfl ?_
            refine vv_iload_n C dX12_struck_44 rfl ?_
            refine vv_if_ge (tgt := 51) C dX12_struck_45 (by decide) (fun q45 => ?_) (fun q45 => ?_)
            · rw [if_neg (fun z => absurd (lw_nextn.mpr z) (Int32.not_lt.mpr q45))] at he
              refine vv_iload_n C dX12_struck_51 rfl ?_
              refine vv_iload_n C dX12_struck_52 rfl ?_
              refine vv_aload_n C dX12_struck_53 rfl ?_
              refine gf_X12_may C dX12_struck_54 fg_X12_9 ?_
              refine vv_iload_n C dX12_struck_57 rfl ?_
              refine ld_66 C dX12_struck_58 (xn_in (by omega) (by omega)) ?_
              refine vs_eqi (v9 := nI n) (by rw [xn_cl (by omega), u40.1.2.1 66 (by decide), u27.1.2.1 66 (by decide), eH]; exact e) ?_
              refine vv_isub C dX12_struck_59 ?_
              refine vv_iadd C dX12_struck_60 ?_
              refine vw_istore_n (lv9 := [_, _, _, _]) C dX12_struck_61 (by decide) rfl rfl ?_
              refine vw_iinc (lv9 := [_, _, _, _]) C dX12_struck_62 rfl ic_1 (by decide) rfl rfl ?_
              refine vv_goto (tgt := 4) C dX12_struck_65 (by decide) ?_
              rw [nI_1]
              first
              | exact ih (p + 1) _ _ _ (by omega) t he
              | exact ih (p + 1) _ _ _ (by omega) t27 he
              | exact ih (p + 1) _ _ _ (by omega) t40 he
            · rw [if_pos (lw_nextn.mp (Int32.not_le.mp q45))] at he
              refine vv_bipush C dX12_struck_48 bp_m2 ?_
              exact vs_iret C F dX12_struck_50 rfl ⟨he, t40.1⟩
  refine vv_iconst C dX12_struck_0 ic_0 ?_
  refine vw_istore_n (lv9 := [_, _, _, _]) C dX12_struck_1 (by decide) rfl rfl ?_
  refine vv_iconst C dX12_struck_2 ic_0 ?_
  refine vw_istore_n (lv9 := [_, _, _, _]) C dX12_struck_3 (by decide) rfl rfl ?_
  exact loop 64 0 0 none S rfl (nm_T.rf hS hs) rfl
