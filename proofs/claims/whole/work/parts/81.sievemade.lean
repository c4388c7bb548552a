theorem pl_iald {g : vv_G} {x : vv_X} {own nm : String} {cc : ByteArray} {nL k n pc : Nat} {ret : Option FieldType} {R0 : Room} {lv : List (Option Value)} {st : List Value} {pre l : List va_E} {b i i0 na : Nat} {f : Nat → Int32} {j : Int32} (C : vv_C g own nm cc nL ret R0 x) (hP : pre.length = b) (hi : i = b + i0) (d : decode cc pc = .ok (.iaload, 1)) (he : l[i0]? = some (.inl (vv_cI g, na, .inl f))) (hin : vp_in j na) (kk : vv_V g x nL k n (pc + 1) lv (.int (f j.toNatClampNeg) :: st) (pre ++ l)) : vv_V g x nL k n (pc) lv (.int j :: vv_r0 g i :: st) (pre ++ l) := by
  subst hi
  exact vv_iald C d ((pl_get hP).trans he) hin kk
set_option maxRecDepth 20000 in
theorem c_X3_sievedW (g : vv_G) (pre : List va_E) (hP : pre.length = 1) (W : Nat → Int32) (n : Nat) (hn : n < 100003) : vv_KI g yX3_sieved cX3_sieved 2 (some .boolean) (vs_R 1) [vv_r0 g 1, .int (nI n)] (pre ++ [.inr (3, [vv_r0 g 2, vv_r0 g 3]), .inl (vv_cI g, 3126, .inl W), .inl (vv_cI g, 32, .inl (fun _ => 0))]) (fun r h => r = vs_b (bt W n) ∧ h = (pre ++ [.inr (3, [vv_r0 g 2, vv_r0 g 3]), .inl (vv_cI g, 3126, .inl W), .inl (vv_cI g, 32, .inl (fun _ => 0))])) := by
  refine vv_ofI mb_X3_sieved (Nat.le_of_ble_eq_true rfl) (fun x C F => ?_)
  refine vv_aload_n0 C dX3_sieved_0 rfl ?_
  refine pl_getf C hP dX3_sieved_1 fg_X3_11 rfl rfl ?_
  refine vv_iload_n C dX3_sieved_4 rfl ?_
  refine vv_iconst C dX3_sieved_5 ic_5 ?_
  refine vv_ishr C dX3_sieved_6 ?_
  refine vs_eqi (v9 := nI (n / 32)) (pk_shrN (by omega) _ 5 (by decide +kernel)) ?_
  refine pl_iald (i0 := 1) C hP rfl dX3_sieved_7 rfl (xn_in (by omega) (by omega)) ?_
  refine vs_eqi (v9 := W (n / 32)) (by rw [xn_cl (by omega)]) ?_
  refine vv_iload_n C dX3_sieved_8 rfl ?_
  refine vv_bipush C dX3_sieved_9 bp_31 ?_
  refine vv_iand C dX3_sieved_11 ?_
  refine vs_eqi (v9 := nI (n % 32)) (pk_andN (by omega) 5 (by decide +kernel)) ?_
  refine vv_ishr C dX3_sieved_12 ?_
  refine vv_iconst C dX3_sieved_13 ic_1 ?_
  refine vv_iand C dX3_sieved_14 ?_
  refine vs_eqi (v9 := if bt W n = true then 1 else 0) (bt_1 (Nat.mod_lt _ (by omega))) ?_
  refine vv_iconst C dX3_sieved_15 ic_1 ?_
  refine vv_icmp_ne (tgt := 23) C dX3_sieved_16 (by decide) (fun q16 => ?_) (fun q16 => ?_)
  · refine vv_iconst C dX3_sieved_23 ic_0 ?_
    refine vv_iret (st := []) C F dX3_sieved_24 rfl rfl ⟨Nat.le_of_ble_eq_true rfl, Nat.le_of_ble_eq_true rfl⟩ ⟨?_, rfl⟩
    cases h : bt W n
    · rfl
    · rw [h] at q16; exact absurd rfl q16
  · refine vv_iconst C dX3_sieved_19 ic_1 ?_
    refine vv_goto (tgt := 24) C dX3_sieved_20 (by decide) ?_
    refine vv_iret (st := []) C F dX3_sieved_24 rfl rfl ⟨Nat.le_of_ble_eq_true rfl, Nat.le_of_ble_eq_true rfl⟩ ⟨?_, rfl⟩
    cases h : bt W n
    · rw [h] at q16; exact absurd q16 (by decide)
    · rfl
set_option maxRecDepth 20000 in
theorem c_X3_strikeFrom (g : vv_G) (pre : List va_E) (hP : pre.length = 1) (W : Nat → Int32) (o t : Nat) (ho : o < 200000) (ht : 1 ≤ t) (ht2 : t < 2000) : vv_KV g yX3_strikeFrom cX3_strikeFrom 4 none (vs_R 1) [vv_r0 g 1, .int (nI o), .int (nI t)] (pre ++ [.inr (3, [vv_r0 g 2, vv_r0 g 3]), .inl (vv_cI g, 3126, .inl W), .inl (vv_cI g, 32, .inl (fun _ => 0))]) (fun h => ∃ W1 : Nat → Int32, h = (pre ++ [.inr (3, [vv_r0 g 2, vv_r0 g 3]), .inl (vv_cI g, 3126, .inl W1), .inl (vv_cI g, 32, .inl (fun _ => 0))]) ∧ ∀ n, n < 100003 → (bt W1 n = true ↔ bt W n = true ∧ ¬ ∃ m, n = o + m * t)) := by
  refine vv_ofV mb_X3_strikeFrom (Nat.le_of_ble_eq_true rfl) (fun x C F => ?_)
  have loop : ∀ (f m : Nat) (W1 : Nat → Int32), 100003 ≤ o + m * t + f → o + m * t < 300000 → (∀ n, n < 100003 → (bt W1 n = true ↔ bt W n = true ∧ ¬ ∃ q, q < m ∧ n = o + q * t)) → vv_V g x 4 0 0 2 [some (vv_r0 g 1), some (.int (nI o)), some (.int (nI t)), some (.int (nI (o + m * t)))] [] (pre ++ [.inr (3, [vv_r0 g 2, vv_r0 g 3]), .inl (vv_cI g, 3126, .inl W1), .inl (vv_cI g, 32, .inl (fun _ => 0))]) := by
    intro f
    induction f with
    | zero =>
      intro m W1 hf h3 hW
      refine vv_iload_n C dX3_strikeFrom_2 rfl ?_
      refine vv_ldc C dX3_strikeFrom_3 kc_X3_25 ?_
      refine vv_icmp_ge (tgt := 34) C dX3_strikeFrom_5 (by decide) (fun q5 => ?_) (fun q5 => ?_)
      · have hge : 100003 ≤ o + m * t := by
          rw [xn_lit, xn_le (by omega) (by omega)] at q5
          exact q5
        refine vv_vret (st := []) C F dX3_strikeFrom_34 rfl ⟨Nat.le_of_ble_eq_true rfl, Nat.le_of_ble_eq_true rfl⟩ ⟨W1, rfl, fun n hn => (hW n hn).trans (and_congr_right (fun _ => not_congr ⟨fun ⟨q, _, e⟩ => ⟨q, e⟩, fun ⟨q, e⟩ => ⟨q, ?_, e⟩⟩))⟩
        apply Decidable.byContradiction
        intro z
        have := Nat.mul_le_mul_right t (Nat.not_lt.mp z)
        omega
      · exact absurd (show (100003 : Int32) ≤ nI (o + m * t) by rw [xn_lit, xn_le (by omega) (by omega)]; omega) q5
    | succ f ih =>
      intro m W1 hf h3 hW
      refine vv_iload_n C dX3_strikeFrom_2 rfl ?_
      refine vv_ldc C dX3_strikeFrom_3 kc_X3_25 ?_
      refine vv_icmp_ge (tgt := 34) C dX3_strikeFrom_5 (by decide) (fun q5 => ?_) (fun q5 => ?_)
      · have hge : 100003 ≤ o + m * t := by
          rw [xn_lit, xn_le (by omega) (by omega)] at q5
          exact q5
        refine vv_vret (st := []) C F dX3_strikeFrom_34 rfl ⟨Nat.le_of_ble_eq_true rfl, Nat.le_of_ble_eq_true rfl⟩ ⟨W1, rfl, fun n hn => (hW n hn).trans (and_congr_right (fun _ => not_congr ⟨fun ⟨q, _, e⟩ => ⟨q, e⟩, fun ⟨q, e⟩ => ⟨q, ?_, e⟩⟩))⟩
        apply Decidable.byContradiction
        intro z
        have := Nat.mul_le_mul_right t (Nat.not_lt.mp z)
        omega
      · have hlt : o + m * t < 100003 := by
          rw [xn_lit, xn_le (by omega) (by omega)] at q5
          omega
        refine vv_aload_n0 C dX3_strikeFrom_8 rfl ?_
        refine pl_getf C hP dX3_strikeFrom_9 fg_X3_11 rfl rfl ?_
        refine vv_iload_n C dX3_strikeFrom_12 rfl ?_
        refine vv_iconst C dX3_strikeFrom_13 ic_5 ?_
        refine vv_ishr C dX3_strikeFrom_14 ?_
        refine vs_eqi (v9 := nI ((o + m * t) / 32)) (pk_shrN (by omega) _ 5 (by decide +kernel)) ?_
        refine vv_dup2 C dX3_strikeFrom_15 rfl rfl ?_
        refine pl_iald (i0 := 1) C hP rfl dX3_strikeFrom_16 rfl (xn_in (by omega) (by omega)) ?_
        refine vs_eqi (v9 := W1 ((o + m * t) / 32)) (by rw [xn_cl (by omega)]) ?_
        refine vv_iconst C dX3_strikeFrom_17 ic_1 ?_
        refine vv_iload_n C dX3_strikeFrom_18 rfl ?_
        refine vv_bipush C dX3_strikeFrom_19 bp_31 ?_
        refine vv_iand C dX3_strikeFrom_21 ?_
        refine vs_eqi (v9 := nI ((o + m * t) % 32)) (pk_andN (by omega) 5 (by decide +kernel)) ?_
        refine vv_ishl C dX3_strikeFrom_22 ?_
        refine vv_iconst C dX3_strikeFrom_23 ic_m1 ?_
        refine vv_ixor C dX3_strikeFrom_24 ?_
        refine vv_iand C dX3_strikeFrom_25 ?_
        refine pl_iast (i0 := 1) (l2 := [.inr (3, [vv_r0 g 2, vv_r0 g 3]), .inl (vv_cI g, 3126, .inl (upd W1 ((o + m * t) / 32) (W1 ((o + m * t) / 32) &&& (((1 : Int32) <<< (nI ((o + m * t) % 32) &&& 31)) ^^^ (-1))))), .inl (vv_cI g, 32, .inl (fun _ => 0))]) C hP rfl dX3_strikeFrom_26 rfl (xn_in (by omega) (by omega)) (by rw [xn_cl (by omega)]; rfl) ?_
        refine vv_iload_n C dX3_strikeFrom_27 rfl ?_
        refine vv_iload_n C dX3_strikeFrom_28 rfl ?_
        refine vv_iadd C dX3_strikeFrom_29 ?_
        refine vs_eqi (v9 := nI (o + (m + 1) * t)) (by rw [nI_add, Nat.succ_mul, Nat.add_assoc]) ?_
        refine vw_istore_n (lv9 := [_, _, _, _]) C dX3_strikeFrom_30 (by decide) rfl rfl ?_
        refine vv_goto (tgt := 2) C dX3_strikeFrom_31 (by decide) ?_
        refine ih (m + 1) _ (by rw [Nat.succ_mul]; omega) (by rw [Nat.succ_mul]; omega) (fun n hn => ?_)
        rw [bt_u, Bool.and_eq_true, hW n hn, Bool.not_eq_true', decide_eq_false_iff_not]
        constructor
        · rintro ⟨⟨y1, y2⟩, y3⟩
          refine ⟨y1, ?_⟩
          rintro ⟨q, hq, e⟩
          by_cases z : q = m
          · subst z; exact y3 e
          · exact y2 ⟨q, by omega, e⟩
        · rintro ⟨y1, y2⟩
          exact ⟨⟨y1, fun ⟨q, hq, e⟩ => y2 ⟨q, by omega, e⟩⟩, fun e => y2 ⟨m, by omega, e⟩⟩
  refine vv_iload_n C dX3_strikeFrom_0 rfl ?_
  refine vw_istore_n (lv9 := [_, _, _, _]) C dX3_strikeFrom_1 (by decide) rfl rfl ?_
  have k := loop 100003 0 W (by omega) (by omega) (fun n hn => ⟨fun y => ⟨y, fun ⟨q, hq, _⟩ => absurd hq (Nat.not_lt_zero q)⟩, fun y => y.1⟩)
  rw [Nat.zero_mul, Nat.add_zero] at k
  exact k
theorem bt_f : ∀ i, i < 32 → (-1431655766 : Int32).toBitVec.getLsbD i = decide (i % 2 = 1) := by decide +kernel
theorem bt_g : ∀ i, i < 32 → ((-1431655766 : Int32) ^^^ 6).toBitVec.getLsbD i = decide (i = 2 ∨ (i % 2 = 1 ∧ ¬ i = 1)) := by decide +kernel
theorem bt_0 {f : Nat → Int32} (h : ∀ j, j < 3126 → f j = -1431655766) {n : Nat} (hn : n < 100003) : bt (upd f 0 (f 0 ^^^ 6)) n = true ↔ sv3 3 n := by
  unfold bt
  rw [xn_upd (α := Nat), h 0 (by omega), h (n / 32) (by omega)]
  have e : sv3 3 n ↔ (n = 2 ∨ (n % 2 = 1 ∧ ¬ n = 1)) := ⟨fun z => z.1, fun z => ⟨z, fun d h1 h2 => by omega⟩⟩
  rw [e]
  by_cases z : n / 32 = 0
  · rw [if_pos z, bt_g _ (Nat.mod_lt _ (by omega)), decide_eq_true_eq]
    omega
  · rw [if_neg z, bt_f _ (Nat.mod_lt _ (by omega)), decide_eq_true_eq]
    omega
set_option maxRecDepth 20000 in
theorem c_X3_init (g : vv_G) (hfl : vv_fl g = true) (pre : List va_E) (hP : pre.length = 1) : vv_KV g yX3_init cX3_init 2 none { frames := 3, cells := 2, slots := 3158, locals := 120 } [vv_r0 g 1] (pre ++ [.inr (3, [.null, .null])]) (fun h => ∃ W : Nat → Int32, (∀ n, n < 100003 → (bt W n = true ↔ np_pr n = true)) ∧ h = (pre ++ [.inr (3, [vv_r0 g 2, vv_r0 g 3]), .inl (vv_cI g, 3126, .inl W), .inl (vv_cI g, 32, .inl (fun _ => 0))])) := by
  refine vv_ofV mb_X3_init (Nat.le_of_ble_eq_true rfl) (fun x C F => ?_)
  refine vv_aload_n0 C dX3_init_0 rfl ?_
  refine vv_obj C dX3_init_1 lk_X3_3 ⟨Nat.le_of_ble_eq_true rfl, Nat.le_of_ble_eq_true rfl⟩ ?_
  refine vv_aload_n0 C dX3_init_4 rfl ?_
  refine vv_sipush C dX3_init_5 sp_3126 ?_
  refine pl_newI (N := 3126) (q := 2) (l2 := [.inr (3, [.null, .null]), .inl (vv_cI g, 3126, .inl (fun _ => 0))]) C hfl hP dX3_init_8 rfl (by omega) ⟨Nat.le_of_ble_eq_true rfl, Nat.le_of_ble_eq_true rfl⟩ rfl rfl ?_
  refine pl_putF (l2 := [.inr (3, [vv_r0 g 2, .null]), .inl (vv_cI g, 3126, .inl (fun _ => 0))]) C hP dX3_init_10 ff_X3_11 rfl rfl rfl rfl (Nat.le_of_ble_eq_true rfl) rfl ?_
  refine vv_aload_n0 C dX3_init_13 rfl ?_
  refine vv_bipush C dX3_init_14 bp_32 ?_
  refine pl_newI (N := 32) (q := 3) (l2 := [.inr (3, [vv_r0 g 2, .null]), .inl (vv_cI g, 3126, .inl (fun _ => 0)), .inl (vv_cI g, 32, .inl (fun _ => 0))]) C hfl hP dX3_init_16 rfl (by omega) ⟨Nat.le_of_ble_eq_true rfl, Nat.le_of_ble_eq_true rfl⟩ rfl rfl ?_
  refine pl_putF (l2 := [.inr (3, [vv_r0 g 2, vv_r0 g 3]), .inl (vv_cI g, 3126, .inl (fun _ => 0)), .inl (vv_cI g, 32, .inl (fun _ => 0))]) C hP dX3_init_18 ff_X3_15 rfl rfl rfl rfl (Nat.le_of_ble_eq_true rfl) rfl ?_
  have loop : ∀ (f i : Nat) (W : Nat → Int32), 320 ≤ i + f → i < 400 → i % 2 = 1 → 3 ≤ i → (∀ n, n < 100003 → (bt W n = true ↔ sv3 i n)) → vv_V g x 2 2 3158 43 [some (vv_r0 g 1), some (.int (nI i))] [] (pre ++ [.inr (3, [vv_r0 g 2, vv_r0 g 3]), .inl (vv_cI g, 3126, .inl W), .inl (vv_cI g, 32, .inl (fun _ => 0))]) := by
    intro f
    induction f with
    | zero =>
      intro i W hf h4 hi2 h3 hW
      have hmm : i * i < 160000 := by have := Nat.mul_le_mul (show i ≤ 399 by omega) (show i ≤ 399 by omega); omega
      refine vv_iload_n C dX3_init_43 rfl ?_
      refine vv_iload_n C dX3_init_44 rfl ?_
      refine vv_imul C dX3_init_45 ?_
      refine vs_eqi (v9 := nI (i * i)) (xn_mul i i) ?_
      refine vv_ldc C dX3_init_46 kc_X3_25 ?_
      refine vv_icmp_ge (tgt := 75) C dX3_init_48 (by decide) (fun q48 => ?_) (fun q48 => ?_)
      · have hge : 100003 ≤ i * i := by
          rw [xn_lit, xn_le (by omega) (by omega)] at q48
          exact q48
        exact vv_vret (st := []) C F dX3_init_75 rfl ⟨Nat.le_of_ble_eq_true rfl, Nat.le_of_ble_eq_true rfl⟩ ⟨W, fun n hn => (hW n hn).trans (sv3_end (by omega)), rfl⟩
      · have h9 : 320 ≤ i := hf
        have := Nat.mul_le_mul h9 h9
        exact absurd (show (100003 : Int32) ≤ nI (i * i) by rw [xn_lit, xn_le (by omega) (by omega)]; omega) q48
    | succ f ih =>
      intro i W hf h4 hi2 h3 hW
      have hmm : i * i < 160000 := by have := Nat.mul_le_mul (show i ≤ 399 by omega) (show i ≤ 399 by omega); omega
      have hii : i < 317 ∨ 100003 ≤ i * i := by
        by_cases z : i < 317
        · exact Or.inl z
        · have := Nat.mul_le_mul (Nat.not_lt.mp z) (Nat.not_lt.mp z)
          exact Or.inr (by omega)
      refine vv_iload_n C dX3_init_43 rfl ?_
      refine vv_iload_n C dX3_init_44 rfl ?_
      refine vv_imul C dX3_init_45 ?_
      refine vs_eqi (v9 := nI (i * i)) (xn_mul i i) ?_
      refine vv_ldc C dX3_init_46 kc_X3_25 ?_
      refine vv_icmp_ge (tgt := 75) C dX3_init_48 (by decide) (fun q48 => ?_) (fun q48 => ?_)
      · have hge : 100003 ≤ i * i := by
          rw [xn_lit, xn_le (by omega) (by omega)] at q48
          exact q48
        exact vv_vret (st := []) C F dX3_init_75 rfl ⟨Nat.le_of_ble_eq_true rfl, Nat.le_of_ble_eq_true rfl⟩ ⟨W, fun n hn => (hW n hn).trans (sv3_end (by omega)), rfl⟩
      · have hlt : i * i < 100003 := by
          rw [xn_lit, xn_le (by omega) (by omega)] at q48
          omega
        refine vv_aload_n0 C dX3_init_51 rfl ?_
        refine vv_iload_n C dX3_init_52 rfl ?_
        refine vv_calli C dX3_init_53 (c_X3_sievedW g pre hP W i (by omega)) mb_X3_sieved mv_X3_sieved lk_X3_26 ((pl_get (j := 0) hP).trans rfl) (q9 := (RX3, TX3, 2)) rfl rfl rfl rfl ⟨⟨Nat.le_of_ble_eq_true rfl, Nat.le_of_ble_eq_true rfl⟩, ⟨Nat.le_of_ble_eq_true rfl, Nat.le_of_ble_eq_true rfl⟩, Nat.le_of_ble_eq_true rfl⟩ (fun r h p => ?_)
        obtain ⟨er, eh⟩ := p
        subst er eh
        refine vv_if_eq (tgt := 69) C dX3_init_56 (by decide) (fun q56 => ?_) (fun q56 => ?_)
        · have hb := vs_b0.mp q56
          refine vw_iinc (lv9 := [_, _]) C dX3_init_69 rfl ic_2 (by decide) rfl rfl ?_
          refine vv_goto (tgt := 43) C dX3_init_72 (by decide) ?_
          rw [show nI i + 2 = nI (i + 2) from nI_add i 2]
          exact ih (i + 2) W (by omega) (by omega) (by omega) (by omega) (fun n hn => (hW n hn).trans (sv3_no hi2 h3 (fun z => by rw [(hW i (by omega)).mpr z] at hb; cases hb)))
        · have hb := vs_b1.mp q56
          refine vv_aload_n0 C dX3_init_59 rfl ?_
          refine vv_iload_n C dX3_init_60 rfl ?_
          refine vv_iload_n C dX3_init_61 rfl ?_
          refine vv_imul C dX3_init_62 ?_
          refine vs_eqi (v9 := nI (i * i)) (xn_mul i i) ?_
          refine vv_iconst C dX3_init_63 ic_2 ?_
          refine vv_iload_n C dX3_init_64 rfl ?_
          refine vv_imul C dX3_init_65 ?_
          refine vs_eqi (v9 := nI (2 * i)) (xn_mul 2 i) ?_
          refine vv_callv C dX3_init_66 (c_X3_strikeFrom g pre hP W (i * i) (2 * i) (by omega) (by omega) (by omega)) mb_X3_strikeFrom mv_X3_strikeFrom lk_X3_30 ((pl_get (j := 0) hP).trans rfl) (q9 := (RX3, TX3, 2)) rfl rfl rfl rfl ⟨⟨Nat.le_of_ble_eq_true rfl, Nat.le_of_ble_eq_true rfl⟩, ⟨Nat.le_of_ble_eq_true rfl, Nat.le_of_ble_eq_true rfl⟩, Nat.le_of_ble_eq_true rfl⟩ (fun h p => ?_)
          obtain ⟨W1, eh, hW1⟩ := p
          subst eh
          refine vw_iinc (lv9 := [_, _]) C dX3_init_69 rfl ic_2 (by decide) rfl rfl ?_
          refine vv_goto (tgt := 43) C dX3_init_72 (by decide) ?_
          rw [show nI i + 2 = nI (i + 2) from nI_add i 2]
          exact ih (i + 2) W1 (by omega) (by omega) (by omega) (by omega) (fun n hn => ((hW1 n hn).trans (and_congr_left (fun _ => hW n hn))).trans (sv3_yes hi2 h3))
  refine vv_aload_n0 C dX3_init_21 rfl ?_
  refine pl_getf C hP dX3_init_22 fg_X3_11 rfl rfl ?_
  refine vv_ldc C dX3_init_25 kc_X3_18 ?_
  refine vv_callsv C dX3_init_27 (c_fillI g _ 2 3126 (fun _ => 0) (-1431655766) (by omega) ((pl_get (j := 1) hP).trans rfl) (fun h1 => ∃ f1 : Nat → Int32, (∀ j, j < 3126 → f1 j = -1431655766) ∧ h1 = (pre ++ [.inr (3, [vv_r0 g 2, vv_r0 g 3]), .inl (vv_cI g, 3126, .inl f1), .inl (vv_cI g, 32, .inl (fun _ => 0))])) (fun f1 hf => ⟨f1, hf, (pl_set (j := 1) hP).trans rfl⟩)) mb_J7_fill_53178 ms_J7_fill_53178 lk_X3_19 rfl rfl ⟨⟨Nat.le_of_ble_eq_true rfl, Nat.le_of_ble_eq_true rfl⟩, ⟨Nat.le_of_ble_eq_true rfl, Nat.le_of_ble_eq_true rfl⟩, Nat.le_of_ble_eq_true rfl⟩ (fun h9 p9 => ?_)
  obtain ⟨f1, hf1, e9⟩ := p9
  subst e9
  refine vv_aload_n0 C dX3_init_30 rfl ?_
  refine pl_getf C hP dX3_init_31 fg_X3_11 rfl rfl ?_
  refine vv_iconst C dX3_init_34 ic_0 ?_
  refine vv_dup2 C dX3_init_35 rfl rfl ?_
  refine pl_iald (i0 := 1) C hP rfl dX3_init_36 rfl (xn_in (n := 0) (by omega) (by omega)) ?_
  refine vv_bipush C dX3_init_37 bp_6 ?_
  refine vv_ixor C dX3_init_39 ?_
  refine pl_iast (i0 := 1) (l2 := [.inr (3, [vv_r0 g 2, vv_r0 g 3]), .inl (vv_cI g, 3126, .inl (upd f1 0 (f1 0 ^^^ 6))), .inl (vv_cI g, 32, .inl (fun _ => 0))]) C hP rfl dX3_init_40 rfl (xn_in (n := 0) (by omega) (by omega)) rfl ?_
  refine vv_iconst C dX3_init_41 ic_3 ?_
  refine vw_istore_n (lv9 := [_, _]) C dX3_init_42 (by decide) rfl rfl ?_
  exact loop 317 3 _ (by omega) (by omega) rfl (by omega) (fun n hn => bt_0 hf1 hn)
