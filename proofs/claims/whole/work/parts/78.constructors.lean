/-! A CONSTRUCTOR: what was there (pre) stays; its own object comes first of the rest -/
theorem pl_get {pre l : List va_E} {b j : Nat} (hP : pre.length = b) : (pre ++ l)[b + j]? = l[j]? := by
  subst hP
  rw [List.getElem?_append_right (by omega), Nat.add_sub_cancel_left]
theorem pl_set {pre l : List va_E} {b j : Nat} {v : va_E} (hP : pre.length = b) : (pre ++ l).set (b + j) v = pre ++ l.set j v := by
  subst hP
  rw [List.set_append_right _ _ (by omega), Nat.add_sub_cancel_left]
theorem pl_len {pre l : List va_E} {b : Nat} (hP : pre.length = b) : (pre ++ l).length = b + l.length := by
  rw [List.length_append, hP]
theorem pl_newI {g : vv_G} {x : vv_X} {own nm : String} {cc : ByteArray} {nL k n pc : Nat} {ret : Option FieldType} {R0 : Room} {lv : List (Option Value)} {st : List Value} {pre l l2 : List va_E} {b q : Nat} {v : Int32} {N : Nat} (C : vv_C g own nm cc nL ret R0 x) (hfl : vv_fl g = true) (hP : pre.length = b) (d : decode cc pc = .ok (.newarray .int, 2)) (hv : v = nI N) (hN : N < 2 ^ 20) (hk : k + 1 ≤ R0.cells ∧ n + N ≤ R0.slots) (hq : b + l.length = q) (hl : l ++ [.inl (vv_cI g, N, .inl (fun _ => 0))] = l2) (kk : vv_V g x nL (k + 1) (n + N) (pc + 2) lv (vv_r0 g q :: st) (pre ++ l2)) : vv_V g x nL k n pc lv (.int v :: st) (pre ++ l) := by
  refine vv_newI C hfl d hv hN hk ?_
  rw [pl_len hP, hq, List.append_assoc, hl]
  exact kk
theorem pl_newJ {g : vv_G} {x : vv_X} {own nm : String} {cc : ByteArray} {nL k n pc : Nat} {ret : Option FieldType} {R0 : Room} {lv : List (Option Value)} {st : List Value} {pre l l2 : List va_E} {b q : Nat} {v : Int32} {N : Nat} (C : vv_C g own nm cc nL ret R0 x) (hfl : vv_fl g = true) (hP : pre.length = b) (d : decode cc pc = .ok (.newarray .long, 2)) (hv : v = nI N) (hN : N < 2 ^ 20) (hk : k + 1 ≤ R0.cells ∧ n + N ≤ R0.slots) (hq : b + l.length = q) (hl : l ++ [.inl (vv_cJ g, N, .inr (.inl (fun _ => 0)))] = l2) (kk : vv_V g x nL (k + 1) (n + N) (pc + 2) lv (vv_r0 g q :: st) (pre ++ l2)) : vv_V g x nL k n pc lv (.int v :: st) (pre ++ l) := by
  refine vv_newJ C hfl d hv hN hk ?_
  rw [pl_len hP, hq, List.append_assoc, hl]
  exact kk
theorem pl_newZ {g : vv_G} {x : vv_X} {own nm : String} {cc : ByteArray} {nL k n pc : Nat} {ret : Option FieldType} {R0 : Room} {lv : List (Option Value)} {st : List Value} {pre l l2 : List va_E} {b q : Nat} {v : Int32} {N : Nat} (C : vv_C g own nm cc nL ret R0 x) (hfl : vv_fl g = true) (hP : pre.length = b) (d : decode cc pc = .ok (.newarray .boolean, 2)) (hv : v = nI N) (hN : N < 2 ^ 20) (hk : k + 1 ≤ R0.cells ∧ n + N ≤ R0.slots) (hq : b + l.length = q) (hl : l ++ [.inl (vv_cZ g, N, .inl (fun _ => 0))] = l2) (kk : vv_V g x nL (k + 1) (n + N) (pc + 2) lv (vv_r0 g q :: st) (pre ++ l2)) : vv_V g x nL k n pc lv (.int v :: st) (pre ++ l) := by
  refine vv_newZ C hfl d hv hN hk ?_
  rw [pl_len hP, hq, List.append_assoc, hl]
  exact kk
theorem pl_mnewI {g : vv_G} {x : vv_X} {own nm : String} {cc : ByteArray} {nL k n pc : Nat} {ret : Option FieldType} {R0 : Room} {lv : List (Option Value)} {st : List Value} {pre l l2 : List va_E} {b q idx : Nat} {v w : Int32} {N M : Nat} (C : vv_C g own nm cc nL ret R0 x) (hfl : vv_fl g = true) (hP : pre.length = b) (d : decode cc pc = .ok (.multianewarray idx 2, 4)) (hcl : Cond.classLink own idx "[[I" ∈ vv_Ws) (hv : v = nI N) (hw : w = nI M) (hN : N < 2 ^ 20) (hM : M < 2 ^ 20) (hk : k + (1 + N) ≤ R0.cells ∧ n + (N + N * M) ≤ R0.slots) (hq : b + l.length = q) (hl : l ++ (.inl (vv_cII g, N, .inr (.inr (.inr (.inr (fun j => if j < N then some (vv_b g + (q + 1 + j)) else none))))) :: List.replicate N (.inl (vv_cI g, M, .inl (fun _ => 0)))) = l2) (kk : vv_V g x nL (k + 1 + N) (n + N + N * M) (pc + 4) lv (vv_r0 g q :: st) (pre ++ l2)) : vv_V g x nL k n pc lv (.int w :: .int v :: st) (pre ++ l) := by
  refine vv_mnew (t0 := 0) (t1 := 3) (cT := vv_cI g) (cO := vv_cII g) (ty := .int) (r0 := (M, .inl (fun _ => 0))) C hfl d hcl (by decide) ac_I rfl rfl (fun _ z => z) rfl hv hw hN hM (by show M * 4 ≤ _; omega) rfl rfl hk ?_
  rw [pl_len hP, hq, List.append_assoc, hl]
  exact kk
theorem pl_mnewJ {g : vv_G} {x : vv_X} {own nm : String} {cc : ByteArray} {nL k n pc : Nat} {ret : Option FieldType} {R0 : Room} {lv : List (Option Value)} {st : List Value} {pre l l2 : List va_E} {b q idx : Nat} {v w : Int32} {N M : Nat} (C : vv_C g own nm cc nL ret R0 x) (hfl : vv_fl g = true) (hP : pre.length = b) (d : decode cc pc = .ok (.multianewarray idx 2, 4)) (hcl : Cond.classLink own idx "[[J" ∈ vv_Ws) (hv : v = nI N) (hw : w = nI M) (hN : N < 2 ^ 20) (hM : M < 2 ^ 20) (hk : k + (1 + N) ≤ R0.cells ∧ n + (N + N * M) ≤ R0.slots) (hq : b + l.length = q) (hl : l ++ (.inl (vv_cJJ g, N, .inr (.inr (.inr (.inr (fun j => if j < N then some (vv_b g + (q + 1 + j)) else none))))) :: List.replicate N (.inl (vv_cJ g, M, .inr (.inl (fun _ => 0))))) = l2) (kk : vv_V g x nL (k + 1 + N) (n + N + N * M) (pc + 4) lv (vv_r0 g q :: st) (pre ++ l2)) : vv_V g x nL k n pc lv (.int w :: .int v :: st) (pre ++ l) := by
  refine vv_mnew (t0 := 1) (t1 := 4) (cT := vv_cJ g) (cO := vv_cJJ g) (ty := .long) (r0 := (M, .inr (.inl (fun _ => 0)))) C hfl d hcl (by decide) ac_J rfl rfl (fun _ z => z) rfl hv hw hN hM (by show M * 8 ≤ _; omega) rfl rfl hk ?_
  rw [pl_len hP, hq, List.append_assoc, hl]
  exact kk
theorem pl_putF {g : vv_G} {x : vv_X} {own nm : String} {cc : ByteArray} {nL k n pc : Nat} {ret : Option FieldType} {R0 : Room} {lv : List (Option Value)} {st : List Value} {pre l l2 : List va_E} {b idx ci kf : Nat} {fs : List Value} {ty : FieldType} {v : Value} (C : vv_C g own nm cc nL ret R0 x) (hP : pre.length = b) (d : decode cc pc = .ok (.putfield idx, 3)) (f : vv_Ff own idx ci kf ty) (hnm : nm = "<init>") (he : l[0]? = some (.inr (ci, fs))) (hn : narrow ty v = v) (hf : fits ty v = true) (hl9 : kf < fs.length) (hl : l.set 0 (.inr (ci, fs.set kf v)) = l2) (kk : vv_V g x nL k n (pc + 3) lv (st) (pre ++ l2)) : vv_V g x nL k n (pc) lv (v :: vv_r0 g b :: st) (pre ++ l) := by
  refine vv_putF C d f hnm ((pl_get (j := 0) hP).trans he) hn hf hl9 ?_
  rw [show (pre ++ l).set b (.inr (ci, fs.set kf v)) = pre ++ l2 from (pl_set (j := 0) hP).trans (by rw [hl])]
  exact kk
theorem pl_put {g : vv_G} {x : vv_X} {own nm : String} {cc : ByteArray} {nL k n pc : Nat} {ret : Option FieldType} {R0 : Room} {lv : List (Option Value)} {st : List Value} {pre l l2 : List va_E} {b idx ci kf : Nat} {fs : List Value} {ty : FieldType} {v : Value} (C : vv_C g own nm cc nL ret R0 x) (hP : pre.length = b) (d : decode cc pc = .ok (.putfield idx, 3)) (f : vv_Fp own idx ci kf ty) (he : l[0]? = some (.inr (ci, fs))) (hn : narrow ty v = v) (hf : fits ty v = true) (hl9 : kf < fs.length) (hl : l.set 0 (.inr (ci, fs.set kf v)) = l2) (kk : vv_V g x nL k n (pc + 3) lv (st) (pre ++ l2)) : vv_V g x nL k n (pc) lv (v :: vv_r0 g b :: st) (pre ++ l) := by
  refine vv_put C d f ((pl_get (j := 0) hP).trans he) hn hf hl9 ?_
  rw [show (pre ++ l).set b (.inr (ci, fs.set kf v)) = pre ++ l2 from (pl_set (j := 0) hP).trans (by rw [hl])]
  exact kk
theorem pl_getf {g : vv_G} {x : vv_X} {own nm : String} {cc : ByteArray} {nL k n pc : Nat} {ret : Option FieldType} {R0 : Room} {lv : List (Option Value)} {st : List Value} {pre l : List va_E} {b idx ci kf : Nat} {fs : List Value} {v : Value} (C : vv_C g own nm cc nL ret R0 x) (hP : pre.length = b) (d : decode cc pc = .ok (.getfield idx, 3)) (f : vv_Fg own idx ci kf) (he : l[0]? = some (.inr (ci, fs))) (hv : fs[kf]? = some v) (kk : vv_V g x nL k n (pc + 3) lv (v :: st) (pre ++ l)) : vv_V g x nL k n (pc) lv (vv_r0 g b :: st) (pre ++ l) := vv_get C d f ((pl_get (j := 0) hP).trans he) hv kk
theorem pl_iast {g : vv_G} {x : vv_X} {own nm : String} {cc : ByteArray} {nL k n pc : Nat} {ret : Option FieldType} {R0 : Room} {lv : List (Option Value)} {st : List Value} {pre l l2 : List va_E} {b i i0 na : Nat} {f : Nat → Int32} {j v : Int32} (C : vv_C g own nm cc nL ret R0 x) (hP : pre.length = b) (hi : i = b + i0) (d : decode cc pc = .ok (.iastore, 1)) (he : l[i0]? = some (.inl (vv_cI g, na, .inl f))) (hin : vp_in j na) (hl : l.set i0 (.inl (vv_cI g, na, .inl (upd f j.toNatClampNeg v))) = l2) (kk : vv_V g x nL k n (pc + 1) lv (st) (pre ++ l2)) : vv_V g x nL k n (pc) lv (.int v :: .int j :: vv_r0 g i :: st) (pre ++ l) := by
  subst hi
  refine vv_iast C d ((pl_get hP).trans he) hin ?_
  rw [pl_set hP, hl]
  exact kk

set_option maxRecDepth 20000 in
theorem c_X1_init (g : vv_G) (hfl : vv_fl g = true) (pre : List va_E) (hP : pre.length = 4) : vv_KV g yX1_init cX1_init 2 none { frames := 1, cells := 0, slots := 0, locals := 40 } [vv_r0 g 4, vv_r0 g 1] (pre ++ [.inr (1, [.null, .int 0])]) (fun h1 => h1 = pre ++ [.inr (1, [vv_r0 g 1, .int 0])]) := by
  refine vv_ofV mb_X1_init (Nat.le_of_ble_eq_true rfl) (fun x C F => ?_)
  refine vv_aload_n0 C dX1_init_0 rfl ?_
  refine vv_obj C dX1_init_1 lk_X1_3 ⟨Nat.le_of_ble_eq_true rfl, Nat.le_of_ble_eq_true rfl⟩ ?_
  refine vv_aload_n0 C dX1_init_4 rfl ?_
  refine vv_aload_n0 C dX1_init_5 rfl ?_
  refine pl_putF (l2 := [.inr (1, [vv_r0 g 1, .int 0])]) C hP dX1_init_6 ff_X1_9 rfl rfl rfl rfl (Nat.le_of_ble_eq_true rfl) rfl ?_
  exact vv_vret (st := []) C F dX1_init_9 rfl ⟨Nat.le_of_ble_eq_true rfl, Nat.le_of_ble_eq_true rfl⟩ rfl
set_option maxRecDepth 20000 in
theorem c_X10_init (g : vv_G) (hfl : vv_fl g = true) (pre : List va_E) (hP : pre.length = 5) : vv_KV g yX10_init cX10_init 2 none { frames := 1, cells := 9, slots := 6414, locals := 40 } [vv_r0 g 5, vv_r0 g 4] (pre ++ [.inr (10, [.null, .null, .int 0, .null, .null, .int 0, .int 0])]) (fun h1 => h1 = pre ++ [.inr (10, [vv_r0 g 4, vv_r0 g 6, .int 0, vv_r0 g 7, vv_r0 g 8, .int (-2), .int (-2)]), .inl (vv_cI g, 2001, .inl (fun _ => 0)), .inl (vv_cI g, 2001, .inl (fun _ => 0)), .inl (vv_cII g, 6, .inr (.inr (.inr (.inr (fun j => if j < 6 then some (vv_b g + (9 + j)) else none))))), .inl (vv_cI g, 401, .inl (fun _ => 0)), .inl (vv_cI g, 401, .inl (fun _ => 0)), .inl (vv_cI g, 401, .inl (fun _ => 0)), .inl (vv_cI g, 401, .inl (fun _ => 0)), .inl (vv_cI g, 401, .inl (fun _ => 0)), .inl (vv_cI g, 401, .inl (fun _ => 0))]) := by
  refine vv_ofV mb_X10_init (Nat.le_of_ble_eq_true rfl) (fun x C F => ?_)
  refine vv_aload_n0 C dX10_init_0 rfl ?_
  refine vv_obj C dX10_init_1 lk_X10_3 ⟨Nat.le_of_ble_eq_true rfl, Nat.le_of_ble_eq_true rfl⟩ ?_
  refine vv_aload_n0 C dX10_init_4 rfl ?_
  refine vv_sipush C dX10_init_5 sp_2001 ?_
  refine pl_newI (N := 2001) (q := 6) (l2 := [.inr (10, [.null, .null, .int 0, .null, .null, .int 0, .int 0]), .inl (vv_cI g, 2001, .inl (fun _ => 0))]) C hfl hP dX10_init_8 rfl (by omega) ⟨Nat.le_of_ble_eq_true rfl, Nat.le_of_ble_eq_true rfl⟩ rfl rfl ?_
  refine pl_putF (l2 := [.inr (10, [.null, vv_r0 g 6, .int 0, .null, .null, .int 0, .int 0]), .inl (vv_cI g, 2001, .inl (fun _ => 0))]) C hP dX10_init_10 ff_X10_11 rfl rfl rfl rfl (Nat.le_of_ble_eq_true rfl) rfl ?_
  refine vv_aload_n0 C dX10_init_13 rfl ?_
  refine vv_sipush C dX10_init_14 sp_2001 ?_
  refine pl_newI (N := 2001) (q := 7) (l2 := [.inr (10, [.null, vv_r0 g 6, .int 0, .null, .null, .int 0, .int 0]), .inl (vv_cI g, 2001, .inl (fun _ => 0)), .inl (vv_cI g, 2001, .inl (fun _ => 0))]) C hfl hP dX10_init_17 rfl (by omega) ⟨Nat.le_of_ble_eq_true rfl, Nat.le_of_ble_eq_true rfl⟩ rfl rfl ?_
  refine pl_putF (l2 := [.inr (10, [.null, vv_r0 g 6, .int 0, vv_r0 g 7, .null, .int 0, .int 0]), .inl (vv_cI g, 2001, .inl (fun _ => 0)), .inl (vv_cI g, 2001, .inl (fun _ => 0))]) C hP dX10_init_19 ff_X10_15 rfl rfl rfl rfl (Nat.le_of_ble_eq_true rfl) rfl ?_
  refine vv_aload_n0 C dX10_init_22 rfl ?_
  refine vv_bipush C dX10_init_23 bp_6 ?_
  refine vv_sipush C dX10_init_25 sp_401 ?_
  refine pl_mnewI (N := 6) (M := 401) (q := 8) (l2 := [.inr (10, [.null, vv_r0 g 6, .int 0, vv_r0 g 7, .null, .int 0, .int 0]), .inl (vv_cI g, 2001, .inl (fun _ => 0)), .inl (vv_cI g, 2001, .inl (fun _ => 0)), .inl (vv_cII g, 6, .inr (.inr (.inr (.inr (fun j => if j < 6 then some (vv_b g + (9 + j)) else none))))), .inl (vv_cI g, 401, .inl (fun _ => 0)), .inl (vv_cI g, 401, .inl (fun _ => 0)), .inl (vv_cI g, 401, .inl (fun _ => 0)), .inl (vv_cI g, 401, .inl (fun _ => 0)), .inl (vv_cI g, 401, .inl (fun _ => 0)), .inl (vv_cI g, 401, .inl (fun _ => 0))]) C hfl hP dX10_init_28 cl_X10_18 rfl rfl (by omega) (by omega) ⟨Nat.le_of_ble_eq_true rfl, Nat.le_of_ble_eq_true rfl⟩ rfl rfl ?_
  refine pl_putF (l2 := [.inr (10, [.null, vv_r0 g 6, .int 0, vv_r0 g 7, vv_r0 g 8, .int 0, .int 0]), .inl (vv_cI g, 2001, .inl (fun _ => 0)), .inl (vv_cI g, 2001, .inl (fun _ => 0)), .inl (vv_cII g, 6, .inr (.inr (.inr (.inr (fun j => if j < 6 then some (vv_b g + (9 + j)) else none))))), .inl (vv_cI g, 401, .inl (fun _ => 0)), .inl (vv_cI g, 401, .inl (fun _ => 0)), .inl (vv_cI g, 401, .inl (fun _ => 0)), .inl (vv_cI g, 401, .inl (fun _ => 0)), .inl (vv_cI g, 401, .inl (fun _ => 0)), .inl (vv_cI g, 401, .inl (fun _ => 0))]) C hP dX10_init_32 ff_X10_20 rfl rfl rfl rfl (Nat.le_of_ble_eq_true rfl) rfl ?_
  refine vv_aload_n0 C dX10_init_35 rfl ?_
  refine vv_bipush C dX10_init_36 bp_m2 ?_
  refine pl_put (l2 := [.inr (10, [.null, vv_r0 g 6, .int 0, vv_r0 g 7, vv_r0 g 8, .int (-2), .int 0]), .inl (vv_cI g, 2001, .inl (fun _ => 0)), .inl (vv_cI g, 2001, .inl (fun _ => 0)), .inl (vv_cII g, 6, .inr (.inr (.inr (.inr (fun j => if j < 6 then some (vv_b g + (9 + j)) else none))))), .inl (vv_cI g, 401, .inl (fun _ => 0)), .inl (vv_cI g, 401, .inl (fun _ => 0)), .inl (vv_cI g, 401, .inl (fun _ => 0)), .inl (vv_cI g, 401, .inl (fun _ => 0)), .inl (vv_cI g, 401, .inl (fun _ => 0)), .inl (vv_cI g, 401, .inl (fun _ => 0))]) C hP dX10_init_38 fp_X10_23 rfl rfl rfl (Nat.le_of_ble_eq_true rfl) rfl ?_
  refine vv_aload_n0 C dX10_init_41 rfl ?_
  refine vv_bipush C dX10_init_42 bp_m2 ?_
  refine pl_put (l2 := [.inr (10, [.null, vv_r0 g 6, .int 0, vv_r0 g 7, vv_r0 g 8, .int (-2), .int (-2)]), .inl (vv_cI g, 2001, .inl (fun _ => 0)), .inl (vv_cI g, 2001, .inl (fun _ => 0)), .inl (vv_cII g, 6, .inr (.inr (.inr (.inr (fun j => if j < 6 then some (vv_b g + (9 + j)) else none))))), .inl (vv_cI g, 401, .inl (fun _ => 0)), .inl (vv_cI g, 401, .inl (fun _ => 0)), .inl (vv_cI g, 401, .inl (fun _ => 0)), .inl (vv_cI g, 401, .inl (fun _ => 0)), .inl (vv_cI g, 401, .inl (fun _ => 0)), .inl (vv_cI g, 401, .inl (fun _ => 0))]) C hP dX10_init_44 fp_X10_27 rfl rfl rfl (Nat.le_of_ble_eq_true rfl) rfl ?_
  refine vv_aload_n0 C dX10_init_47 rfl ?_
  refine vv_aload_n0 C dX10_init_48 rfl ?_
  refine pl_putF (l2 := [.inr (10, [vv_r0 g 4, vv_r0 g 6, .int 0, vv_r0 g 7, vv_r0 g 8, .int (-2), .int (-2)]), .inl (vv_cI g, 2001, .inl (fun _ => 0)), .inl (vv_cI g, 2001, .inl (fun _ => 0)), .inl (vv_cII g, 6, .inr (.inr (.inr (.inr (fun j => if j < 6 then some (vv_b g + (9 + j)) else none))))), .inl (vv_cI g, 401, .inl (fun _ => 0)), .inl (vv_cI g, 401, .inl (fun _ => 0)), .inl (vv_cI g, 401, .inl (fun _ => 0)), .inl (vv_cI g, 401, .inl (fun _ => 0)), .inl (vv_cI g, 401, .inl (fun _ => 0)), .inl (vv_cI g, 401, .inl (fun _ => 0))]) C hP dX10_init_49 ff_X10_30 rfl rfl rfl rfl (Nat.le_of_ble_eq_true rfl) rfl ?_
  exact vv_vret (st := []) C F dX10_init_52 rfl ⟨Nat.le_of_ble_eq_true rfl, Nat.le_of_ble_eq_true rfl⟩ rfl
set_option maxRecDepth 20000 in
theorem c_X9_init (g : vv_G) (hfl : vv_fl g = true) (pre : List va_E) (hP : pre.length = 15) : vv_KV g yX9_init cX9_init 2 none { frames := 1, cells := 2, slots := 8, locals := 40 } [vv_r0 g 15, vv_r0 g 4] (pre ++ [.inr (9, [.null, .null, .null, .int 0, .int 0])]) (fun h1 => h1 = pre ++ [.inr (9, [vv_r0 g 4, vv_r0 g 16, vv_r0 g 17, .int 0, .int 0]), .inl (vv_cI g, 4, .inl (fun _ => 0)), .inl (vv_cI g, 4, .inl (fun _ => 0))]) := by
  refine vv_ofV mb_X9_init (Nat.le_of_ble_eq_true rfl) (fun x C F => ?_)
  refine vv_aload_n0 C dX9_init_0 rfl ?_
  refine vv_obj C dX9_init_1 lk_X9_3 ⟨Nat.le_of_ble_eq_true rfl, Nat.le_of_ble_eq_true rfl⟩ ?_
  refine vv_aload_n0 C dX9_init_4 rfl ?_
  refine vv_iconst C dX9_init_5 ic_4 ?_
  refine pl_newI (N := 4) (q := 16) (l2 := [.inr (9, [.null, .null, .null, .int 0, .int 0]), .inl (vv_cI g, 4, .inl (fun _ => 0))]) C hfl hP dX9_init_6 rfl (by omega) ⟨Nat.le_of_ble_eq_true rfl, Nat.le_of_ble_eq_true rfl⟩ rfl rfl ?_
  refine pl_putF (l2 := [.inr (9, [.null, vv_r0 g 16, .null, .int 0, .int 0]), .inl (vv_cI g, 4, .inl (fun _ => 0))]) C hP dX9_init_8 ff_X9_11 rfl rfl rfl rfl (Nat.le_of_ble_eq_true rfl) rfl ?_
  refine vv_aload_n0 C dX9_init_11 rfl ?_
  refine vv_iconst C dX9_init_12 ic_4 ?_
  refine pl_newI (N := 4) (q := 17) (l2 := [.inr (9, [.null, vv_r0 g 16, .null, .int 0, .int 0]), .inl (vv_cI g, 4, .inl (fun _ => 0)), .inl (vv_cI g, 4, .inl (fun _ => 0))]) C hfl hP dX9_init_13 rfl (by omega) ⟨Nat.le_of_ble_eq_true rfl, Nat.le_of_ble_eq_true rfl⟩ rfl rfl ?_
  refine pl_putF (l2 := [.inr (9, [.null, vv_r0 g 16, vv_r0 g 17, .int 0, .int 0]), .inl (vv_cI g, 4, .inl (fun _ => 0)), .inl (vv_cI g, 4, .inl (fun _ => 0))]) C hP dX9_init_15 ff_X9_15 rfl rfl rfl rfl (Nat.le_of_ble_eq_true rfl) rfl ?_
  refine vv_aload_n0 C dX9_init_18 rfl ?_
  refine vv_aload_n0 C dX9_init_19 rfl ?_
  refine pl_putF (l2 := [.inr (9, [vv_r0 g 4, vv_r0 g 16, vv_r0 g 17, .int 0, .int 0]), .inl (vv_cI g, 4, .inl (fun _ => 0)), .inl (vv_cI g, 4, .inl (fun _ => 0))]) C hP dX9_init_20 ff_X9_18 rfl rfl rfl rfl (Nat.le_of_ble_eq_true rfl) rfl ?_
  exact vv_vret (st := []) C F dX9_init_23 rfl ⟨Nat.le_of_ble_eq_true rfl, Nat.le_of_ble_eq_true rfl⟩ rfl
set_option maxRecDepth 20000 in
theorem c_X2_init (g : vv_G) (hfl : vv_fl g = true) (pre : List va_E) (hP : pre.length = 18) : vv_KV g yX2_init cX2_init 1 none { frames := 1, cells := 4, slots := 216, locals := 40 } [vv_r0 g 18] (pre ++ [.inr (2, [.null, .null, .null, .null, .int 0, .int 0, .int 0])]) (fun h1 => h1 = pre ++ [.inr (2, [vv_r0 g 19, vv_r0 g 20, vv_r0 g 21, vv_r0 g 22, .int 0, .int 0, .int 0]), .inl (vv_cI g, 96, .inl (fun _ => 0)), .inl (vv_cI g, 40, .inl (fun _ => 0)), .inl (vv_cI g, 40, .inl (fun _ => 0)), .inl (vv_cI g, 40, .inl (fun _ => 0))]) := by
  refine vv_ofV mb_X2_init (Nat.le_of_ble_eq_true rfl) (fun x C F => ?_)
  refine vv_aload_n0 C dX2_init_0 rfl ?_
  refine vv_obj C dX2_init_1 lk_X2_3 ⟨Nat.le_of_ble_eq_true rfl, Nat.le_of_ble_eq_true rfl⟩ ?_
  refine vv_aload_n0 C dX2_init_4 rfl ?_
  refine vv_bipush C dX2_init_5 bp_96 ?_
  refine pl_newI (N := 96) (q := 19) (l2 := [.inr (2, [.null, .null, .null, .null, .int 0, .int 0, .int 0]), .inl (vv_cI g, 96, .inl (fun _ => 0))]) C hfl hP dX2_init_7 rfl (by omega) ⟨Nat.le_of_ble_eq_true rfl, Nat.le_of_ble_eq_true rfl⟩ rfl rfl ?_
  refine pl_putF (l2 := [.inr (2, [vv_r0 g 19, .null, .null, .null, .int 0, .int 0, .int 0]), .inl (vv_cI g, 96, .inl (fun _ => 0))]) C hP dX2_init_9 ff_X2_11 rfl rfl rfl rfl (Nat.le_of_ble_eq_true rfl) rfl ?_
  refine vv_aload_n0 C dX2_init_12 rfl ?_
  refine vv_bipush C dX2_init_13 bp_40 ?_
  refine pl_newI (N := 40) (q := 20) (l2 := [.inr (2, [vv_r0 g 19, .null, .null, .null, .int 0, .int 0, .int 0]), .inl (vv_cI g, 96, .inl (fun _ => 0)), .inl (vv_cI g, 40, .inl (fun _ => 0))]) C hfl hP dX2_init_15 rfl (by omega) ⟨Nat.le_of_ble_eq_true rfl, Nat.le_of_ble_eq_true rfl⟩ rfl rfl ?_
  refine pl_putF (l2 := [.inr (2, [vv_r0 g 19, vv_r0 g 20, .null, .null, .int 0, .int 0, .int 0]), .inl (vv_cI g, 96, .inl (fun _ => 0)), .inl (vv_cI g, 40, .inl (fun _ => 0))]) C hP dX2_init_17 ff_X2_15 rfl rfl rfl rfl (Nat.le_of_ble_eq_true rfl) rfl ?_
  refine vv_aload_n0 C dX2_init_20 rfl ?_
  refine vv_bipush C dX2_init_21 bp_40 ?_
  refine pl_newI (N := 40) (q := 21) (l2 := [.inr (2, [vv_r0 g 19, vv_r0 g 20, .null, .null, .int 0, .int 0, .int 0]), .inl (vv_cI g, 96, .inl (fun _ => 0)), .inl (vv_cI g, 40, .inl (fun _ => 0)), .inl (vv_cI g, 40, .inl (fun _ => 0))]) C hfl hP dX2_init_23 rfl (by omega) ⟨Nat.le_of_ble_eq_true rfl, Nat.le_of_ble_eq_true rfl⟩ rfl rfl ?_
  refine pl_putF (l2 := [.inr (2, [vv_r0 g 19, vv_r0 g 20, vv_r0 g 21, .null, .int 0, .int 0, .int 0]), .inl (vv_cI g, 96, .inl (fun _ => 0)), .inl (vv_cI g, 40, .inl (fun _ => 0)), .inl (vv_cI g, 40, .inl (fun _ => 0))]) C hP dX2_init_25 ff_X2_18 rfl rfl rfl rfl (Nat.le_of_ble_eq_true rfl) rfl ?_
  refine vv_aload_n0 C dX2_init_28 rfl ?_
  refine vv_bipush C dX2_init_29 bp_40 ?_
  refine pl_newI (N := 40) (q := 22) (l2 := [.inr (2, [vv_r0 g 19, vv_r0 g 20, vv_r0 g 21, .null, .int 0, .int 0, .int 0]), .inl (vv_cI g, 96, .inl (fun _ => 0)), .inl (vv_cI g, 40, .inl (fun _ => 0)), .inl (vv_cI g, 40, .inl (fun _ => 0)), .inl (vv_cI g, 40, .inl (fun _ => 0))]) C hfl hP dX2_init_31 rfl (by omega) ⟨Nat.le_of_ble_eq_true rfl, Nat.le_of_ble_eq_true rfl⟩ rfl rfl ?_
  refine pl_putF (l2 := [.inr (2, [vv_r0 g 19, vv_r0 g 20, vv_r0 g 21, vv_r0 g 22, .int 0, .int 0, .int 0]), .inl (vv_cI g, 96, .inl (fun _ => 0)), .inl (vv_cI g, 40, .inl (fun _ => 0)), .inl (vv_cI g, 40, .inl (fun _ => 0)), .inl (vv_cI g, 40, .inl (fun _ => 0))]) C hP dX2_init_33 ff_X2_21 rfl rfl rfl rfl (Nat.le_of_ble_eq_true rfl) rfl ?_
  exact vv_vret (st := []) C F dX2_init_36 rfl ⟨Nat.le_of_ble_eq_true rfl, Nat.le_of_ble_eq_true rfl⟩ rfl
set_option maxRecDepth 20000 in
theorem c_X5_init (g : vv_G) (hfl : vv_fl g = true) (pre : List va_E) (hP : pre.length = 23) : vv_KV g yX5_init cX5_init 3 none { frames := 1, cells := 1, slots := 2001, locals := 40 } [vv_r0 g 23, vv_r0 g 4, vv_r0 g 18] (pre ++ [.inr (5, [.null, .null, .null, .int 0])]) (fun h1 => h1 = pre ++ [.inr (5, [vv_r0 g 4, vv_r0 g 18, vv_r0 g 24, .int 0]), .inl (vv_cJ g, 2001, .inr (.inl (fun _ => 0)))]) := by
  refine vv_ofV mb_X5_init (Nat.le_of_ble_eq_true rfl) (fun x C F => ?_)
  refine vv_aload_n0 C dX5_init_0 rfl ?_
  refine vv_obj C dX5_init_1 lk_X5_5 ⟨Nat.le_of_ble_eq_true rfl, Nat.le_of_ble_eq_true rfl⟩ ?_
  refine vv_aload_n0 C dX5_init_4 rfl ?_
  refine vv_sipush C dX5_init_5 sp_2001 ?_
  refine pl_newJ (N := 2001) (q := 24) (l2 := [.inr (5, [.null, .null, .null, .int 0]), .inl (vv_cJ g, 2001, .inr (.inl (fun _ => 0)))]) C hfl hP dX5_init_8 rfl (by omega) ⟨Nat.le_of_ble_eq_true rfl, Nat.le_of_ble_eq_true rfl⟩ rfl rfl ?_
  refine pl_putF (l2 := [.inr (5, [.null, .null, vv_r0 g 24, .int 0]), .inl (vv_cJ g, 2001, .inr (.inl (fun _ => 0)))]) C hP dX5_init_10 ff_X5_13 rfl rfl rfl rfl (Nat.le_of_ble_eq_true rfl) rfl ?_
  refine vv_aload_n0 C dX5_init_13 rfl ?_
  refine vv_aload_n0 C dX5_init_14 rfl ?_
  refine pl_putF (l2 := [.inr (5, [vv_r0 g 4, .null, vv_r0 g 24, .int 0]), .inl (vv_cJ g, 2001, .inr (.inl (fun _ => 0)))]) C hP dX5_init_15 ff_X5_17 rfl rfl rfl rfl (Nat.le_of_ble_eq_true rfl) rfl ?_
  refine vv_aload_n0 C dX5_init_18 rfl ?_
  refine vv_aload_n0 C dX5_init_19 rfl ?_
  refine pl_putF (l2 := [.inr (5, [vv_r0 g 4, vv_r0 g 18, vv_r0 g 24, .int 0]), .inl (vv_cJ g, 2001, .inr (.inl (fun _ => 0)))]) C hP dX5_init_20 ff_X5_21 rfl rfl rfl rfl (Nat.le_of_ble_eq_true rfl) rfl ?_
  exact vv_vret (st := []) C F dX5_init_23 rfl ⟨Nat.le_of_ble_eq_true rfl, Nat.le_of_ble_eq_true rfl⟩ rfl
set_option maxRecDepth 20000 in
theorem c_X0_init (g : vv_G) (hfl : vv_fl g = true) (pre : List va_E) (hP : pre.length = 25) : vv_KV g yX0_init cX0_init 3 none { frames := 1, cells := 1, slots := 8, locals := 40 } [vv_r0 g 25, vv_r0 g 4, vv_r0 g 18] (pre ++ [.inr (0, [.null, .null, .null])]) (fun h1 => h1 = pre ++ [.inr (0, [vv_r0 g 4, vv_r0 g 18, vv_r0 g 26]), .inl (vv_cI g, 8, .inl (fun _ => 0))]) := by
  refine vv_ofV mb_X0_init (Nat.le_of_ble_eq_true rfl) (fun x C F => ?_)
  refine vv_aload_n0 C dX0_init_0 rfl ?_
  refine vv_obj C dX0_init_1 lk_X0_3 ⟨Nat.le_of_ble_eq_true rfl, Nat.le_of_ble_eq_true rfl⟩ ?_
  refine vv_aload_n0 C dX0_init_4 rfl ?_
  refine vv_bipush C dX0_init_5 bp_8 ?_
  refine pl_newI (N := 8) (q := 26) (l2 := [.inr (0, [.null, .null, .null]), .inl (vv_cI g, 8, .inl (fun _ => 0))]) C hfl hP dX0_init_7 rfl (by omega) ⟨Nat.le_of_ble_eq_true rfl, Nat.le_of_ble_eq_true rfl⟩ rfl rfl ?_
  refine pl_putF (l2 := [.inr (0, [.null, .null, vv_r0 g 26]), .inl (vv_cI g, 8, .inl (fun _ => 0))]) C hP dX0_init_9 ff_X0_11 rfl rfl rfl rfl (Nat.le_of_ble_eq_true rfl) rfl ?_
  refine vv_aload_n0 C dX0_init_12 rfl ?_
  refine vv_aload_n0 C dX0_init_13 rfl ?_
  refine pl_putF (l2 := [.inr (0, [vv_r0 g 4, .null, vv_r0 g 26]), .inl (vv_cI g, 8, .inl (fun _ => 0))]) C hP dX0_init_14 ff_X0_15 rfl rfl rfl rfl (Nat.le_of_ble_eq_true rfl) rfl ?_
  refine vv_aload_n0 C dX0_init_17 rfl ?_
  refine vv_aload_n0 C dX0_init_18 rfl ?_
  refine pl_putF (l2 := [.inr (0, [vv_r0 g 4, vv_r0 g 18, vv_r0 g 26]), .inl (vv_cI g, 8, .inl (fun _ => 0))]) C hP dX0_init_19 ff_X0_19 rfl rfl rfl rfl (Nat.le_of_ble_eq_true rfl) rfl ?_
  exact vv_vret (st := []) C F dX0_init_22 rfl ⟨Nat.le_of_ble_eq_true rfl, Nat.le_of_ble_eq_true rfl⟩ rfl
set_option maxRecDepth 20000 in
theorem c_X7_init (g : vv_G) (hfl : vv_fl g = true) (pre : List va_E) (hP : pre.length = 27) : vv_KV g yX7_init cX7_init 2 none { frames := 1, cells := 2, slots := 242, locals := 40 } [vv_r0 g 27, vv_r0 g 4] (pre ++ [.inr (7, [.null, .null, .null, .int 0, .int 0, .int 0, .int 0])]) (fun h1 => h1 = pre ++ [.inr (7, [vv_r0 g 4, vv_r0 g 28, vv_r0 g 29, .int (2), .int 0, .int 0, .int 0]), .inl (vv_cI g, 121, .inl (upd (upd (fun _ => 0) (0 : Int32).toNatClampNeg (-112)) (1 : Int32).toNatClampNeg (-59))), .inl (vv_cI g, 121, .inl (fun _ => 0))]) := by
  refine vv_ofV mb_X7_init (Nat.le_of_ble_eq_true rfl) (fun x C F => ?_)
  refine vv_aload_n0 C dX7_init_0 rfl ?_
  refine vv_obj C dX7_init_1 lk_X7_3 ⟨Nat.le_of_ble_eq_true rfl, Nat.le_of_ble_eq_true rfl⟩ ?_
  refine vv_aload_n0 C dX7_init_4 rfl ?_
  refine vv_bipush C dX7_init_5 bp_121 ?_
  refine pl_newI (N := 121) (q := 28) (l2 := [.inr (7, [.null, .null, .null, .int 0, .int 0, .int 0, .int 0]), .inl (vv_cI g, 121, .inl (fun _ => 0))]) C hfl hP dX7_init_7 rfl (by omega) ⟨Nat.le_of_ble_eq_true rfl, Nat.le_of_ble_eq_true rfl⟩ rfl rfl ?_
  refine pl_putF (l2 := [.inr (7, [.null, vv_r0 g 28, .null, .int 0, .int 0, .int 0, .int 0]), .inl (vv_cI g, 121, .inl (fun _ => 0))]) C hP dX7_init_9 ff_X7_11 rfl rfl rfl rfl (Nat.le_of_ble_eq_true rfl) rfl ?_
  refine vv_aload_n0 C dX7_init_12 rfl ?_
  refine vv_bipush C dX7_init_13 bp_121 ?_
  refine pl_newI (N := 121) (q := 29) (l2 := [.inr (7, [.null, vv_r0 g 28, .null, .int 0, .int 0, .int 0, .int 0]), .inl (vv_cI g, 121, .inl (fun _ => 0)), .inl (vv_cI g, 121, .inl (fun _ => 0))]) C hfl hP dX7_init_15 rfl (by omega) ⟨Nat.le_of_ble_eq_true rfl, Nat.le_of_ble_eq_true rfl⟩ rfl rfl ?_
  refine pl_putF (l2 := [.inr (7, [.null, vv_r0 g 28, vv_r0 g 29, .int 0, .int 0, .int 0, .int 0]), .inl (vv_cI g, 121, .inl (fun _ => 0)), .inl (vv_cI g, 121, .inl (fun _ => 0))]) C hP dX7_init_17 ff_X7_17 rfl rfl rfl rfl (Nat.le_of_ble_eq_true rfl) rfl ?_
  refine vv_aload_n0 C dX7_init_20 rfl ?_
  refine vv_aload_n0 C dX7_init_21 rfl ?_
  refine pl_putF (l2 := [.inr (7, [vv_r0 g 4, vv_r0 g 28, vv_r0 g 29, .int 0, .int 0, .int 0, .int 0]), .inl (vv_cI g, 121, .inl (fun _ => 0)), .inl (vv_cI g, 121, .inl (fun _ => 0))]) C hP dX7_init_22 ff_X7_20 rfl rfl rfl rfl (Nat.le_of_ble_eq_true rfl) rfl ?_
  refine vv_aload_n0 C dX7_init_25 rfl ?_
  refine pl_getf C hP dX7_init_26 fg_X7_11 rfl rfl ?_
  refine vv_iconst C dX7_init_29 ic_0 ?_
  refine vv_bipush C dX7_init_30 bp_m112 ?_
  refine pl_iast (i0 := 1) (l2 := [.inr (7, [vv_r0 g 4, vv_r0 g 28, vv_r0 g 29, .int 0, .int 0, .int 0, .int 0]), .inl (vv_cI g, 121, .inl (upd (fun _ => 0) (0 : Int32).toNatClampNeg (-112))), .inl (vv_cI g, 121, .inl (fun _ => 0))]) C hP rfl dX7_init_32 rfl (xn_in (n := 0) (by omega) (by omega)) rfl ?_
  refine vv_aload_n0 C dX7_init_33 rfl ?_
  refine pl_getf C hP dX7_init_34 fg_X7_11 rfl rfl ?_
  refine vv_iconst C dX7_init_37 ic_1 ?_
  refine vv_bipush C dX7_init_38 bp_m59 ?_
  refine pl_iast (i0 := 1) (l2 := [.inr (7, [vv_r0 g 4, vv_r0 g 28, vv_r0 g 29, .int 0, .int 0, .int 0, .int 0]), .inl (vv_cI g, 121, .inl (upd (upd (fun _ => 0) (0 : Int32).toNatClampNeg (-112)) (1 : Int32).toNatClampNeg (-59))), .inl (vv_cI g, 121, .inl (fun _ => 0))]) C hP rfl dX7_init_40 rfl (xn_in (n := 1) (by omega) (by omega)) rfl ?_
  refine vv_aload_n0 C dX7_init_41 rfl ?_
  refine vv_iconst C dX7_init_42 ic_2 ?_
  refine pl_put (l2 := [.inr (7, [vv_r0 g 4, vv_r0 g 28, vv_r0 g 29, .int (2), .int 0, .int 0, .int 0]), .inl (vv_cI g, 121, .inl (upd (upd (fun _ => 0) (0 : Int32).toNatClampNeg (-112)) (1 : Int32).toNatClampNeg (-59))), .inl (vv_cI g, 121, .inl (fun _ => 0))]) C hP dX7_init_43 fp_X7_24 rfl rfl rfl (Nat.le_of_ble_eq_true rfl) rfl ?_
  exact vv_vret (st := []) C F dX7_init_46 rfl ⟨Nat.le_of_ble_eq_true rfl, Nat.le_of_ble_eq_true rfl⟩ rfl
set_option maxRecDepth 20000 in
theorem c_X6_init (g : vv_G) (hfl : vv_fl g = true) (pre : List va_E) (hP : pre.length = 30) : vv_KV g yX6_init cX6_init 1 none { frames := 1, cells := 2, slots := 241, locals := 40 } [vv_r0 g 30] (pre ++ [.inr (6, [.null, .null, .int 0, .int 0, .int 0, .int 0])]) (fun h1 => h1 = pre ++ [.inr (6, [vv_r0 g 31, vv_r0 g 32, .int 0, .int 0, .int 0, .int 0]), .inl (vv_cI g, 120, .inl (fun _ => 0)), .inl (vv_cI g, 121, .inl (fun _ => 0))]) := by
  refine vv_ofV mb_X6_init (Nat.le_of_ble_eq_true rfl) (fun x C F => ?_)
  refine vv_aload_n0 C dX6_init_0 rfl ?_
  refine vv_obj C dX6_init_1 lk_X6_3 ⟨Nat.le_of_ble_eq_true rfl, Nat.le_of_ble_eq_true rfl⟩ ?_
  refine vv_aload_n0 C dX6_init_4 rfl ?_
  refine vv_bipush C dX6_init_5 bp_120 ?_
  refine pl_newI (N := 120) (q := 31) (l2 := [.inr (6, [.null, .null, .int 0, .int 0, .int 0, .int 0]), .inl (vv_cI g, 120, .inl (fun _ => 0))]) C hfl hP dX6_init_7 rfl (by omega) ⟨Nat.le_of_ble_eq_true rfl, Nat.le_of_ble_eq_true rfl⟩ rfl rfl ?_
  refine pl_putF (l2 := [.inr (6, [vv_r0 g 31, .null, .int 0, .int 0, .int 0, .int 0]), .inl (vv_cI g, 120, .inl (fun _ => 0))]) C hP dX6_init_9 ff_X6_11 rfl rfl rfl rfl (Nat.le_of_ble_eq_true rfl) rfl ?_
  refine vv_aload_n0 C dX6_init_12 rfl ?_
  refine vv_bipush C dX6_init_13 bp_121 ?_
  refine pl_newI (N := 121) (q := 32) (l2 := [.inr (6, [vv_r0 g 31, .null, .int 0, .int 0, .int 0, .int 0]), .inl (vv_cI g, 120, .inl (fun _ => 0)), .inl (vv_cI g, 121, .inl (fun _ => 0))]) C hfl hP dX6_init_15 rfl (by omega) ⟨Nat.le_of_ble_eq_true rfl, Nat.le_of_ble_eq_true rfl⟩ rfl rfl ?_
  refine pl_putF (l2 := [.inr (6, [vv_r0 g 31, vv_r0 g 32, .int 0, .int 0, .int 0, .int 0]), .inl (vv_cI g, 120, .inl (fun _ => 0)), .inl (vv_cI g, 121, .inl (fun _ => 0))]) C hP dX6_init_17 ff_X6_15 rfl rfl rfl rfl (Nat.le_of_ble_eq_true rfl) rfl ?_
  exact vv_vret (st := []) C F dX6_init_20 rfl ⟨Nat.le_of_ble_eq_true rfl, Nat.le_of_ble_eq_true rfl⟩ rfl
set_option maxRecDepth 20000 in
theorem c_X4_init (g : vv_G) (hfl : vv_fl g = true) (pre : List va_E) (hP : pre.length = 33) : vv_KV g yX4_init cX4_init 1 none { frames := 1, cells := 2, slots := 74, locals := 40 } [vv_r0 g 33] (pre ++ [.inr (4, [.null, .null, .int 0, .int 0, .int 0])]) (fun h1 => h1 = pre ++ [.inr (4, [vv_r0 g 34, vv_r0 g 35, .int 0, .int 0, .int 0]), .inl (vv_cI g, 50, .inl (fun _ => 0)), .inl (vv_cI g, 24, .inl (fun _ => 0))]) := by
  refine vv_ofV mb_X4_init (Nat.le_of_ble_eq_true rfl) (fun x C F => ?_)
  refine vv_aload_n0 C dX4_init_0 rfl ?_
  refine vv_obj C dX4_init_1 lk_X4_3 ⟨Nat.le_of_ble_eq_true rfl, Nat.le_of_ble_eq_true rfl⟩ ?_
  refine vv_aload_n0 C dX4_init_4 rfl ?_
  refine vv_bipush C dX4_init_5 bp_50 ?_
  refine pl_newI (N := 50) (q := 34) (l2 := [.inr (4, [.null, .null, .int 0, .int 0, .int 0]), .inl (vv_cI g, 50, .inl (fun _ => 0))]) C hfl hP dX4_init_7 rfl (by omega) ⟨Nat.le_of_ble_eq_true rfl, Nat.le_of_ble_eq_true rfl⟩ rfl rfl ?_
  refine pl_putF (l2 := [.inr (4, [vv_r0 g 34, .null, .int 0, .int 0, .int 0]), .inl (vv_cI g, 50, .inl (fun _ => 0))]) C hP dX4_init_9 ff_X4_11 rfl rfl rfl rfl (Nat.le_of_ble_eq_true rfl) rfl ?_
  refine vv_aload_n0 C dX4_init_12 rfl ?_
  refine vv_bipush C dX4_init_13 bp_24 ?_
  refine pl_newI (N := 24) (q := 35) (l2 := [.inr (4, [vv_r0 g 34, .null, .int 0, .int 0, .int 0]), .inl (vv_cI g, 50, .inl (fun _ => 0)), .inl (vv_cI g, 24, .inl (fun _ => 0))]) C hfl hP dX4_init_15 rfl (by omega) ⟨Nat.le_of_ble_eq_true rfl, Nat.le_of_ble_eq_true rfl⟩ rfl rfl ?_
  refine pl_putF (l2 := [.inr (4, [vv_r0 g 34, vv_r0 g 35, .int 0, .int 0, .int 0]), .inl (vv_cI g, 50, .inl (fun _ => 0)), .inl (vv_cI g, 24, .inl (fun _ => 0))]) C hP dX4_init_17 ff_X4_15 rfl rfl rfl rfl (Nat.le_of_ble_eq_true rfl) rfl ?_
  exact vv_vret (st := []) C F dX4_init_20 rfl ⟨Nat.le_of_ble_eq_true rfl, Nat.le_of_ble_eq_true rfl⟩ rfl
set_option maxRecDepth 20000 in
theorem c_X8_init (g : vv_G) (hfl : vv_fl g = true) (pre : List va_E) (hP : pre.length = 36) : vv_KV g yX8_init cX8_init 3 none { frames := 1, cells := 10, slots := 384, locals := 40 } [vv_r0 g 36, vv_r0 g 4, vv_r0 g 33] (pre ++ [.inr (8, [.null, .null, .null, .null, .null, .null])]) (fun h1 => h1 = pre ++ [.inr (8, [vv_r0 g 4, vv_r0 g 33, vv_r0 g 37, vv_r0 g 38, vv_r0 g 39, vv_r0 g 40]), .inl (vv_cI g, 6, .inl (upd (upd (upd (upd (upd (upd (fun _ => 0) (0 : Int32).toNatClampNeg (-1)) (1 : Int32).toNatClampNeg (-1)) (2 : Int32).toNatClampNeg (-1)) (3 : Int32).toNatClampNeg (-1)) (4 : Int32).toNatClampNeg (-1)) (5 : Int32).toNatClampNeg (-1))), .inl (vv_cI g, 6, .inl (fun _ => 0)), .inl (vv_cI g, 6, .inl (fun _ => 0)), .inl (vv_cJJ g, 6, .inr (.inr (.inr (.inr (fun j => if j < 6 then some (vv_b g + (41 + j)) else none))))), .inl (vv_cJ g, 60, .inr (.inl (fun _ => 0))), .inl (vv_cJ g, 60, .inr (.inl (fun _ => 0))), .inl (vv_cJ g, 60, .inr (.inl (fun _ => 0))), .inl (vv_cJ g, 60, .inr (.inl (fun _ => 0))), .inl (vv_cJ g, 60, .inr (.inl (fun _ => 0))), .inl (vv_cJ g, 60, .inr (.inl (fun _ => 0)))]) := by
  refine vv_ofV mb_X8_init (Nat.le_of_ble_eq_true rfl) (fun x C F => ?_)
  refine vv_aload_n0 C dX8_init_0 rfl ?_
  refine vv_obj C dX8_init_1 lk_X8_3 ⟨Nat.le_of_ble_eq_true rfl, Nat.le_of_ble_eq_true rfl⟩ ?_
  refine vv_aload_n0 C dX8_init_4 rfl ?_
  refine vv_bipush C dX8_init_5 bp_6 ?_
  refine pl_newI (N := 6) (q := 37) (l2 := [.inr (8, [.null, .null, .null, .null, .null, .null]), .inl (vv_cI g, 6, .inl (fun _ => 0))]) C hfl hP dX8_init_7 rfl (by omega) ⟨Nat.le_of_ble_eq_true rfl, Nat.le_of_ble_eq_true rfl⟩ rfl rfl ?_
  refine vv_dup C dX8_init_9 rfl ?_
  refine vv_iconst C dX8_init_10 ic_0 ?_
  refine vv_iconst C dX8_init_11 ic_m1 ?_
  refine pl_iast (i0 := 1) (l2 := [.inr (8, [.null, .null, .null, .null, .null, .null]), .inl (vv_cI g, 6, .inl (upd (fun _ => 0) (0 : Int32).toNatClampNeg (-1)))]) C hP rfl dX8_init_12 rfl (xn_in (n := 0) (by omega) (by omega)) rfl ?_
  refine vv_dup C dX8_init_13 rfl ?_
  refine vv_iconst C dX8_init_14 ic_1 ?_
  refine vv_iconst C dX8_init_15 ic_m1 ?_
  refine pl_iast (i0 := 1) (l2 := [.inr (8, [.null, .null, .null, .null, .null, .null]), .inl (vv_cI g, 6, .inl (upd (upd (fun _ => 0) (0 : Int32).toNatClampNeg (-1)) (1 : Int32).toNatClampNeg (-1)))]) C hP rfl dX8_init_16 rfl (xn_in (n := 1) (by omega) (by omega)) rfl ?_
  refine vv_dup C dX8_init_17 rfl ?_
  refine vv_iconst C dX8_init_18 ic_2 ?_
  refine vv_iconst C dX8_init_19 ic_m1 ?_
  refine pl_iast (i0 := 1) (l2 := [.inr (8, [.null, .null, .null, .null, .null, .null]), .inl (vv_cI g, 6, .inl (upd (upd (upd (fun _ => 0) (0 : Int32).toNatClampNeg (-1)) (1 : Int32).toNatClampNeg (-1)) (2 : Int32).toNatClampNeg (-1)))]) C hP rfl dX8_init_20 rfl (xn_in (n := 2) (by omega) (by omega)) rfl ?_
  refine vv_dup C dX8_init_21 rfl ?_
  refine vv_iconst C dX8_init_22 ic_3 ?_
  refine vv_iconst C dX8_init_23 ic_m1 ?_
  refine pl_iast (i0 := 1) (l2 := [.inr (8, [.null, .null, .null, .null, .null, .null]), .inl (vv_cI g, 6, .inl (upd (upd (upd (upd (fun _ => 0) (0 : Int32).toNatClampNeg (-1)) (1 : Int32).toNatClampNeg (-1)) (2 : Int32).toNatClampNeg (-1)) (3 : Int32).toNatClampNeg (-1)))]) C hP rfl dX8_init_24 rfl (xn_in (n := 3) (by omega) (by omega)) rfl ?_
  refine vv_dup C dX8_init_25 rfl ?_
  refine vv_iconst C dX8_init_26 ic_4 ?_
  refine vv_iconst C dX8_init_27 ic_m1 ?_
  refine pl_iast (i0 := 1) (l2 := [.inr (8, [.null, .null, .null, .null, .null, .null]), .inl (vv_cI g, 6, .inl (upd (upd (upd (upd (upd (fun _ => 0) (0 : Int32).toNatClampNeg (-1)) (1 : Int32).toNatClampNeg (-1)) (2 : Int32).toNatClampNeg (-1)) (3 : Int32).toNatClampNeg (-1)) (4 : Int32).toNatClampNeg (-1)))]) C hP rfl dX8_init_28 rfl (xn_in (n := 4) (by omega) (by omega)) rfl ?_
  refine vv_dup C dX8_init_29 rfl ?_
  refine vv_iconst C dX8_init_30 ic_5 ?_
  refine vv_iconst C dX8_init_31 ic_m1 ?_
  refine pl_iast (i0 := 1) (l2 := [.inr (8, [.null, .null, .null, .null, .null, .null]), .inl (vv_cI g, 6, .inl (upd (upd (upd (upd (upd (upd (fun _ => 0) (0 : Int32).toNatClampNeg (-1)) (1 : Int32).toNatClampNeg (-1)) (2 : Int32).toNatClampNeg (-1)) (3 : Int32).toNatClampNeg (-1)) (4 : Int32).toNatClampNeg (-1)) (5 : Int32).toNatClampNeg (-1)))]) C hP rfl dX8_init_32 rfl (xn_in (n := 5) (by omega) (by omega)) rfl ?_
  refine pl_putF (l2 := [.inr (8, [.null, .null, vv_r0 g 37, .null, .null, .null]), .inl (vv_cI g, 6, .inl (upd (upd (upd (upd (upd (upd (fun _ => 0) (0 : Int32).toNatClampNeg (-1)) (1 : Int32).toNatClampNeg (-1)) (2 : Int32).toNatClampNeg (-1)) (3 : Int32).toNatClampNeg (-1)) (4 : Int32).toNatClampNeg (-1)) (5 : Int32).toNatClampNeg (-1)))]) C hP dX8_init_33 ff_X8_11 rfl rfl rfl rfl (Nat.le_of_ble_eq_true rfl) rfl ?_
  refine vv_aload_n0 C dX8_init_36 rfl ?_
  refine vv_bipush C dX8_init_37 bp_6 ?_
  refine pl_newI (N := 6) (q := 38) (l2 := [.inr (8, [.null, .null, vv_r0 g 37, .null, .null, .null]), .inl (vv_cI g, 6, .inl (upd (upd (upd (upd (upd (upd (fun _ => 0) (0 : Int32).toNatClampNeg (-1)) (1 : Int32).toNatClampNeg (-1)) (2 : Int32).toNatClampNeg (-1)) (3 : Int32).toNatClampNeg (-1)) (4 : Int32).toNatClampNeg (-1)) (5 : Int32).toNatClampNeg (-1))), .inl (vv_cI g, 6, .inl (fun _ => 0))]) C hfl hP dX8_init_39 rfl (by omega) ⟨Nat.le_of_ble_eq_true rfl, Nat.le_of_ble_eq_true rfl⟩ rfl rfl ?_
  refine pl_putF (l2 := [.inr (8, [.null, .null, vv_r0 g 37, vv_r0 g 38, .null, .null]), .inl (vv_cI g, 6, .inl (upd (upd (upd (upd (upd (upd (fun _ => 0) (0 : Int32).toNatClampNeg (-1)) (1 : Int32).toNatClampNeg (-1)) (2 : Int32).toNatClampNeg (-1)) (3 : Int32).toNatClampNeg (-1)) (4 : Int32).toNatClampNeg (-1)) (5 : Int32).toNatClampNeg (-1))), .inl (vv_cI g, 6, .inl (fun _ => 0))]) C hP dX8_init_41 ff_X8_15 rfl rfl rfl rfl (Nat.le_of_ble_eq_true rfl) rfl ?_
  refine vv_aload_n0 C dX8_init_44 rfl ?_
  refine vv_bipush C dX8_init_45 bp_6 ?_
  refine pl_newI (N := 6) (q := 39) (l2 := [.inr (8, [.null, .null, vv_r0 g 37, vv_r0 g 38, .null, .null]), .inl (vv_cI g, 6, .inl (upd (upd (upd (upd (upd (upd (fun _ => 0) (0 : Int32).toNatClampNeg (-1)) (1 : Int32).toNatClampNeg (-1)) (2 : Int32).toNatClampNeg (-1)) (3 : Int32).toNatClampNeg (-1)) (4 : Int32).toNatClampNeg (-1)) (5 : Int32).toNatClampNeg (-1))), .inl (vv_cI g, 6, .inl (fun _ => 0)), .inl (vv_cI g, 6, .inl (fun _ => 0))]) C hfl hP dX8_init_47 rfl (by omega) ⟨Nat.le_of_ble_eq_true rfl, Nat.le_of_ble_eq_true rfl⟩ rfl rfl ?_
  refine pl_putF (l2 := [.inr (8, [.null, .null, vv_r0 g 37, vv_r0 g 38, vv_r0 g 39, .null]), .inl (vv_cI g, 6, .inl (upd (upd (upd (upd (upd (upd (fun _ => 0) (0 : Int32).toNatClampNeg (-1)) (1 : Int32).toNatClampNeg (-1)) (2 : Int32).toNatClampNeg (-1)) (3 : Int32).toNatClampNeg (-1)) (4 : Int32).toNatClampNeg (-1)) (5 : Int32).toNatClampNeg (-1))), .inl (vv_cI g, 6, .inl (fun _ => 0)), .inl (vv_cI g, 6, .inl (fun _ => 0))]) C hP dX8_init_49 ff_X8_18 rfl rfl rfl rfl (Nat.le_of_ble_eq_true rfl) rfl ?_
  refine vv_aload_n0 C dX8_init_52 rfl ?_
  refine vv_bipush C dX8_init_53 bp_6 ?_
  refine vv_bipush C dX8_init_55 bp_60 ?_
  refine pl_mnewJ (N := 6) (M := 60) (q := 40) (l2 := [.inr (8, [.null, .null, vv_r0 g 37, vv_r0 g 38, vv_r0 g 39, .null]), .inl (vv_cI g, 6, .inl (upd (upd (upd (upd (upd (upd (fun _ => 0) (0 : Int32).toNatClampNeg (-1)) (1 : Int32).toNatClampNeg (-1)) (2 : Int32).toNatClampNeg (-1)) (3 : Int32).toNatClampNeg (-1)) (4 : Int32).toNatClampNeg (-1)) (5 : Int32).toNatClampNeg (-1))), .inl (vv_cI g, 6, .inl (fun _ => 0)), .inl (vv_cI g, 6, .inl (fun _ => 0)), .inl (vv_cJJ g, 6, .inr (.inr (.inr (.inr (fun j => if j < 6 then some (vv_b g + (41 + j)) else none))))), .inl (vv_cJ g, 60, .inr (.inl (fun _ => 0))), .inl (vv_cJ g, 60, .inr (.inl (fun _ => 0))), .inl (vv_cJ g, 60, .inr (.inl (fun _ => 0))), .inl (vv_cJ g, 60, .inr (.inl (fun _ => 0))), .inl (vv_cJ g, 60, .inr (.inl (fun _ => 0))), .inl (vv_cJ g, 60, .inr (.inl (fun _ => 0)))]) C hfl hP dX8_init_57 cl_X8_21 rfl rfl (by omega) (by omega) ⟨Nat.le_of_ble_eq_true rfl, Nat.le_of_ble_eq_true rfl⟩ rfl rfl ?_
  refine pl_putF (l2 := [.inr (8, [.null, .null, vv_r0 g 37, vv_r0 g 38, vv_r0 g 39, vv_r0 g 40]), .inl (vv_cI g, 6, .inl (upd (upd (upd (upd (upd (upd (fun _ => 0) (0 : Int32).toNatClampNeg (-1)) (1 : Int32).toNatClampNeg (-1)) (2 : Int32).toNatClampNeg (-1)) (3 : Int32).toNatClampNeg (-1)) (4 : Int32).toNatClampNeg (-1)) (5 : Int32).toNatClampNeg (-1))), .inl (vv_cI g, 6, .inl (fun _ => 0)), .inl (vv_cI g, 6, .inl (fun _ => 0)), .inl (vv_cJJ g, 6, .inr (.inr (.inr (.inr (fun j => if j < 6 then some (vv_b g + (41 + j)) else none))))), .inl (vv_cJ g, 60, .inr (.inl (fun _ => 0))), .inl (vv_cJ g, 60, .inr (.inl (fun _ => 0))), .inl (vv_cJ g, 60, .inr (.inl (fun _ => 0))), .inl (vv_cJ g, 60, .inr (.inl (fun _ => 0))), .inl (vv_cJ g, 60, .inr (.inl (fun _ => 0))), .inl (vv_cJ g, 60, .inr (.inl (fun _ => 0)))]) C hP dX8_init_61 ff_X8_23 rfl rfl rfl rfl (Nat.le_of_ble_eq_true rfl) rfl ?_
  refine vv_aload_n0 C dX8_init_64 rfl ?_
  refine vv_aload_n0 C dX8_init_65 rfl ?_
  refine pl_putF (l2 := [.inr (8, [vv_r0 g 4, .null, vv_r0 g 37, vv_r0 g 38, vv_r0 g 39, vv_r0 g 40]), .inl (vv_cI g, 6, .inl (upd (upd (upd (upd (upd (upd (fun _ => 0) (0 : Int32).toNatClampNeg (-1)) (1 : Int32).toNatClampNeg (-1)) (2 : Int32).toNatClampNeg (-1)) (3 : Int32).toNatClampNeg (-1)) (4 : Int32).toNatClampNeg (-1)) (5 : Int32).toNatClampNeg (-1))), .inl (vv_cI g, 6, .inl (fun _ => 0)), .inl (vv_cI g, 6, .inl (fun _ => 0)), .inl (vv_cJJ g, 6, .inr (.inr (.inr (.inr (fun j => if j < 6 then some (vv_b g + (41 + j)) else none))))), .inl (vv_cJ g, 60, .inr (.inl (fun _ => 0))), .inl (vv_cJ g, 60, .inr (.inl (fun _ => 0))), .inl (vv_cJ g, 60, .inr (.inl (fun _ => 0))), .inl (vv_cJ g, 60, .inr (.inl (fun _ => 0))), .inl (vv_cJ g, 60, .inr (.inl (fun _ => 0))), .inl (vv_cJ g, 60, .inr (.inl (fun _ => 0)))]) C hP dX8_init_66 ff_X8_26 rfl rfl rfl rfl (Nat.le_of_ble_eq_true rfl) rfl ?_
  refine vv_aload_n0 C dX8_init_69 rfl ?_
  refine vv_aload_n0 C dX8_init_70 rfl ?_
  refine pl_putF (l2 := [.inr (8, [vv_r0 g 4, vv_r0 g 33, vv_r0 g 37, vv_r0 g 38, vv_r0 g 39, vv_r0 g 40]), .inl (vv_cI g, 6, .inl (upd (upd (upd (upd (upd (upd (fun _ => 0) (0 : Int32).toNatClampNeg (-1)) (1 : Int32).toNatClampNeg (-1)) (2 : Int32).toNatClampNeg (-1)) (3 : Int32).toNatClampNeg (-1)) (4 : Int32).toNatClampNeg (-1)) (5 : Int32).toNatClampNeg (-1))), .inl (vv_cI g, 6, .inl (fun _ => 0)), .inl (vv_cI g, 6, .inl (fun _ => 0)), .inl (vv_cJJ g, 6, .inr (.inr (.inr (.inr (fun j => if j < 6 then some (vv_b g + (41 + j)) else none))))), .inl (vv_cJ g, 60, .inr (.inl (fun _ => 0))), .inl (vv_cJ g, 60, .inr (.inl (fun _ => 0))), .inl (vv_cJ g, 60, .inr (.inl (fun _ => 0))), .inl (vv_cJ g, 60, .inr (.inl (fun _ => 0))), .inl (vv_cJ g, 60, .inr (.inl (fun _ => 0))), .inl (vv_cJ g, 60, .inr (.inl (fun _ => 0)))]) C hP dX8_init_71 ff_X8_30 rfl rfl rfl rfl (Nat.le_of_ble_eq_true rfl) rfl ?_
  exact vv_vret (st := []) C F dX8_init_74 rfl ⟨Nat.le_of_ble_eq_true rfl, Nat.le_of_ble_eq_true rfl⟩ rfl
