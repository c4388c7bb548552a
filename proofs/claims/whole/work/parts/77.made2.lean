theorem ac_I : Cond.arrayClass .int ∈ vv_Ws := vv_in 123 (by decide +kernel) (by decide +kernel)
theorem ac_J : Cond.arrayClass .long ∈ vv_Ws := vv_in 236 (by decide +kernel) (by decide +kernel)
theorem ac_Z : Cond.arrayClass .boolean ∈ vv_Ws := vv_in 1183 (by decide +kernel) (by decide +kernel)
theorem vv_eqH {g : vv_G} {x : vv_X} {nL k n pc : Nat} {lv : List (Option Value)} {st : List Value} {h h9 : List va_E} (e : h = h9) (kk : vv_V g x nL k n pc lv st h9) : vv_V g x nL k n pc lv st h := e ▸ kk
theorem vv_obj {g : vv_G} {x : vv_X} {own nm : String} {cc : ByteArray} {nL k n pc : Nat} {ret : Option FieldType} {R0 : Room} {lv : List (Option Value)} {st : List Value} {h : List va_E} {idx i : Nat} (C : vv_C g own nm cc nL ret R0 x) (d : decode cc pc = .ok (.invokespecial idx, 3)) (fl : vv_lk own idx Lib.objectInit) (hr : 1 ≤ R0.frames ∧ (st.map fun v => v.category).sum + 12 ≤ R0.locals) (kk : vv_V g x nL k n (pc + 3) lv st h) : vv_V g x nL k n pc lv (vv_r0 g i :: st) h := by
  obtain ⟨p, e, R, s, m, args, below, meth, c, Q⟩ := x
  intro H locs ls hS hW hl
  have hR : R = R0 := C.2.2.2.2.2.2.2.2.2.2
  subst hR
  have hts := C.2.2.2.2.2.2.2.1
  refine W.objInit C.1 C.2.1 C.2.2.2.2.2.1 (hts _ fl) (hts _ mi_obj) (hts _ mc_obj) rfl (hl.1.trans C.2.2.1.symm) rfl d hr.1 (by show 2 * 0 + _ + 12 ≤ _; have := hr.2; omega) ?_
  exact W.eq (g2 := F0 m (pc + 3) ls st) rfl (kk H locs ls hS hW hl)
theorem vv_newI {g : vv_G} {x : vv_X} {own nm : String} {cc : ByteArray} {nL k n pc : Nat} {ret : Option FieldType} {R0 : Room} {lv : List (Option Value)} {st : List Value} {h : List va_E} {v : Int32} {N : Nat} (C : vv_C g own nm cc nL ret R0 x) (hfl : vv_fl g = true) (d : decode cc pc = .ok (.newarray .int, 2)) (hv : v = nI N) (hN : N < 2 ^ 20) (hk : k + 1 ≤ R0.cells ∧ n + N ≤ R0.slots) (kk : vv_V g x nL (k + 1) (n + N) (pc + 2) lv (vv_r0 g h.length :: st) (h ++ [.inl (vv_cI g, N, .inl (fun _ => 0))])) : vv_V g x nL k n pc lv (.int v :: st) h :=
  vv_newa (t0 := 0) (cT := vv_cI g) (ty := .int) C hfl d rfl ac_I rfl (fun _ q => q) rfl hv hN (by show N * 4 ≤ _; omega) hk kk
theorem vv_newJ {g : vv_G} {x : vv_X} {own nm : String} {cc : ByteArray} {nL k n pc : Nat} {ret : Option FieldType} {R0 : Room} {lv : List (Option Value)} {st : List Value} {h : List va_E} {v : Int32} {N : Nat} (C : vv_C g own nm cc nL ret R0 x) (hfl : vv_fl g = true) (d : decode cc pc = .ok (.newarray .long, 2)) (hv : v = nI N) (hN : N < 2 ^ 20) (hk : k + 1 ≤ R0.cells ∧ n + N ≤ R0.slots) (kk : vv_V g x nL (k + 1) (n + N) (pc + 2) lv (vv_r0 g h.length :: st) (h ++ [.inl (vv_cJ g, N, .inr (.inl (fun _ => 0)))])) : vv_V g x nL k n pc lv (.int v :: st) h :=
  vv_newa (t0 := 1) (cT := vv_cJ g) (ty := .long) C hfl d rfl ac_J rfl (fun _ q => q) rfl hv hN (by show N * 8 ≤ _; omega) hk kk
theorem vv_newZ {g : vv_G} {x : vv_X} {own nm : String} {cc : ByteArray} {nL k n pc : Nat} {ret : Option FieldType} {R0 : Room} {lv : List (Option Value)} {st : List Value} {h : List va_E} {v : Int32} {N : Nat} (C : vv_C g own nm cc nL ret R0 x) (hfl : vv_fl g = true) (d : decode cc pc = .ok (.newarray .boolean, 2)) (hv : v = nI N) (hN : N < 2 ^ 20) (hk : k + 1 ≤ R0.cells ∧ n + N ≤ R0.slots) (kk : vv_V g x nL (k + 1) (n + N) (pc + 2) lv (vv_r0 g h.length :: st) (h ++ [.inl (vv_cZ g, N, .inl (fun _ => 0))])) : vv_V g x nL k n pc lv (.int v :: st) h :=
  vv_newa (t0 := 2) (cT := vv_cZ g) (ty := .boolean) C hfl d rfl ac_Z rfl (fun _ q => q) rfl hv hN (by show N * 1 ≤ _; omega) hk kk
theorem vv_outer (c : ClassId) (N h0 : Nat) : ∀ i, i ≤ N → Jvm.Free.Multi.outerC c N h0 i = arrV c N (fun j => if j < i then .ref (h0 + 1 + j) else .null)
  | 0, _ => by
    show ({ cls := c, slots := Array.replicate N .null, vm := .none } : Cell) = _
    rw [arrV_new]
    congr 1
  | i + 1, hi => by
    show (Jvm.Free.Multi.outerC c N h0 i).setSlot i (.ref (h0 + 1 + i)) = _
    rw [vv_outer c N h0 i (by omega), arrV_store]
    congr 1
    funext j
    unfold updV
    by_cases e : j = i
    · subst e
      simp
    · by_cases e2 : j < i
      · simp [e, e2, Nat.lt_succ_of_lt e2]
      · have : ¬ j < i + 1 := by omega
        simp [e, e2, this]
theorem vv_mnew {g : vv_G} {x : vv_X} {own nm : String} {cc : ByteArray} {nL k n pc : Nat} {ret : Option FieldType} {R0 : Room} {lv : List (Option Value)} {st : List Value} {h : List va_E} {idx t0 t1 : Nat} {cO cT : ClassId} {ty : FieldType} {v w : Int32} {N M : Nat} {r0 : vp_A} (C : vv_C g own nm cc nL ret R0 x) (hfl : vv_fl g = true) (d : decode cc pc = .ok (.multianewarray idx 2, 4)) (hcl : Cond.classLink own idx ("[" ++ (FieldType.array ty).toString) ∈ vv_Ws) (hover : Cond.arrayOver (.array ty) ∈ vv_nest) (harr : Cond.arrayClass ty ∈ vv_Ws) (ht : (vv_tys g)[t0]? = some (cT, ty)) (ht1 : (vv_tys g)[t1]? = some (cO, .array ty)) (hnm : ∀ U : State, va_RA U cT ty → U.vm.findClass (FieldType.array ty).toString = some cT) (hr : vp_cell cT r0 = arrV cT M (fun _ => defaultValue ty)) (hv : v = nI N) (hw : w = nI M) (hN : N < 2 ^ 20) (hM : M < 2 ^ 20) (hb : M * componentBytes ty ≤ 536870912) (hdf : fits ty (defaultValue ty) = true) (hdd : (defaultValue ty).isDefault = true) (hk : k + (1 + N) ≤ R0.cells ∧ n + (N + N * M) ≤ R0.slots) (kk : vv_V g x nL (k + 1 + N) (n + N + N * M) (pc + 4) lv (vv_r0 g h.length :: st) (h ++ (.inl (cO, N, .inr (.inr (.inr (.inr (fun j => if j < N then some (vv_b g + (h.length + 1 + j)) else none))))) :: List.replicate N (.inl (cT, r0))))) : vv_V g x nL k n pc lv (.int w :: .int v :: st) h := by
  obtain ⟨p, e, R, s, m, args, below, meth, c, Q⟩ := x
  intro H locs ls hS hW hl
  have hR : R = R0 := C.2.2.2.2.2.2.2.2.2.2
  subst hR
  subst hv hw
  have hts := C.2.2.2.2.2.2.2.1
  have hz := hW.1.2 hfl
  intro T hT X
  have hAO : (Cond.arrayOver (.array ty)).before args s = true := C.2.2.2.2.2.2.2.2.2.1 _ hover
  obtain ⟨vm₁, cA, comp, hWm, hfA, hfC, hO, hI, X1, step⟩ := X.multianewarray2F C.1 C.2.2.2.2.2.1 (hts _ hcl) hAO (hts _ harr) (g := F0 m pc ls (.int (nI M) :: .int (nI N) :: st)) rfl (by rw [C.2.1]; exact d) rfl (xn_neg (by omega)) (xn_neg (by omega)) (by rw [xn_cl (by omega)]; omega) (by rw [xn_cl (by omega)]; exact hb) (by rw [xn_cl (by omega)]; omega) hdf hdd (by rw [xn_cl (by omega)]; exact hk.1) (by rw [xn_cl (n := N) (by omega), xn_cl (n := M) (by omega)]; exact hk.2)
  rw [xn_cl (n := N) (by omega), xn_cl (n := M) (by omega)] at X1 step
  have hcA : cA = cO := Option.some.inj (hfA.symm.trans (hW.2.2.1.2 t1 _ ht1).2)
  have hcC : comp = cT := Option.some.inj (hfC.symm.trans (hnm s (hW.2.2.1.2 t0 _ ht).2))
  subst hcA hcC
  have hTs : T.heap.size = vv_b g + h.length := by rw [hT]; exact hz
  obtain ⟨f1, f2, -, -⟩ := Jvm.Free.Multi.fill_facts (T.setVm vm₁) cA comp N M (defaultValue ty) N
  have fo := fun (a : Addr) (ha : a < T.heap.size) => Jvm.Free.Multi.fill_old (T.setVm vm₁) cA comp N M (defaultValue ty) (a := a) ha N
  have fi := fun (j : Nat) (hj : j < N) => Jvm.Free.Multi.fill_inner (T.setVm vm₁) cA comp N M (defaultValue ty) N j hj
  have f1 : (Jvm.Free.Multi.fill (T.setVm vm₁) cA comp N M (defaultValue ty) N).heap.size = T.heap.size + 1 + N := f1
  have f2 : (Jvm.Free.Multi.fill (T.setVm vm₁) cA comp N M (defaultValue ty) N).heap[T.heap.size]? = some (Jvm.Free.Multi.outerC cA N T.heap.size N) := f2
  have fi : ∀ j, j < N → (Jvm.Free.Multi.fill (T.setVm vm₁) cA comp N M (defaultValue ty) N).heap[T.heap.size + 1 + j]? = some (Jvm.Free.Multi.innerC comp M (defaultValue ty)) := fi
  obtain ⟨hS1, hW1⟩ := vv_grow (t := .inl (cA, N, .inr (.inr (.inr (.inr (fun j => if j < N then some (vv_b g + (h.length + 1 + j)) else none))))) :: List.replicate N (.inl (comp, r0))) hS hW hfl C.2.2.2.2.2.2.2.2.1 (H1 := (Jvm.Free.Multi.fill (T.setVm vm₁) cA comp N M (defaultValue ty) N).heap) (fun q hq => by
      rw [fo q (by rw [hTs]; exact hq)]
      show T.heap[q]? = H[q]?
      rw [hT]) (by rw [f1, List.length_cons, List.length_replicate]; omega) (fun j y hj => by
      cases j with
      | zero =>
        cases hj
        show _ = some (vp_cell _ _)
        rw [Nat.add_zero, ← hTs, f2, vv_outer cA N _ N (Nat.le_refl _), vp_cell_q]
        congr 2
        funext j
        by_cases e : j < N
        · rw [if_pos e, if_pos e, hTs]
          show _ = Value.ref _
          simp only [Nat.add_assoc]
        · rw [if_neg e, if_neg e]
          rfl
      | succ j =>
        have hj : (List.replicate N (Sum.inl (comp, r0) : va_E))[j]? = some y := hj
        rw [List.getElem?_replicate] at hj
        by_cases e : j < N
        · rw [if_pos e] at hj
          cases hj
          show _ = some (vp_cell _ _)
          rw [show vv_b g + (h.length + (j + 1)) = T.heap.size + 1 + j by omega, fi j e, hr, ← arrV_new]
          rfl
        · rw [if_neg e] at hj
          cases hj)
  obtain ⟨t, a1, b1⟩ := kk _ locs ls hS1 hW1 hl _ rfl X1
  refine ⟨t, step t ?_, b1⟩
  rw [hTs]
  exact a1

