/-! WHAT IS MADE, while the heap's size is told: it comes behind what is there -/
theorem vv_grow {g : vv_G} {s : State} {h t : List va_E} {H H1 : Heap} {locs : List Loc} (hS : va_S (vv_A g) s.heap H locs) (hW : vv_W g h s H) (hfl : vv_fl g = true) (hb : vv_b g ≤ s.heap.size) (o1 : ∀ q, q < vv_b g + h.length → H1[q]? = H[q]?) (z1 : H1.size = vv_b g + h.length + t.length) (e1 : ∀ j x, t[j]? = some x → va_at (vv_D g) vwCl (vv_b g + (h.length + j), x) H1) : va_S (vv_A g) s.heap H1 locs ∧ vv_W g (h ++ t) s H1 := by
  have hz := hW.1.2 hfl
  have o2 : ∀ q, q < H.size → H1[q]? = H[q]? := fun q hq => o1 q (by rw [← hz]; exact hq)
  refine ⟨⟨Nat.le_trans hS.1 (by omega), fun q h1 h2 => (o2 q (Nat.lt_of_lt_of_le h1 hS.1)).trans (hS.2.1 q h1 h2), hS.2.2⟩, ⟨by omega, fun _ => by rw [z1, List.length_append]; omega⟩, fun k q hk => ?_, hW.2.2.1, hW.2.2.2.kept (fun q hq _ => o2 q hq)⟩
  by_cases hl : k < h.length
  · have hk2 : (vv_ws g h)[k]? = some q := by
      unfold vv_ws at hk ⊢
      rw [vv_from_get] at hk ⊢
      rw [List.getElem?_append_left hl] at hk
      exact hk
    exact (hW.2.1.kept (fun k x hx => o2 x.1 ((hW.2.1 k x hx).lt))) k q hk2
  · unfold vv_ws at hk
    rw [vv_from_get, List.getElem?_append_right (by omega)] at hk
    cases e : t[k - h.length]? with
    | none => rw [e] at hk; cases hk
    | some x =>
      rw [e] at hk
      cases hk
      have := e1 _ _ e
      rw [show h.length + (k - h.length) = k by omega] at this
      rw [Nat.zero_add]
      exact this
theorem vv_new {g : vv_G} {x : vv_X} {own nm : String} {cc : ByteArray} {nL k n pc : Nat} {ret : Option FieldType} {R0 : Room} {lv : List (Option Value)} {st : List Value} {h : List va_E} {idx N ci : Nat} {Cn : String} {T : u_T} {fs : List Value} (C : vv_C g own nm cc nL ret R0 x) (hfl : vv_fl g = true) (d : decode cc pc = .ok (.new idx, 3)) (hin : ∀ w ∈ u_ws Cn T N, w ∈ vv_Ws) (ty : Nat → FieldType) (hty : ∀ k, k < N → parseFieldDescriptor (T k).2.2.1 = some (ty k)) (hcl : Cond.classLink own idx Cn ∈ vv_Ws) (hinst : Cond.instantiable Cn N ∈ vv_Ws) (hini : Cond.initialized Cn ∈ vv_Ws) (hc : vwCl[ci]? = some (Cn, T, N)) (hfs : ∀ j, j < N → defaultValue (ty j) = vp_V fs j) (hk : k + 1 ≤ R0.cells ∧ n + N ≤ R0.slots) (kk : vv_V g x nL (k + 1) (n + N) (pc + 3) lv (vv_r0 g h.length :: st) (h ++ [.inr (ci, fs)])) : vv_V g x nL k n pc lv st h := by
  obtain ⟨p, e, R, s, m, args, below, meth, c, Q⟩ := x
  intro H locs ls hS hW hl
  have hR : R = R0 := C.2.2.2.2.2.2.2.2.2.2
  subst hR
  have hts := C.2.2.2.2.2.2.2.1
  have hKn := hW.2.2.1.1 ci _ hc
  refine W.newcK C.1 C.2.1 C.2.2.2.2.2.1 (hts _ hcl) (hts _ hinst) (hts _ hini) rfl d hk.1 hk.2 hKn.2.1 (hW.1.2 hfl) fun H1 kC hkC e1 z1 o1 => ?_
  obtain ⟨hS1, hW1⟩ := vv_grow (t := [.inr (ci, fs)]) hS hW hfl C.2.2.2.2.2.2.2.2.1 o1 z1 (fun j y hj => by
    cases j with
    | succ j => cases hj
    | zero =>
      cases hj
      exact ⟨_, hc, (u_born ty hts hin hKn hkC e1 hty).to hfs⟩)
  exact kk H1 locs ls hS1 hW1 hl
theorem vv_newa {g : vv_G} {x : vv_X} {own nm : String} {cc : ByteArray} {nL k n pc : Nat} {ret : Option FieldType} {R0 : Room} {lv : List (Option Value)} {st : List Value} {h : List va_E} {atype : ArrayType} {t0 : Nat} {cT : ClassId} {ty : FieldType} {v : Int32} {N : Nat} {a0 : vp_A} (C : vv_C g own nm cc nL ret R0 x) (hfl : vv_fl g = true) (d : decode cc pc = .ok (.newarray atype, 2)) (hty : newarray.typeOf atype = ty) (harr : Cond.arrayClass (newarray.typeOf atype) ∈ vv_Ws) (ht : (vv_tys g)[t0]? = some (cT, ty)) (hnm : ∀ U : State, va_RA U cT ty → U.vm.findClass ("[" ++ ty.toString) = some cT) (ha : vp_cell cT a0 = arrV cT N (fun _ => defaultValue ty)) (hv : v = nI N) (hN : N < 2 ^ 20) (hb : N * componentBytes ty ≤ 536870912) (hk : k + 1 ≤ R0.cells ∧ n + N ≤ R0.slots) (kk : vv_V g x nL (k + 1) (n + N) (pc + 2) lv (vv_r0 g h.length :: st) (h ++ [.inl (cT, a0)])) : vv_V g x nL k n pc lv (.int v :: st) h := by
  obtain ⟨p, e, R, s, m, args, below, meth, c, Q⟩ := x
  intro H locs ls hS hW hl
  have hR : R = R0 := C.2.2.2.2.2.2.2.2.2.2
  subst hR
  subst hty hv
  have hts := C.2.2.2.2.2.2.2.1
  refine va_newaK C.1 C.2.1 (hts _ harr) rfl d rfl (xn_neg (by omega)) (xn_cl (by omega)) hb hk.1 hk.2 (hW.1.2 hfl) fun H1 cA e1 z1 o1 hAr hNm => ?_
  have hT := hnm s (hW.2.2.1.2 t0 _ ht).2
  have hcA : cA = cT := Option.some.inj (hNm.symm.trans hT)
  subst hcA
  obtain ⟨hS1, hW1⟩ := vv_grow (t := [.inl (cA, a0)]) hS hW hfl C.2.2.2.2.2.2.2.2.1 o1 z1 (fun j y hj => by
    cases j with
    | succ j => cases hj
    | zero =>
      cases hj
      show H1[_]? = some (vp_cell _ _)
      rw [ha]
      exact e1)
  exact kk H1 locs ls hS1 hW1 hl

