/-! THE START -/
theorem lw_kn {s : State} {args : Array Value} (hts : ∀ w ∈ vv_Ws, w.before args s = true) : ∀ k : Nat, ∃ z : ClassId × (Nat → Nat), ∀ q : vw_C, vwCl[k]? = some q → u_Kn s q.1 q.2.1 q.2.2 z.1 z.2 := by
  intro k
  cases h : vwCl[k]? with
  | none =>
    obtain ⟨c, i, _⟩ := u_known (C := RX0) (T := TX0) (N := 3) (n := 3) hts iw_X0 (hts _ it_X0)
    exact ⟨(c, i), fun q hq => by cases hq⟩
  | some q9 =>
    have hm := List.mem_of_getElem? h
    simp only [vwCl, List.mem_cons, List.not_mem_nil, or_false] at hm
    rcases hm with e | e | e | e | e | e | e | e | e | e | e | e | e
    · subst e
      obtain ⟨c, i, hk⟩ := u_known (C := RX0) (T := TX0) (N := 3) (n := 3) hts iw_X0 (hts _ it_X0)
      exact ⟨(c, i), fun q hq => by cases hq; exact hk⟩
    · subst e
      obtain ⟨c, i, hk⟩ := u_known (C := RX1) (T := TX1) (N := 2) (n := 2) hts iw_X1 (hts _ it_X1)
      exact ⟨(c, i), fun q hq => by cases hq; exact hk⟩
    · subst e
      obtain ⟨c, i, hk⟩ := u_known (C := RX2) (T := TX2) (N := 7) (n := 7) hts iw_X2 (hts _ it_X2)
      exact ⟨(c, i), fun q hq => by cases hq; exact hk⟩
    · subst e
      obtain ⟨c, i, hk⟩ := u_known (C := RX3) (T := TX3) (N := 2) (n := 2) hts iw_X3 (hts _ it_X3)
      exact ⟨(c, i), fun q hq => by cases hq; exact hk⟩
    · subst e
      obtain ⟨c, i, hk⟩ := u_known (C := RX4) (T := TX4) (N := 5) (n := 5) hts iw_X4 (hts _ it_X4)
      exact ⟨(c, i), fun q hq => by cases hq; exact hk⟩
    · subst e
      obtain ⟨c, i, hk⟩ := u_known (C := RX5) (T := TX5) (N := 4) (n := 4) hts iw_X5 (hts _ it_X5)
      exact ⟨(c, i), fun q hq => by cases hq; exact hk⟩
    · subst e
      obtain ⟨c, i, hk⟩ := u_known (C := RX6) (T := TX6) (N := 6) (n := 6) hts iw_X6 (hts _ it_X6)
      exact ⟨(c, i), fun q hq => by cases hq; exact hk⟩
    · subst e
      obtain ⟨c, i, hk⟩ := u_known (C := RX7) (T := TX7) (N := 7) (n := 7) hts iw_X7 (hts _ it_X7)
      exact ⟨(c, i), fun q hq => by cases hq; exact hk⟩
    · subst e
      obtain ⟨c, i, hk⟩ := u_known (C := RX8) (T := TX8) (N := 6) (n := 6) hts iw_X8 (hts _ it_X8)
      exact ⟨(c, i), fun q hq => by cases hq; exact hk⟩
    · subst e
      obtain ⟨c, i, hk⟩ := u_known (C := RX9) (T := TX9) (N := 5) (n := 5) hts iw_X9 (hts _ it_X9)
      exact ⟨(c, i), fun q hq => by cases hq; exact hk⟩
    · subst e
      obtain ⟨c, i, hk⟩ := u_known (C := RX10) (T := TX10) (N := 7) (n := 7) hts iw_X10 (hts _ it_X10)
      exact ⟨(c, i), fun q hq => by cases hq; exact hk⟩
    · subst e
      obtain ⟨c, i, hk⟩ := u_known (C := RX11) (T := TX11) (N := 11) (n := 11) hts iw_X11 (hts _ it_X11)
      exact ⟨(c, i), fun q hq => by cases hq; exact hk⟩
    · subst e
      obtain ⟨c, i, hk⟩ := u_known (C := RX12) (T := TX12) (N := 42) (n := 42) hts iw_X12 (hts _ it_X12)
      exact ⟨(c, i), fun q hq => by cases hq; exact hk⟩
theorem lw_arr {s : State} {args : Array Value} {ty : FieldType} (h : (Cond.arrayClass ty).before args s = true) : ∃ cA : ClassId, ArrOfT s cA ty ∧ s.vm.findClass ("[" ++ ty.toString) = some cA := by
  obtain ⟨cA, kA, comp, h1, h2, h3⟩ := Cond.arrayClass_spec h
  exact ⟨cA, fun n z => ⟨(fun k h => by cases h), kA, h2, comp, h3⟩, h1⟩
theorem lw_arr2 {s : State} {args : Array Value} {t : FieldType} (h : (Cond.arrayOver (.array t)).before args s = true) : ∃ cA : ClassId, ArrOfT s cA (.array t) ∧ s.vm.findClass ("[" ++ (FieldType.array t).toString) = some cA := by
  obtain ⟨comp, c, k, h1, h2, h3, h4, h5⟩ := Stand.arrayOver_specB h
  exact ⟨c, fun n z => ⟨(fun k h => by cases h), k, h3, comp, h4⟩, h5⟩
theorem lw_sB {s : State} {b : Nat} (hgv : (Jvm.Cond.and given_1 narrow_1).before #[Value.ref b] s = true) : ∃ t : Nat, (Term.static "LawfulSums$Numbers" "BASES" "[I").eval #[Value.ref b] s none [] s = some (.ref t) ∧ va_T .int t 6 (fun j => .int (vv_fB j)) (fun q => s.heap.size ≤ q) s s.heap := by
  have hs := flat_of_before _ hgv
  refine va_Tof (by omega) (hs (.arrayOf (.static "LawfulSums$Numbers" "BASES" "[I") .int) (by decide +kernel)) (va_eqt (hs (.eq (.length (.static "LawfulSums$Numbers" "BASES" "[I")) (.int 6)) (by decide +kernel))) (fun j hj => ?_) (fun a h => Nat.not_le.mpr h)
  match j, hj with
  | 0, _ => exact va_eqt (hs (.eq (.elem (.static "LawfulSums$Numbers" "BASES" "[I") (.int 0)) (.int (2))) (by decide +kernel))
  | 1, _ => exact va_eqt (hs (.eq (.elem (.static "LawfulSums$Numbers" "BASES" "[I") (.int 1)) (.int (3))) (by decide +kernel))
  | 2, _ => exact va_eqt (hs (.eq (.elem (.static "LawfulSums$Numbers" "BASES" "[I") (.int 2)) (.int (5))) (by decide +kernel))
  | 3, _ => exact va_eqt (hs (.eq (.elem (.static "LawfulSums$Numbers" "BASES" "[I") (.int 3)) (.int (7))) (by decide +kernel))
  | 4, _ => exact va_eqt (hs (.eq (.elem (.static "LawfulSums$Numbers" "BASES" "[I") (.int 4)) (.int (11))) (by decide +kernel))
  | 5, _ => exact va_eqt (hs (.eq (.elem (.static "LawfulSums$Numbers" "BASES" "[I") (.int 5)) (.int (13))) (by decide +kernel))
  | n + 6, h => omega
theorem lw_sO {s : State} {b : Nat} (hgv : (Jvm.Cond.and given_1 narrow_1).before #[Value.ref b] s = true) : ∃ t : Nat, (Term.static "LawfulSums$Payments" "OWN" "[I").eval #[Value.ref b] s none [] s = some (.ref t) ∧ va_T .int t 32 (fun j => .int (vv_fO j)) (fun q => s.heap.size ≤ q) s s.heap := by
  have hs := flat_of_before _ hgv
  refine va_Tof (by omega) (hs (.arrayOf (.static "LawfulSums$Payments" "OWN" "[I") .int) (by decide +kernel)) (va_eqt (hs (.eq (.length (.static "LawfulSums$Payments" "OWN" "[I")) (.int 32)) (by decide +kernel))) (fun j hj => ?_) (fun a h => Nat.not_le.mpr h)
  match j, hj with
  | 0, _ => exact va_eqt (hs (.eq (.elem (.static "LawfulSums$Payments" "OWN" "[I") (.int 0)) (.int (1))) (by decide +kernel))
  | 1, _ => exact va_eqt (hs (.eq (.elem (.static "LawfulSums$Payments" "OWN" "[I") (.int 1)) (.int (10))) (by decide +kernel))
  | 2, _ => exact va_eqt (hs (.eq (.elem (.static "LawfulSums$Payments" "OWN" "[I") (.int 2)) (.int (11))) (by decide +kernel))
  | 3, _ => exact va_eqt (hs (.eq (.elem (.static "LawfulSums$Payments" "OWN" "[I") (.int 3)) (.int (2))) (by decide +kernel))
  | 4, _ => exact va_eqt (hs (.eq (.elem (.static "LawfulSums$Payments" "OWN" "[I") (.int 4)) (.int (20))) (by decide +kernel))
  | 5, _ => exact va_eqt (hs (.eq (.elem (.static "LawfulSums$Payments" "OWN" "[I") (.int 5)) (.int (0))) (by decide +kernel))
  | 6, _ => exact va_eqt (hs (.eq (.elem (.static "LawfulSums$Payments" "OWN" "[I") (.int 6)) (.int (0))) (by decide +kernel))
  | 7, _ => exact va_eqt (hs (.eq (.elem (.static "LawfulSums$Payments" "OWN" "[I") (.int 7)) (.int (0))) (by decide +kernel))
  | 8, _ => exact va_eqt (hs (.eq (.elem (.static "LawfulSums$Payments" "OWN" "[I") (.int 8)) (.int (0))) (by decide +kernel))
  | 9, _ => exact va_eqt (hs (.eq (.elem (.static "LawfulSums$Payments" "OWN" "[I") (.int 9)) (.int (30))) (by decide +kernel))
  | 10, _ => exact va_eqt (hs (.eq (.elem (.static "LawfulSums$Payments" "OWN" "[I") (.int 10)) (.int (0))) (by decide +kernel))
  | 11, _ => exact va_eqt (hs (.eq (.elem (.static "LawfulSums$Payments" "OWN" "[I") (.int 11)) (.int (0))) (by decide +kernel))
  | 12, _ => exact va_eqt (hs (.eq (.elem (.static "LawfulSums$Payments" "OWN" "[I") (.int 12)) (.int (0))) (by decide +kernel))
  | 13, _ => exact va_eqt (hs (.eq (.elem (.static "LawfulSums$Payments" "OWN" "[I") (.int 13)) (.int (41))) (by decide +kernel))
  | 14, _ => exact va_eqt (hs (.eq (.elem (.static "LawfulSums$Payments" "OWN" "[I") (.int 14)) (.int (40))) (by decide +kernel))
  | 15, _ => exact va_eqt (hs (.eq (.elem (.static "LawfulSums$Payments" "OWN" "[I") (.int 15)) (.int (0))) (by decide +kernel))
  | 16, _ => exact va_eqt (hs (.eq (.elem (.static "LawfulSums$Payments" "OWN" "[I") (.int 16)) (.int (0))) (by decide +kernel))
  | 17, _ => exact va_eqt (hs (.eq (.elem (.static "LawfulSums$Payments" "OWN" "[I") (.int 17)) (.int (0))) (by decide +kernel))
  | 18, _ => exact va_eqt (hs (.eq (.elem (.static "LawfulSums$Payments" "OWN" "[I") (.int 18)) (.int (50))) (by decide +kernel))
  | 19, _ => exact va_eqt (hs (.eq (.elem (.static "LawfulSums$Payments" "OWN" "[I") (.int 19)) (.int (0))) (by decide +kernel))
  | 20, _ => exact va_eqt (hs (.eq (.elem (.static "LawfulSums$Payments" "OWN" "[I") (.int 20)) (.int (60))) (by decide +kernel))
  | 21, _ => exact va_eqt (hs (.eq (.elem (.static "LawfulSums$Payments" "OWN" "[I") (.int 21)) (.int (0))) (by decide +kernel))
  | 22, _ => exact va_eqt (hs (.eq (.elem (.static "LawfulSums$Payments" "OWN" "[I") (.int 22)) (.int (0))) (by decide +kernel))
  | 23, _ => exact va_eqt (hs (.eq (.elem (.static "LawfulSums$Payments" "OWN" "[I") (.int 23)) (.int (0))) (by decide +kernel))
  | 24, _ => exact va_eqt (hs (.eq (.elem (.static "LawfulSums$Payments" "OWN" "[I") (.int 24)) (.int (0))) (by decide +kernel))
  | 25, _ => exact va_eqt (hs (.eq (.elem (.static "LawfulSums$Payments" "OWN" "[I") (.int 25)) (.int (0))) (by decide +kernel))
  | 26, _ => exact va_eqt (hs (.eq (.elem (.static "LawfulSums$Payments" "OWN" "[I") (.int 26)) (.int (0))) (by decide +kernel))
  | 27, _ => exact va_eqt (hs (.eq (.elem (.static "LawfulSums$Payments" "OWN" "[I") (.int 27)) (.int (70))) (by decide +kernel))
  | 28, _ => exact va_eqt (hs (.eq (.elem (.static "LawfulSums$Payments" "OWN" "[I") (.int 28)) (.int (0))) (by decide +kernel))
  | 29, _ => exact va_eqt (hs (.eq (.elem (.static "LawfulSums$Payments" "OWN" "[I") (.int 29)) (.int (80))) (by decide +kernel))
  | 30, _ => exact va_eqt (hs (.eq (.elem (.static "LawfulSums$Payments" "OWN" "[I") (.int 30)) (.int (0))) (by decide +kernel))
  | 31, _ => exact va_eqt (hs (.eq (.elem (.static "LawfulSums$Payments" "OWN" "[I") (.int 31)) (.int (81))) (by decide +kernel))
  | n + 32, h => omega
theorem lw_sA {s : State} {b : Nat} (hgv : (Jvm.Cond.and given_1 narrow_1).before #[Value.ref b] s = true) : ∃ t : Nat, (Term.static "LawfulSums$Payments" "ABOVE" "[I").eval #[Value.ref b] s none [] s = some (.ref t) ∧ va_T .int t 8 (fun j => .int (vv_fA j)) (fun q => s.heap.size ≤ q) s s.heap := by
  have hs := flat_of_before _ hgv
  refine va_Tof (by omega) (hs (.arrayOf (.static "LawfulSums$Payments" "ABOVE" "[I") .int) (by decide +kernel)) (va_eqt (hs (.eq (.length (.static "LawfulSums$Payments" "ABOVE" "[I")) (.int 8)) (by decide +kernel))) (fun j hj => ?_) (fun a h => Nat.not_le.mpr h)
  match j, hj with
  | 0, _ => exact va_eqt (hs (.eq (.elem (.static "LawfulSums$Payments" "ABOVE" "[I") (.int 0)) (.int (-1))) (by decide +kernel))
  | 1, _ => exact va_eqt (hs (.eq (.elem (.static "LawfulSums$Payments" "ABOVE" "[I") (.int 1)) (.int (0))) (by decide +kernel))
  | 2, _ => exact va_eqt (hs (.eq (.elem (.static "LawfulSums$Payments" "ABOVE" "[I") (.int 2)) (.int (0))) (by decide +kernel))
  | 3, _ => exact va_eqt (hs (.eq (.elem (.static "LawfulSums$Payments" "ABOVE" "[I") (.int 3)) (.int (2))) (by decide +kernel))
  | 4, _ => exact va_eqt (hs (.eq (.elem (.static "LawfulSums$Payments" "ABOVE" "[I") (.int 4)) (.int (1))) (by decide +kernel))
  | 5, _ => exact va_eqt (hs (.eq (.elem (.static "LawfulSums$Payments" "ABOVE" "[I") (.int 5)) (.int (0))) (by decide +kernel))
  | 6, _ => exact va_eqt (hs (.eq (.elem (.static "LawfulSums$Payments" "ABOVE" "[I") (.int 6)) (.int (5))) (by decide +kernel))
  | 7, _ => exact va_eqt (hs (.eq (.elem (.static "LawfulSums$Payments" "ABOVE" "[I") (.int 7)) (.int (0))) (by decide +kernel))
  | n + 8, h => omega
theorem lw_nest {s : State} {b : Nat} (hts : ∀ w ∈ lw_tbl, w.before #[Value.ref b] s = true) : vv_N s := by
  intro w hw
  simp only [vv_nest, List.mem_cons, List.not_mem_nil, or_false] at hw
  rcases hw with e | e | e | e | e | e | e | e
  · subst e
    exact va_Nw.of rfl (hts _ (List.mem_of_getElem? (i := 191) (by decide +kernel)))
  · subst e
    exact va_Nw.of rfl (hts _ (List.mem_of_getElem? (i := 283) (by decide +kernel)))
  · subst e
    exact va_Nw.of rfl (hts _ (List.mem_of_getElem? (i := 308) (by decide +kernel)))
  · subst e
    exact va_Nw.of rfl (hts _ (List.mem_of_getElem? (i := 933) (by decide +kernel)))
  · subst e
    exact va_Nw.of rfl (hts _ (List.mem_of_getElem? (i := 544) (by decide +kernel)))
  · subst e
    exact va_Nw.of rfl (hts _ (List.mem_of_getElem? (i := 886) (by decide +kernel)))
  · subst e
    exact hts (Cond.arrayOver (.array .int)) (List.mem_of_getElem? (i := 144) (by decide +kernel))
  · subst e
    exact hts (Cond.arrayOver (.array .long)) (List.mem_of_getElem? (i := 335) (by decide +kernel))
theorem whole_of {p : Program} {e : Env} {s : State} {m : MethodId} {below : List Frame} {meth : Method} {c : Code} (l : Launch) (hflags : l.flags = flags0) {b L : Nat} {xs : Nat → Int32} (hN : NQ) (hL : L ≤ 3072) (C0 : lw_At p s m meth c b L xs) : W p l e room_1 s m #[Value.ref b] below meth c s.heap [] 0 0 (lw_Z below #[Value.ref b] s) (entryFrame m ([Value.ref b] : List Value).toArray 4) := by
  obtain ⟨hx, hb, hr, hml, hown, hts, hX, hbl, hlocks, hgv⟩ := C0
  have htw : ∀ w ∈ vv_Ws, w.before #[Value.ref b] s = true := fun w hw => hts w (List.mem_filter.mp hw).1
  obtain ⟨D, hD⟩ := Classical.axiomOfChoice (lw_kn htw)
  obtain ⟨cI, I1, I2⟩ := lw_arr (htw _ ac_I)
  obtain ⟨cJ, J1, J2⟩ := lw_arr (htw _ ac_J)
  obtain ⟨cZ, Z1, Z2⟩ := lw_arr (htw _ ac_Z)
  obtain ⟨cII, II1, II2⟩ := lw_arr2 (t := .int) (hts (Cond.arrayOver (.array .int)) (List.mem_of_getElem? (i := 144) (by decide +kernel)))
  obtain ⟨cJJ, JJ1, JJ2⟩ := lw_arr2 (t := .long) (hts (Cond.arrayOver (.array .long)) (List.mem_of_getElem? (i := 335) (by decide +kernel)))
  obtain ⟨tB, eB, TB⟩ := lw_sB hgv
  obtain ⟨tO, eO, TO⟩ := lw_sO hgv
  obtain ⟨tA, eA, TA⟩ := lw_sA hgv
  have hA : ∀ a : Nat, a < s.heap.size → ¬ (fun q => s.heap.size ≤ q) a := fun a h => Nat.not_le.mpr h
  have ZB := va_Zref (A := fun q => s.heap.size ≤ q) (hts _ (List.mem_of_getElem? (i := 428) (by decide +kernel))) (htw _ in_LawfulSums_Numbers) eB hA
  have ZO := va_Zref (A := fun q => s.heap.size ≤ q) (hts _ (List.mem_of_getElem? (i := 942) (by decide +kernel))) (htw _ in_LawfulSums_Payments) eO hA
  have ZA := va_Zref (A := fun q => s.heap.size ≤ q) (hts _ (List.mem_of_getElem? (i := 944) (by decide +kernel))) (htw _ in_LawfulSums_Payments) eA hA
  obtain ⟨g, hg⟩ : ∃ g : vv_G, g = (l, ((fun k => (D k).1), fun k => (D k).2), s.heap.size, (cI, cJ, cZ, cII, cJJ), (tB, tO, tA), true) := ⟨_, rfl⟩
  have hW : vv_W g [] s s.heap := by
    subst hg
    refine ⟨⟨Nat.le_refl _, fun _ => rfl⟩, fun k q hk => by simp [vv_ws, vv_from] at hk, ⟨fun k q hq => hD k q hq, fun k q hk => ?_⟩, ZB, ZO, ZA, TB, TO, TA⟩
    match k, hk with
    | 0, hk => cases hk; exact ⟨I1, I2⟩
    | 1, hk => cases hk; exact ⟨J1, J2⟩
    | 2, hk => cases hk; exact ⟨Z1, Z2⟩
    | 3, hk => cases hk; exact ⟨II1, II2⟩
    | 4, hk => cases hk; exact ⟨JJ1, JJ2⟩
    | k + 5, hk => simp at hk
  have key := lw_begin (g := g) (x := (p, e, room_1, s, m, #[Value.ref b], below, meth, c, lw_Z below #[Value.ref b] s)) (nm := meth.name) (b := b) (L := L) (xs := xs) hL (by rw [hg]) hN ⟨hx, hb, hml, hr, hlocks, hown, rfl, htw, by rw [hg]; exact Nat.le_refl _, lw_nest hts, rfl⟩ ⟨hX, hbl, by rw [hg]; exact hbl⟩ ⟨rfl, rfl, rfl, by rw [hg]⟩
  have hgl : vv_l g = l := by rw [hg]
  rw [lg_entry_eq]
  have k2 := key s.heap [] _ va_S.rf hW (vv_entry (as := [.ref b]) (nL := 4) (Nat.le_of_ble_eq_true rfl))
  rw [hgl] at k2
  exact k2
