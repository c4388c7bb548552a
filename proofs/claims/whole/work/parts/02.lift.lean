/-! THE LIFTED JUDGEMENT. A state of a method: pc, locals (a list), stack, and the heap as a list h of cells that lie at b, b + 1, .. (b: the heap's size as the law began). -/
abbrev vv_G : Type := Launch × va_G × Nat × (ClassId × ClassId × ClassId × ClassId × ClassId) × (Nat × Nat × Nat) × Bool
abbrev vv_l (g : vv_G) : Launch := g.1
abbrev vv_D (g : vv_G) : va_G := g.2.1
abbrev vv_b (g : vv_G) : Nat := g.2.2.1
abbrev vv_cI (g : vv_G) : ClassId := g.2.2.2.1.1
abbrev vv_cJ (g : vv_G) : ClassId := g.2.2.2.1.2.1
abbrev vv_cZ (g : vv_G) : ClassId := g.2.2.2.1.2.2.1
abbrev vv_cII (g : vv_G) : ClassId := g.2.2.2.1.2.2.2.1
abbrev vv_cJJ (g : vv_G) : ClassId := g.2.2.2.1.2.2.2.2
abbrev vv_tys (g : vv_G) : List (ClassId × FieldType) := [(vv_cI g, .int), (vv_cJ g, .long), (vv_cZ g, .boolean), (vv_cII g, .array .int), (vv_cJJ g, .array .long)]
def vv_A (g : vv_G) : Nat → Prop := fun q => vv_b g ≤ q
/-- a reference to the i-th cell -/
def vv_r0 (g : vv_G) (i : Nat) : Value := .ref (vv_b g + i)
def vv_from (b : Nat) : Nat → List va_E → va_W
  | _, [] => []
  | i, x :: t => (b + i, x) :: vv_from b (i + 1) t
def vv_ws (g : vv_G) (h : List va_E) : va_W := vv_from (vv_b g) 0 h
theorem vv_from_get {b : Nat} : ∀ (h : List va_E) (i j : Nat), (vv_from b i h)[j]? = (h[j]?).map (fun x => (b + (i + j), x))
  | [], _, _ => by simp [vv_from]
  | x :: t, i, 0 => by simp [vv_from]
  | x :: t, i, j + 1 => by
    show (vv_from b (i + 1) t)[j]? = (t[j]?).map _
    rw [vv_from_get t (i + 1) j]
    rw [show i + 1 + j = i + (j + 1) by omega]
theorem vv_from_set {b : Nat} : ∀ (h : List va_E) (i j : Nat) (x : va_E), (vv_from b i h).set j (b + (i + j), x) = vv_from b i (h.set j x)
  | [], _, _, _ => rfl
  | y :: t, i, 0, x => rfl
  | y :: t, i, j + 1, x => by
    show (b + i, y) :: (vv_from b (i + 1) t).set j _ = (b + i, y) :: vv_from b (i + 1) (t.set j x)
    rw [← vv_from_set t (i + 1) j x, show i + 1 + j = i + (j + 1) by omega]
theorem vv_from_push {b : Nat} (x : va_E) : ∀ (h : List va_E) (i : Nat), vv_from b i h ++ [(b + (i + h.length), x)] = vv_from b i (h ++ [x])
  | [], i => by simp [vv_from]
  | y :: t, i => by
    show (b + i, y) :: (vv_from b (i + 1) t ++ _) = (b + i, y) :: vv_from b (i + 1) (t ++ [x])
    rw [← vv_from_push x t (i + 1)]
    rw [show i + 1 + t.length = i + (y :: t).length by simp; omega]
theorem vv_ws_get {g : vv_G} {h : List va_E} {i : Nat} {x : va_E} (hx : h[i]? = some x) : (vv_ws g h)[i]? = some (vv_b g + i, x) := by
  unfold vv_ws
  rw [vv_from_get, hx]
  simp
theorem vv_ws_set {g : vv_G} {h : List va_E} {i : Nat} {x : va_E} : (vv_ws g h).set i (vv_b g + i, x) = vv_ws g (h.set i x) := by
  have q := vv_from_set (b := vv_b g) h 0 i x
  rw [Nat.zero_add] at q
  exact q
theorem vv_ws_push {g : vv_G} {h : List va_E} {x : va_E} : vv_ws g h ++ [(vv_b g + h.length, x)] = vv_ws g (h ++ [x]) := by
  have q := vv_from_push (b := vv_b g) x h 0
  rw [Nat.zero_add] at q
  exact q
theorem vv_ws_D (g : vv_G) (h : List va_E) : va_D (vv_A g) (vv_ws g h) := by
  refine ⟨fun i j p q hi hj hpq => ?_, fun k q hk => ?_⟩
  · unfold vv_ws at hi hj
    rw [vv_from_get] at hi hj
    cases h1 : h[i]? with
    | none => rw [h1] at hi; cases hi
    | some x =>
      cases h2 : h[j]? with
      | none => rw [h2] at hj; cases hj
      | some y =>
        rw [h1] at hi
        rw [h2] at hj
        cases hi
        cases hj
        have q : vv_b g + (0 + i) = vv_b g + (0 + j) := hpq
        omega
  · unfold vv_ws at hk
    rw [vv_from_get] at hk
    cases h1 : h[k]? with
    | none => rw [h1] at hk; cases hk
    | some x =>
      rw [h1] at hk
      cases hk
      show vv_b g ≤ vv_b g + (0 + k)
      omega
/-! the three static arrays -/
def vv_fB : Nat → Int32 := fun j => [2, 3, 5, 7, 11, 13].getD j 0
def vv_fA : Nat → Int32 := fun j => [-1, 0, 0, 2, 1, 0, 5, 0].getD j 0
def vv_fO : Nat → Int32 := fun j => [1, 10, 11, 2, 20, 0, 0, 0, 0, 30, 0, 0, 0, 41, 40, 0, 0, 0, 50, 0, 60, 0, 0, 0, 0, 0, 0, 70, 0, 80, 0, 81].getD j 0
abbrev vv_aB (g : vv_G) : Nat := g.2.2.2.2.1.1
abbrev vv_aO (g : vv_G) : Nat := g.2.2.2.2.1.2.1
abbrev vv_aA (g : vv_G) : Nat := g.2.2.2.2.1.2.2
/-- whether the heap's size is still told (while the objects are made) -/
abbrev vv_fl (g : vv_G) : Bool := g.2.2.2.2.2
def vv_st (g : vv_G) : va_W := [(vv_aB g, .inl (vv_cI g, 6, .inl vv_fB)), (vv_aO g, .inl (vv_cI g, 32, .inl vv_fO)), (vv_aA g, .inl (vv_cI g, 8, .inl vv_fA))]
def vv_Z (g : vv_G) (U : State) (H : Heap) : Prop := va_Z "LawfulSums$Numbers" "BASES" "[I" (.ref (vv_aB g)) (vv_A g) U H ∧ va_Z "LawfulSums$Payments" "OWN" "[I" (.ref (vv_aO g)) (vv_A g) U H ∧ va_Z "LawfulSums$Payments" "ABOVE" "[I" (.ref (vv_aA g)) (vv_A g) U H ∧ va_T .int (vv_aB g) 6 (fun j => .int (vv_fB j)) (vv_A g) U H ∧ va_T .int (vv_aO g) 32 (fun j => .int (vv_fO j)) (vv_A g) U H ∧ va_T .int (vv_aA g) 8 (fun j => .int (vv_fA j)) (vv_A g) U H
theorem vv_Z.moved {g : vv_G} {u U : State} {H : Heap} (hvm : u.vm.Alike U.vm) (h : vv_Z g u H) : vv_Z g U H := ⟨h.1.moved hvm, h.2.1.moved hvm, h.2.2.1.moved hvm, h.2.2.2.1.moved hvm, h.2.2.2.2.1.moved hvm, h.2.2.2.2.2.moved hvm⟩
theorem vv_Z.kept {g : vv_G} {U : State} {H H1 : Heap} (h : vv_Z g U H) (hs : ∀ q : Nat, q < H.size → ¬ vv_A g q → H1[q]? = H[q]?) : vv_Z g U H1 := ⟨h.1.kept hs, h.2.1.kept hs, h.2.2.1.kept hs, h.2.2.2.1.kept hs, h.2.2.2.2.1.kept hs, h.2.2.2.2.2.kept hs⟩
/-- the nest's private methods that are called across it -/
def vv_nest : List Cond := [.methodLinkNest "LawfulSums" 43 yX2_init "LawfulSums", .methodLinkNest "LawfulSums" 73 yX6_init "LawfulSums", .methodLinkNest "LawfulSums" 80 yX4_init "LawfulSums", .methodLinkNest "LawfulSums$Payments" 28 yX11_within "LawfulSums", .methodLinkNest "LawfulSums$Purse" 25 yX11_within "LawfulSums", .methodLinkNest "LawfulSums$Shelves" 34 yX11_within "LawfulSums", .arrayOver (.array .int), .arrayOver (.array .long)]
def vv_N (U : State) : Prop := ∀ w ∈ vv_nest, va_Nw w U
theorem vv_N.warm {s U : State} (hW : s.WarmedH U.vm) (h : vv_N s) : vv_N U := by
  intro w hw
  have h1 := h w hw
  simp only [vv_nest, List.mem_cons, List.not_mem_nil, or_false] at hw
  rcases hw with e | e | e | e | e | e | e | e <;> (subst e; first | exact h1.warmM hW | exact Stand.arrayOver_alikeB hW.alike h1)
/-- the world: the heap's size, the cells, the classes, the statics -/
def vv_W (g : vv_G) (h : List va_E) (U : State) (H : Heap) : Prop := (vv_b g ≤ H.size ∧ (vv_fl g = true → H.size = vv_b g + h.length)) ∧ va_P (vv_D g) vwCl (vv_ws g h) H ∧ va_K (vv_D g) vwCl (vv_tys g) U ∧ vv_Z g U H
theorem vv_W.moved {g : vv_G} {h : List va_E} {u U : State} {H : Heap} (hvm : u.vm.Alike U.vm) (q : vv_W g h u H) : vv_W g h U H := ⟨q.1, q.2.1, va_K.moved hvm q.2.2.1, q.2.2.2.moved hvm⟩
abbrev vv_X : Type := Program × Env × Room × State × MethodId × Array Value × List Frame × Method × Code × (State → Prop)
def vv_pr : Nat → List (Option Value) → List (Nat × Value)
  | _, [] => []
  | i, none :: t => vv_pr (i + 1) t
  | i, some v :: t => (i, v) :: vv_pr (i + 1) t
theorem vv_pr_mem : ∀ (lv : List (Option Value)) (i : Nat) (q : Nat × Value), q ∈ vv_pr i lv ↔ i ≤ q.1 ∧ lv[q.1 - i]? = some (some q.2)
  | [], i, q => by simp [vv_pr]
  | none :: t, i, q => by
    show q ∈ vv_pr (i + 1) t ↔ _
    rw [vv_pr_mem t (i + 1) q]
    constructor
    · rintro ⟨h1, h2⟩
      refine ⟨by omega, ?_⟩
      rw [show q.1 - i = (q.1 - (i + 1)) + 1 by omega]
      exact h2
    · rintro ⟨h1, h2⟩
      by_cases e : q.1 = i
      · rw [e, Nat.sub_self] at h2
        cases h2
      · rw [show q.1 - i = (q.1 - (i + 1)) + 1 by omega] at h2
        exact ⟨by omega, h2⟩
  | some v :: t, i, q => by
    show q ∈ (i, v) :: vv_pr (i + 1) t ↔ _
    rw [List.mem_cons, vv_pr_mem t (i + 1) q]
    constructor
    · rintro (h | ⟨h1, h2⟩)
      · subst h
        refine ⟨Nat.le_refl _, ?_⟩
        show (some v :: t)[i - i]? = _
        rw [Nat.sub_self]
        rfl
      · refine ⟨by omega, ?_⟩
        rw [show q.1 - i = (q.1 - (i + 1)) + 1 by omega]
        exact h2
    · rintro ⟨h1, h2⟩
      by_cases e : q.1 = i
      · rw [e, Nat.sub_self] at h2
        left
        have h3 : some (some v) = some (some q.2) := h2
        cases q
        cases h3
        simp only at e
        rw [e]
      · rw [show q.1 - i = (q.1 - (i + 1)) + 1 by omega] at h2
        exact Or.inr ⟨by omega, h2⟩
/-- the locals: as the list has them -/
def vv_ok (ls : Array Slot) (nL : Nat) (lv : List (Option Value)) : Prop := lv_has ls nL (vv_pr 0 lv)
theorem vv_at {ls : Array Slot} {nL : Nat} {lv : List (Option Value)} (h : vv_ok ls nL lv) {i : Nat} {v : Value} (hi : lv[i]? = some (some v)) : ls[i]? = some (.val v) := h.2.2 (i, v) ((vv_pr_mem lv 0 (i, v)).mpr ⟨Nat.zero_le _, hi⟩)
theorem vv_sub {ls : Array Slot} {nL : Nat} {l : List (Nat × Value)} {lv : List (Option Value)} (h : lv_has ls nL l) (hs : ∀ (i : Nat) (v : Value), lv[i]? = some (some v) → (i, v) ∈ l) : vv_ok ls nL lv := ⟨h.1, h.2.1, fun q hq => h.2.2 q (hs q.1 q.2 ((vv_pr_mem lv 0 q).mp hq).2)⟩
/-- ahead of place i stands no long -/
def vv_c1 : Option (Option Value) → Bool
  | some (some (.long _)) => false
  | some (some (.double _)) => false
  | _ => true
theorem vv_c1_cat {v : Value} (h : vv_c1 (some (some v)) = true) : ¬ v.category = 2 := by
  cases v <;> simp_all [vv_c1, Value.category]
def vv_prev (lv : List (Option Value)) (i : Nat) : Option (Option Value) := match i with
  | 0 => none
  | i + 1 => lv[i]?
theorem vv_set1 {ls : Array Slot} {nL i : Nat} {lv : List (Option Value)} {x : Value} {l' : List (Nat × Value)} (hl : (i, x) :: (vv_pr 0 lv).filter (fun q => !(q.1 == i) && !(q.1 + 1 == i && q.2.category == 2)) = l') (hc : vv_c1 (vv_prev lv i) = true) (h : lv_has ls nL l') : vv_ok ls nL (lv.set i (some x)) := by
  refine vv_sub h (fun j v hj => ?_)
  subst hl
  by_cases e : j = i
  · subst e
    rw [List.getElem?_set] at hj
    simp only [if_true] at hj
    split at hj
    · cases hj
      exact List.mem_cons_self
    · cases hj
  · rw [List.getElem?_set_ne (fun q => e q.symm)] at hj
    refine List.mem_cons_of_mem _ (List.mem_filter.mpr ⟨(vv_pr_mem lv 0 (j, v)).mpr ⟨Nat.zero_le _, hj⟩, ?_⟩)
    simp only [Bool.and_eq_true, Bool.not_eq_true', beq_eq_false_iff_ne, ne_eq, Bool.and_eq_false_iff]
    refine ⟨e, ?_⟩
    by_cases e2 : j + 1 = i
    · right
      subst e2
      have hc : vv_c1 lv[j]? = true := hc
      rw [hj] at hc
      exact vv_c1_cat hc
    · exact Or.inl e2
theorem vv_set2 {ls : Array Slot} {nL i : Nat} {lv : List (Option Value)} {x : Value} {l' : List (Nat × Value)} (hl : (i, x) :: (vv_pr 0 lv).filter (fun q => !(q.1 == i) && (!(q.1 == i + 1) && !(q.1 + 1 == i && q.2.category == 2))) = l') (hc : vv_c1 (vv_prev lv i) = true) (h : lv_has ls nL l') : vv_ok ls nL ((lv.set i (some x)).set (i + 1) none) := by
  refine vv_sub h (fun j v hj => ?_)
  subst hl
  by_cases e1 : j = i + 1
  · subst e1
    rw [List.getElem?_set] at hj
    simp only [if_true] at hj
    split at hj <;> cases hj
  · rw [List.getElem?_set_ne (fun q => e1 q.symm)] at hj
    by_cases e : j = i
    · subst e
      rw [List.getElem?_set] at hj
      simp only [if_true] at hj
      split at hj
      · cases hj
        exact List.mem_cons_self
      · cases hj
    · rw [List.getElem?_set_ne (fun q => e q.symm)] at hj
      refine List.mem_cons_of_mem _ (List.mem_filter.mpr ⟨(vv_pr_mem lv 0 (j, v)).mpr ⟨Nat.zero_le _, hj⟩, ?_⟩)
      simp only [Bool.and_eq_true, Bool.not_eq_true', beq_eq_false_iff_ne, ne_eq, Bool.and_eq_false_iff]
      refine ⟨e, e1, ?_⟩
      by_cases e2 : j + 1 = i
      · right
        subst e2
        have hc : vv_c1 lv[j]? = true := hc
        rw [hj] at hc
        exact vv_c1_cat hc
      · exact Or.inl e2
/-- THE JUDGEMENT: from here on, whatever the machine's heap and locals are as long as they are pictured so, the goal is reached -/
def vv_V (g : vv_G) (x : vv_X) (nL k n pc : Nat) (lv : List (Option Value)) (st : List Value) (h : List va_E) : Prop := match x with
  | (p, e, R, s, m, args, below, meth, c, Q) => ∀ (H : Heap) (locs : List Loc) (ls : Array Slot), va_S (vv_A g) s.heap H locs → vv_W g h s H → vv_ok ls nL lv → W p (vv_l g) e R s m args below meth c H locs k n Q (F0 m pc ls st)
/-- a method's own: its class, name, code, locals, answer's type, words -/
def vv_C (g : vv_G) (own nm : String) (cc : ByteArray) (nL : Nat) (ret : Option FieldType) (R0 : Room) (x : vv_X) : Prop := match x with
  | (p, _, R, s, m, args, _, meth, c, _) => p.tables.exec = Jvm.exec ∧ c.code = cc ∧ c.maxLocals = nL ∧ meth.sig.returnType = ret ∧ meth.locks = false ∧ s.vm.findClass own = some m.cls ∧ meth.name = nm ∧ (∀ w ∈ vv_Ws, w.before args s = true) ∧ vv_b g ≤ s.heap.size ∧ vv_N s ∧ R = R0

theorem vv_iconst {g : vv_G} {x : vv_X} {own nm : String} {cc : ByteArray} {nL k n pc : Nat} {ret : Option FieldType} {R0 : Room} {lv : List (Option Value)} {st : List Value} {h : List va_E} {i : Int} {v : Int32} (C : vv_C g own nm cc nL ret R0 x) (d : decode cc pc = .ok (.iconst i, 1)) (hv : Int32.ofInt i = v) (kk : vv_V g x nL k n (pc + 1) lv (.int v :: st) h) : vv_V g x nL k n (pc) lv (st) h := by
  obtain ⟨p, e, R, s, m, args, below, meth, c, Q⟩ := x
  intro H locs ls hS hW hl
  exact lv_iconst C.1 C.2.1 d hv (kk H locs ls hS hW hl)
theorem vv_bipush {g : vv_G} {x : vv_X} {own nm : String} {cc : ByteArray} {nL k n pc : Nat} {ret : Option FieldType} {R0 : Room} {lv : List (Option Value)} {st : List Value} {h : List va_E} {i : Int} {v : Int32} (C : vv_C g own nm cc nL ret R0 x) (d : decode cc pc = .ok (.bipush i, 2)) (hv : (Int8.ofInt i).toInt32 = v) (kk : vv_V g x nL k n (pc + 2) lv (.int v :: st) h) : vv_V g x nL k n (pc) lv (st) h := by
  obtain ⟨p, e, R, s, m, args, below, meth, c, Q⟩ := x
  intro H locs ls hS hW hl
  exact lv_bipush C.1 C.2.1 d hv (kk H locs ls hS hW hl)
theorem vv_sipush {g : vv_G} {x : vv_X} {own nm : String} {cc : ByteArray} {nL k n pc : Nat} {ret : Option FieldType} {R0 : Room} {lv : List (Option Value)} {st : List Value} {h : List va_E} {i : Int} {v : Int32} (C : vv_C g own nm cc nL ret R0 x) (d : decode cc pc = .ok (.sipush i, 3)) (hv : (Int16.ofInt i).toInt32 = v) (kk : vv_V g x nL k n (pc + 3) lv (.int v :: st) h) : vv_V g x nL k n (pc) lv (st) h := by
  obtain ⟨p, e, R, s, m, args, below, meth, c, Q⟩ := x
  intro H locs ls hS hW hl
  exact lv_sipush C.1 C.2.1 d hv (kk H locs ls hS hW hl)
theorem vv_lconst {g : vv_G} {x : vv_X} {own nm : String} {cc : ByteArray} {nL k n pc : Nat} {ret : Option FieldType} {R0 : Room} {lv : List (Option Value)} {st : List Value} {h : List va_E} {i : Fin 2} {v : Int64} (C : vv_C g own nm cc nL ret R0 x) (d : decode cc pc = .ok (.lconst i, 1)) (hv : Int64.ofNat (i : Nat) = v) (kk : vv_V g x nL k n (pc + 1) lv (.long v :: st) h) : vv_V g x nL k n (pc) lv (st) h := by
  obtain ⟨p, e, R, s, m, args, below, meth, c, Q⟩ := x
  intro H locs ls hS hW hl
  exact lv_lconst C.1 C.2.1 d hv (kk H locs ls hS hW hl)
theorem vv_ldc {g : vv_G} {x : vv_X} {own nm : String} {cc : ByteArray} {nL k n pc : Nat} {ret : Option FieldType} {R0 : Room} {lv : List (Option Value)} {st : List Value} {h : List va_E} {i : Nat} {v : Int32} (C : vv_C g own nm cc nL ret R0 x) (d : decode cc pc = .ok (.ldc i, 2)) (hw : Cond.constant own i v ∈ vv_Ws) (kk : vv_V g x nL k n (pc + 2) lv (.int v :: st) h) : vv_V g x nL k n (pc) lv (st) h := by
  obtain ⟨p, e, R, s, m, args, below, meth, c, Q⟩ := x
  intro H locs ls hS hW hl
  exact lv_ldc C.1 C.2.1 C.2.2.2.2.2.1 (C.2.2.2.2.2.2.2.1 _ hw) d (kk H locs ls hS hW hl)
theorem vv_ldc2 {g : vv_G} {x : vv_X} {own nm : String} {cc : ByteArray} {nL k n pc : Nat} {ret : Option FieldType} {R0 : Room} {lv : List (Option Value)} {st : List Value} {h : List va_E} {i : Nat} {v : Int64} (C : vv_C g own nm cc nL ret R0 x) (d : decode cc pc = .ok (.ldc2_w i, 3)) (hw : Cond.constantLong own i v ∈ vv_Ws) (kk : vv_V g x nL k n (pc + 3) lv (.long v :: st) h) : vv_V g x nL k n (pc) lv (st) h := by
  obtain ⟨p, e, R, s, m, args, below, meth, c, Q⟩ := x
  intro H locs ls hS hW hl
  exact lv_ldc2 C.1 C.2.1 C.2.2.2.2.2.1 (C.2.2.2.2.2.2.2.1 _ hw) d (kk H locs ls hS hW hl)
theorem vv_iload_n {g : vv_G} {x : vv_X} {own nm : String} {cc : ByteArray} {nL k n pc : Nat} {ret : Option FieldType} {R0 : Room} {lv : List (Option Value)} {st : List Value} {h : List va_E} {q : Fin 4} {v : Int32} (C : vv_C g own nm cc nL ret R0 x) (d : decode cc pc = .ok (.iload_n q, 1)) (hv : lv[(q : Nat)]? = some (some (.int v))) (kk : vv_V g x nL k n (pc + 1) lv (.int v :: st) h) : vv_V g x nL k n (pc) lv (st) h := by
  obtain ⟨p, e, R, s, m, args, below, meth, c, Q⟩ := x
  intro H locs ls hS hW hl
  exact lv_iload_n C.1 C.2.1 d rfl (vv_at hl hv) (kk H locs ls hS hW hl)
theorem vv_iload {g : vv_G} {x : vv_X} {own nm : String} {cc : ByteArray} {nL k n pc : Nat} {ret : Option FieldType} {R0 : Room} {lv : List (Option Value)} {st : List Value} {h : List va_E} {i : Nat} {v : Int32} (C : vv_C g own nm cc nL ret R0 x) (d : decode cc pc = .ok (.iload i, 2)) (hv : lv[i]? = some (some (.int v))) (kk : vv_V g x nL k n (pc + 2) lv (.int v :: st) h) : vv_V g x nL k n (pc) lv (st) h := by
  obtain ⟨p, e, R, s, m, args, below, meth, c, Q⟩ := x
  intro H locs ls hS hW hl
  exact lv_iload C.1 C.2.1 d (vv_at hl hv) (kk H locs ls hS hW hl)
theorem vv_lload_n {g : vv_G} {x : vv_X} {own nm : String} {cc : ByteArray} {nL k n pc : Nat} {ret : Option FieldType} {R0 : Room} {lv : List (Option Value)} {st : List Value} {h : List va_E} {q : Fin 4} {v : Int64} (C : vv_C g own nm cc nL ret R0 x) (d : decode cc pc = .ok (.lload_n q, 1)) (hv : lv[(q : Nat)]? = some (some (.long v))) (kk : vv_V g x nL k n (pc + 1) lv (.long v :: st) h) : vv_V g x nL k n (pc) lv (st) h := by
  obtain ⟨p, e, R, s, m, args, below, meth, c, Q⟩ := x
  intro H locs ls hS hW hl
  exact lv_lload_n C.1 C.2.1 d rfl (vv_at hl hv) (kk H locs ls hS hW hl)
theorem vv_lload {g : vv_G} {x : vv_X} {own nm : String} {cc : ByteArray} {nL k n pc : Nat} {ret : Option FieldType} {R0 : Room} {lv : List (Option Value)} {st : List Value} {h : List va_E} {i : Nat} {v : Int64} (C : vv_C g own nm cc nL ret R0 x) (d : decode cc pc = .ok (.lload i, 2)) (hv : lv[i]? = some (some (.long v))) (kk : vv_V g x nL k n (pc + 2) lv (.long v :: st) h) : vv_V g x nL k n (pc) lv (st) h := by
  obtain ⟨p, e, R, s, m, args, below, meth, c, Q⟩ := x
  intro H locs ls hS hW hl
  exact lv_lload C.1 C.2.1 d (vv_at hl hv) (kk H locs ls hS hW hl)
theorem vv_aload_n0 {g : vv_G} {x : vv_X} {own nm : String} {cc : ByteArray} {nL k n pc : Nat} {ret : Option FieldType} {R0 : Room} {lv : List (Option Value)} {st : List Value} {h : List va_E} {q : Fin 4} {v : Nat} (C : vv_C g own nm cc nL ret R0 x) (d : decode cc pc = .ok (.aload_n q, 1)) (hv : lv[(q : Nat)]? = some (some (vv_r0 g v))) (kk : vv_V g x nL k n (pc + 1) lv (vv_r0 g v :: st) h) : vv_V g x nL k n (pc) lv (st) h := by
  obtain ⟨p, e, R, s, m, args, below, meth, c, Q⟩ := x
  intro H locs ls hS hW hl
  exact lv_aload_n C.1 C.2.1 d rfl (vv_at hl hv) (kk H locs ls hS hW hl)
theorem vv_aload0 {g : vv_G} {x : vv_X} {own nm : String} {cc : ByteArray} {nL k n pc : Nat} {ret : Option FieldType} {R0 : Room} {lv : List (Option Value)} {st : List Value} {h : List va_E} {i : Nat} {v : Nat} (C : vv_C g own nm cc nL ret R0 x) (d : decode cc pc = .ok (.aload i, 2)) (hv : lv[i]? = some (some (vv_r0 g v))) (kk : vv_V g x nL k n (pc + 2) lv (vv_r0 g v :: st) h) : vv_V g x nL k n (pc) lv (st) h := by
  obtain ⟨p, e, R, s, m, args, below, meth, c, Q⟩ := x
  intro H locs ls hS hW hl
  exact lv_aload C.1 C.2.1 d (vv_at hl hv) (kk H locs ls hS hW hl)
theorem vv_aload_nR {g : vv_G} {x : vv_X} {own nm : String} {cc : ByteArray} {nL k n pc : Nat} {ret : Option FieldType} {R0 : Room} {lv : List (Option Value)} {st : List Value} {h : List va_E} {q : Fin 4} {v : Nat} (C : vv_C g own nm cc nL ret R0 x) (d : decode cc pc = .ok (.aload_n q, 1)) (hv : lv[(q : Nat)]? = some (some (.ref v))) (kk : vv_V g x nL k n (pc + 1) lv (.ref v :: st) h) : vv_V g x nL k n (pc) lv (st) h := by
  obtain ⟨p, e, R, s, m, args, below, meth, c, Q⟩ := x
  intro H locs ls hS hW hl
  exact lv_aload_n C.1 C.2.1 d rfl (vv_at hl hv) (kk H locs ls hS hW hl)
theorem vv_aloadR {g : vv_G} {x : vv_X} {own nm : String} {cc : ByteArray} {nL k n pc : Nat} {ret : Option FieldType} {R0 : Room} {lv : List (Option Value)} {st : List Value} {h : List va_E} {i : Nat} {v : Nat} (C : vv_C g own nm cc nL ret R0 x) (d : decode cc pc = .ok (.aload i, 2)) (hv : lv[i]? = some (some (.ref v))) (kk : vv_V g x nL k n (pc + 2) lv (.ref v :: st) h) : vv_V g x nL k n (pc) lv (st) h := by
  obtain ⟨p, e, R, s, m, args, below, meth, c, Q⟩ := x
  intro H locs ls hS hW hl
  exact lv_aload C.1 C.2.1 d (vv_at hl hv) (kk H locs ls hS hW hl)
theorem vv_istore_n {g : vv_G} {x : vv_X} {own nm : String} {cc : ByteArray} {nL k n pc : Nat} {ret : Option FieldType} {R0 : Room} {lv : List (Option Value)} {st : List Value} {h : List va_E} {q : Fin 4} {v : Int32} (C : vv_C g own nm cc nL ret R0 x) (d : decode cc pc = .ok (.istore_n q, 1)) (hn : (q : Nat) < nL) (hc : vv_c1 (vv_prev lv (q : Nat)) = true) (kk : vv_V g x nL k n (pc + 1) (lv.set (q : Nat) (some (.int v))) (st) h) : vv_V g x nL k n (pc) lv (.int v :: st) h := by
  obtain ⟨p, e, R, s, m, args, below, meth, c, Q⟩ := x
  intro H locs ls hS hW hl
  exact lv_istore_n C.1 C.2.1 d rfl hl hn rfl (fun ls9 hl9 => kk H locs ls9 hS hW (vv_set1 rfl hc hl9))
theorem vv_istore {g : vv_G} {x : vv_X} {own nm : String} {cc : ByteArray} {nL k n pc : Nat} {ret : Option FieldType} {R0 : Room} {lv : List (Option Value)} {st : List Value} {h : List va_E} {i : Nat} {v : Int32} (C : vv_C g own nm cc nL ret R0 x) (d : decode cc pc = .ok (.istore i, 2)) (hn : i < nL) (hc : vv_c1 (vv_prev lv i) = true) (kk : vv_V g x nL k n (pc + 2) (lv.set i (some (.int v))) (st) h) : vv_V g x nL k n (pc) lv (.int v :: st) h := by
  obtain ⟨p, e, R, s, m, args, below, meth, c, Q⟩ := x
  intro H locs ls hS hW hl
  exact lv_istore C.1 C.2.1 d hl hn rfl (fun ls9 hl9 => kk H locs ls9 hS hW (vv_set1 rfl hc hl9))
theorem vv_astore_n0 {g : vv_G} {x : vv_X} {own nm : String} {cc : ByteArray} {nL k n pc : Nat} {ret : Option FieldType} {R0 : Room} {lv : List (Option Value)} {st : List Value} {h : List va_E} {q : Fin 4} {v : Nat} (C : vv_C g own nm cc nL ret R0 x) (d : decode cc pc = .ok (.astore_n q, 1)) (hn : (q : Nat) < nL) (hc : vv_c1 (vv_prev lv (q : Nat)) = true) (kk : vv_V g x nL k n (pc + 1) (lv.set (q : Nat) (some (vv_r0 g v))) (st) h) : vv_V g x nL k n (pc) lv (vv_r0 g v :: st) h := by
  obtain ⟨p, e, R, s, m, args, below, meth, c, Q⟩ := x
  intro H locs ls hS hW hl
  exact lv_astore_n C.1 C.2.1 d rfl hl hn rfl (fun ls9 hl9 => kk H locs ls9 hS hW (vv_set1 rfl hc hl9))
theorem vv_astore0 {g : vv_G} {x : vv_X} {own nm : String} {cc : ByteArray} {nL k n pc : Nat} {ret : Option FieldType} {R0 : Room} {lv : List (Option Value)} {st : List Value} {h : List va_E} {i : Nat} {v : Nat} (C : vv_C g own nm cc nL ret R0 x) (d : decode cc pc = .ok (.astore i, 2)) (hn : i < nL) (hc : vv_c1 (vv_prev lv i) = true) (kk : vv_V g x nL k n (pc + 2) (lv.set i (some (vv_r0 g v))) (st) h) : vv_V g x nL k n (pc) lv (vv_r0 g v :: st) h := by
  obtain ⟨p, e, R, s, m, args, below, meth, c, Q⟩ := x
  intro H locs ls hS hW hl
  exact lv_astore C.1 C.2.1 d hl hn rfl (fun ls9 hl9 => kk H locs ls9 hS hW (vv_set1 rfl hc hl9))
theorem vv_astore_nR {g : vv_G} {x : vv_X} {own nm : String} {cc : ByteArray} {nL k n pc : Nat} {ret : Option FieldType} {R0 : Room} {lv : List (Option Value)} {st : List Value} {h : List va_E} {q : Fin 4} {v : Nat} (C : vv_C g own nm cc nL ret R0 x) (d : decode cc pc = .ok (.astore_n q, 1)) (hn : (q : Nat) < nL) (hc : vv_c1 (vv_prev lv (q : Nat)) = true) (kk : vv_V g x nL k n (pc + 1) (lv.set (q : Nat) (some (.ref v))) (st) h) : vv_V g x nL k n (pc) lv (.ref v :: st) h := by
  obtain ⟨p, e, R, s, m, args, below, meth, c, Q⟩ := x
  intro H locs ls hS hW hl
  exact lv_astore_n C.1 C.2.1 d rfl hl hn rfl (fun ls9 hl9 => kk H locs ls9 hS hW (vv_set1 rfl hc hl9))
theorem vv_astoreR {g : vv_G} {x : vv_X} {own nm : String} {cc : ByteArray} {nL k n pc : Nat} {ret : Option FieldType} {R0 : Room} {lv : List (Option Value)} {st : List Value} {h : List va_E} {i : Nat} {v : Nat} (C : vv_C g own nm cc nL ret R0 x) (d : decode cc pc = .ok (.astore i, 2)) (hn : i < nL) (hc : vv_c1 (vv_prev lv i) = true) (kk : vv_V g x nL k n (pc + 2) (lv.set i (some (.ref v))) (st) h) : vv_V g x nL k n (pc) lv (.ref v :: st) h := by
  obtain ⟨p, e, R, s, m, args, below, meth, c, Q⟩ := x
  intro H locs ls hS hW hl
  exact lv_astore C.1 C.2.1 d hl hn rfl (fun ls9 hl9 => kk H locs ls9 hS hW (vv_set1 rfl hc hl9))
theorem vv_lstore_n {g : vv_G} {x : vv_X} {own nm : String} {cc : ByteArray} {nL k n pc : Nat} {ret : Option FieldType} {R0 : Room} {lv : List (Option Value)} {st : List Value} {h : List va_E} {q : Fin 4} {v : Int64} (C : vv_C g own nm cc nL ret R0 x) (d : decode cc pc = .ok (.lstore_n q, 1)) (hn : (q : Nat) + 1 < nL) (hc : vv_c1 (vv_prev lv (q : Nat)) = true) (kk : vv_V g x nL k n (pc + 1) ((lv.set (q : Nat) (some (.long v))).set ((q : Nat) + 1) none) (st) h) : vv_V g x nL k n (pc) lv (.long v :: st) h := by
  obtain ⟨p, e, R, s, m, args, below, meth, c, Q⟩ := x
  intro H locs ls hS hW hl
  exact lv_lstore_n C.1 C.2.1 d rfl hl hn rfl (fun ls9 hl9 => kk H locs ls9 hS hW (vv_set2 rfl hc hl9))
theorem vv_lstore {g : vv_G} {x : vv_X} {own nm : String} {cc : ByteArray} {nL k n pc : Nat} {ret : Option FieldType} {R0 : Room} {lv : List (Option Value)} {st : List Value} {h : List va_E} {i : Nat} {v : Int64} (C : vv_C g own nm cc nL ret R0 x) (d : decode cc pc = .ok (.lstore i, 2)) (hn : i + 1 < nL) (hc : vv_c1 (vv_prev lv i) = true) (kk : vv_V g x nL k n (pc + 2) ((lv.set i (some (.long v))).set (i + 1) none) (st) h) : vv_V g x nL k n (pc) lv (.long v :: st) h := by
  obtain ⟨p, e, R, s, m, args, below, meth, c, Q⟩ := x
  intro H locs ls hS hW hl
  exact lv_lstore C.1 C.2.1 d hl hn rfl (fun ls9 hl9 => kk H locs ls9 hS hW (vv_set2 rfl hc hl9))
theorem vv_mem_at {lv : List (Option Value)} {i : Nat} {v : Value} (h : lv[i]? = some (some v)) : ∃ j : Nat, (vv_pr 0 lv)[j]? = some (i, v) := List.getElem?_of_mem ((vv_pr_mem lv 0 (i, v)).mpr ⟨Nat.zero_le _, h⟩)
theorem vv_iinc {g : vv_G} {x : vv_X} {own nm : String} {cc : ByteArray} {nL k n pc : Nat} {ret : Option FieldType} {R0 : Room} {lv : List (Option Value)} {st : List Value} {h : List va_E} {i : Nat} {z : Int} {v w : Int32} (C : vv_C g own nm cc nL ret R0 x) (d : decode cc pc = .ok (.iinc i z, 3)) (hv : lv[i]? = some (some (.int v))) (hz : v + Int32.ofInt z = w) (hn : i < nL) (hc : vv_c1 (vv_prev lv i) = true) (kk : vv_V g x nL k n (pc + 3) (lv.set i (some (.int w))) (st) h) : vv_V g x nL k n (pc) lv (st) h := by
  obtain ⟨p, e, R, s, m, args, below, meth, c, Q⟩ := x
  intro H locs ls hS hW hl
  obtain ⟨j, hj⟩ := vv_mem_at hv
  exact lv_iinc C.1 C.2.1 d hl hj hz hn rfl (fun ls9 hl9 => kk H locs ls9 hS hW (vv_set1 rfl hc hl9))
theorem vv_iadd {g : vv_G} {x : vv_X} {own nm : String} {cc : ByteArray} {nL k n pc : Nat} {ret : Option FieldType} {R0 : Room} {lv : List (Option Value)} {st : List Value} {h : List va_E} {v w : Int32} (C : vv_C g own nm cc nL ret R0 x) (d : decode cc pc = .ok (.iadd, 1))  (kk : vv_V g x nL k n (pc + 1) lv (.int (v + w) :: st) h) : vv_V g x nL k n (pc) lv (.int w :: .int v :: st) h := by
  obtain ⟨p, e, R, s, m, args, below, meth, c, Q⟩ := x
  intro H locs ls hS hW hl
  exact lv_iadd C.1 C.2.1 d  (kk H locs ls hS hW hl)
theorem vv_isub {g : vv_G} {x : vv_X} {own nm : String} {cc : ByteArray} {nL k n pc : Nat} {ret : Option FieldType} {R0 : Room} {lv : List (Option Value)} {st : List Value} {h : List va_E} {v w : Int32} (C : vv_C g own nm cc nL ret R0 x) (d : decode cc pc = .ok (.isub, 1))  (kk : vv_V g x nL k n (pc + 1) lv (.int (v - w) :: st) h) : vv_V g x nL k n (pc) lv (.int w :: .int v :: st) h := by
  obtain ⟨p, e, R, s, m, args, below, meth, c, Q⟩ := x
  intro H locs ls hS hW hl
  exact lv_isub C.1 C.2.1 d  (kk H locs ls hS hW hl)
theorem vv_imul {g : vv_G} {x : vv_X} {own nm : String} {cc : ByteArray} {nL k n pc : Nat} {ret : Option FieldType} {R0 : Room} {lv : List (Option Value)} {st : List Value} {h : List va_E} {v w : Int32} (C : vv_C g own nm cc nL ret R0 x) (d : decode cc pc = .ok (.imul, 1))  (kk : vv_V g x nL k n (pc + 1) lv (.int (v * w) :: st) h) : vv_V g x nL k n (pc) lv (.int w :: .int v :: st) h := by
  obtain ⟨p, e, R, s, m, args, below, meth, c, Q⟩ := x
  intro H locs ls hS hW hl
  exact lv_imul C.1 C.2.1 d  (kk H locs ls hS hW hl)
theorem vv_iand {g : vv_G} {x : vv_X} {own nm : String} {cc : ByteArray} {nL k n pc : Nat} {ret : Option FieldType} {R0 : Room} {lv : List (Option Value)} {st : List Value} {h : List va_E} {v w : Int32} (C : vv_C g own nm cc nL ret R0 x) (d : decode cc pc = .ok (.iand, 1))  (kk : vv_V g x nL k n (pc + 1) lv (.int (v &&& w) :: st) h) : vv_V g x nL k n (pc) lv (.int w :: .int v :: st) h := by
  obtain ⟨p, e, R, s, m, args, below, meth, c, Q⟩ := x
  intro H locs ls hS hW hl
  exact lv_iand C.1 C.2.1 d  (kk H locs ls hS hW hl)
theorem vv_ior {g : vv_G} {x : vv_X} {own nm : String} {cc : ByteArray} {nL k n pc : Nat} {ret : Option FieldType} {R0 : Room} {lv : List (Option Value)} {st : List Value} {h : List va_E} {v w : Int32} (C : vv_C g own nm cc nL ret R0 x) (d : decode cc pc = .ok (.ior, 1))  (kk : vv_V g x nL k n (pc + 1) lv (.int (v ||| w) :: st) h) : vv_V g x nL k n (pc) lv (.int w :: .int v :: st) h := by
  obtain ⟨p, e, R, s, m, args, below, meth, c, Q⟩ := x
  intro H locs ls hS hW hl
  exact lv_ior C.1 C.2.1 d  (kk H locs ls hS hW hl)
theorem vv_ixor {g : vv_G} {x : vv_X} {own nm : String} {cc : ByteArray} {nL k n pc : Nat} {ret : Option FieldType} {R0 : Room} {lv : List (Option Value)} {st : List Value} {h : List va_E} {v w : Int32} (C : vv_C g own nm cc nL ret R0 x) (d : decode cc pc = .ok (.ixor, 1))  (kk : vv_V g x nL k n (pc + 1) lv (.int (v ^^^ w) :: st) h) : vv_V g x nL k n (pc) lv (.int w :: .int v :: st) h := by
  obtain ⟨p, e, R, s, m, args, below, meth, c, Q⟩ := x
  intro H locs ls hS hW hl
  exact lv_ixor C.1 C.2.1 d  (kk H locs ls hS hW hl)
theorem vv_ladd {g : vv_G} {x : vv_X} {own nm : String} {cc : ByteArray} {nL k n pc : Nat} {ret : Option FieldType} {R0 : Room} {lv : List (Option Value)} {st : List Value} {h : List va_E} {v w : Int64} (C : vv_C g own nm cc nL ret R0 x) (d : decode cc pc = .ok (.ladd, 1))  (kk : vv_V g x nL k n (pc + 1) lv (.long (v + w) :: st) h) : vv_V g x nL k n (pc) lv (.long w :: .long v :: st) h := by
  obtain ⟨p, e, R, s, m, args, below, meth, c, Q⟩ := x
  intro H locs ls hS hW hl
  exact lv_ladd C.1 C.2.1 d  (kk H locs ls hS hW hl)
theorem vv_lsub {g : vv_G} {x : vv_X} {own nm : String} {cc : ByteArray} {nL k n pc : Nat} {ret : Option FieldType} {R0 : Room} {lv : List (Option Value)} {st : List Value} {h : List va_E} {v w : Int64} (C : vv_C g own nm cc nL ret R0 x) (d : decode cc pc = .ok (.lsub, 1))  (kk : vv_V g x nL k n (pc + 1) lv (.long (v - w) :: st) h) : vv_V g x nL k n (pc) lv (.long w :: .long v :: st) h := by
  obtain ⟨p, e, R, s, m, args, below, meth, c, Q⟩ := x
  intro H locs ls hS hW hl
  exact lv_lsub C.1 C.2.1 d  (kk H locs ls hS hW hl)
theorem vv_lmul {g : vv_G} {x : vv_X} {own nm : String} {cc : ByteArray} {nL k n pc : Nat} {ret : Option FieldType} {R0 : Room} {lv : List (Option Value)} {st : List Value} {h : List va_E} {v w : Int64} (C : vv_C g own nm cc nL ret R0 x) (d : decode cc pc = .ok (.lmul, 1))  (kk : vv_V g x nL k n (pc + 1) lv (.long (v * w) :: st) h) : vv_V g x nL k n (pc) lv (.long w :: .long v :: st) h := by
  obtain ⟨p, e, R, s, m, args, below, meth, c, Q⟩ := x
  intro H locs ls hS hW hl
  exact lv_lmul C.1 C.2.1 d  (kk H locs ls hS hW hl)
theorem vv_land {g : vv_G} {x : vv_X} {own nm : String} {cc : ByteArray} {nL k n pc : Nat} {ret : Option FieldType} {R0 : Room} {lv : List (Option Value)} {st : List Value} {h : List va_E} {v w : Int64} (C : vv_C g own nm cc nL ret R0 x) (d : decode cc pc = .ok (.land, 1))  (kk : vv_V g x nL k n (pc + 1) lv (.long (v &&& w) :: st) h) : vv_V g x nL k n (pc) lv (.long w :: .long v :: st) h := by
  obtain ⟨p, e, R, s, m, args, below, meth, c, Q⟩ := x
  intro H locs ls hS hW hl
  exact lv_land C.1 C.2.1 d  (kk H locs ls hS hW hl)
theorem vv_lor {g : vv_G} {x : vv_X} {own nm : String} {cc : ByteArray} {nL k n pc : Nat} {ret : Option FieldType} {R0 : Room} {lv : List (Option Value)} {st : List Value} {h : List va_E} {v w : Int64} (C : vv_C g own nm cc nL ret R0 x) (d : decode cc pc = .ok (.lor, 1))  (kk : vv_V g x nL k n (pc + 1) lv (.long (v ||| w) :: st) h) : vv_V g x nL k n (pc) lv (.long w :: .long v :: st) h := by
  obtain ⟨p, e, R, s, m, args, below, meth, c, Q⟩ := x
  intro H locs ls hS hW hl
  exact lv_lor C.1 C.2.1 d  (kk H locs ls hS hW hl)
theorem vv_idiv {g : vv_G} {x : vv_X} {own nm : String} {cc : ByteArray} {nL k n pc : Nat} {ret : Option FieldType} {R0 : Room} {lv : List (Option Value)} {st : List Value} {h : List va_E} {v w : Int32} (C : vv_C g own nm cc nL ret R0 x) (d : decode cc pc = .ok (.idiv, 1)) (hne : ¬ w = 0) (kk : vv_V g x nL k n (pc + 1) lv (.int (v / w) :: st) h) : vv_V g x nL k n (pc) lv (.int w :: .int v :: st) h := by
  obtain ⟨p, e, R, s, m, args, below, meth, c, Q⟩ := x
  intro H locs ls hS hW hl
  exact lv_idiv C.1 C.2.1 d hne (kk H locs ls hS hW hl)
theorem vv_ldiv {g : vv_G} {x : vv_X} {own nm : String} {cc : ByteArray} {nL k n pc : Nat} {ret : Option FieldType} {R0 : Room} {lv : List (Option Value)} {st : List Value} {h : List va_E} {v w : Int64} (C : vv_C g own nm cc nL ret R0 x) (d : decode cc pc = .ok (.ldiv, 1)) (hne : ¬ w = 0) (kk : vv_V g x nL k n (pc + 1) lv (.long (v / w) :: st) h) : vv_V g x nL k n (pc) lv (.long w :: .long v :: st) h := by
  obtain ⟨p, e, R, s, m, args, below, meth, c, Q⟩ := x
  intro H locs ls hS hW hl
  exact lv_ldiv C.1 C.2.1 d hne (kk H locs ls hS hW hl)
theorem vv_tm (a b : Int) (n : Nat) (h1 : -(n : Int) ≤ 2 * a.tmod b) (h2 : 2 * a.tmod b < n) : (a - ((a.tdiv b).bmod n * b).bmod n).bmod n = a.tmod b := by
  have e : a.tmod b = a - a.tdiv b * b := by
    have := Int.tmod_add_mul_tdiv a b
    have h := Int.mul_comm b (a.tdiv b)
    omega
  rw [Int.bmod_mul_bmod, Int.sub_bmod_bmod, ← e]
  exact Int.bmod_eq_of_le_mul_two (by omega) (by omega)
theorem vv_irm (v w : Int32) : v - v / w * w = v % w := by
  apply Int32.toInt_inj.mp
  rw [Int32.toInt_sub, Int32.toInt_mul, Int32.toInt_div, Int32.toInt_mod]
  have h1 := Int32.le_toInt (v % w)
  have h2 := Int32.toInt_lt (v % w)
  rw [Int32.toInt_mod] at h1 h2
  refine vv_tm _ _ _ ?_ ?_
  · simp only [Nat.reducePow, Int.reducePow, Int.reduceNeg] at *; omega
  · simp only [Nat.reducePow, Int.reducePow, Int.reduceNeg] at *; omega
theorem vv_lrm (v w : Int64) : v - v / w * w = v % w := by
  apply Int64.toInt_inj.mp
  rw [Int64.toInt_sub, Int64.toInt_mul, Int64.toInt_div, Int64.toInt_mod]
  have h1 := Int64.le_toInt (v % w)
  have h2 := Int64.toInt_lt (v % w)
  rw [Int64.toInt_mod] at h1 h2
  refine vv_tm _ _ _ ?_ ?_
  · simp only [Nat.reducePow, Int.reducePow, Int.reduceNeg] at *; omega
  · simp only [Nat.reducePow, Int.reducePow, Int.reduceNeg] at *; omega
theorem vv_irem {g : vv_G} {x : vv_X} {own nm : String} {cc : ByteArray} {nL k n pc : Nat} {ret : Option FieldType} {R0 : Room} {lv : List (Option Value)} {st : List Value} {h : List va_E} {v w : Int32} (C : vv_C g own nm cc nL ret R0 x) (d : decode cc pc = .ok (.irem, 1)) (hne : ¬ w = 0) (kk : vv_V g x nL k n (pc + 1) lv (.int (v % w) :: st) h) : vv_V g x nL k n (pc) lv (.int w :: .int v :: st) h := by
  obtain ⟨p, e, R, s, m, args, below, meth, c, Q⟩ := x
  intro H locs ls hS hW hl
  exact lv_irem C.1 C.2.1 d hne (by rw [vv_irm]; exact kk H locs ls hS hW hl)
theorem vv_lrem {g : vv_G} {x : vv_X} {own nm : String} {cc : ByteArray} {nL k n pc : Nat} {ret : Option FieldType} {R0 : Room} {lv : List (Option Value)} {st : List Value} {h : List va_E} {v w : Int64} (C : vv_C g own nm cc nL ret R0 x) (d : decode cc pc = .ok (.lrem, 1)) (hne : ¬ w = 0) (kk : vv_V g x nL k n (pc + 1) lv (.long (v % w) :: st) h) : vv_V g x nL k n (pc) lv (.long w :: .long v :: st) h := by
  obtain ⟨p, e, R, s, m, args, below, meth, c, Q⟩ := x
  intro H locs ls hS hW hl
  exact lv_lrem C.1 C.2.1 d hne (by rw [vv_lrm]; exact kk H locs ls hS hW hl)
theorem vv_ineg {g : vv_G} {x : vv_X} {own nm : String} {cc : ByteArray} {nL k n pc : Nat} {ret : Option FieldType} {R0 : Room} {lv : List (Option Value)} {st : List Value} {h : List va_E} {v : Int32} (C : vv_C g own nm cc nL ret R0 x) (d : decode cc pc = .ok (.ineg, 1))  (kk : vv_V g x nL k n (pc + 1) lv (.int (-v) :: st) h) : vv_V g x nL k n (pc) lv (.int v :: st) h := by
  obtain ⟨p, e, R, s, m, args, below, meth, c, Q⟩ := x
  intro H locs ls hS hW hl
  exact lv_ineg C.1 C.2.1 d  (kk H locs ls hS hW hl)
theorem vv_ishl {g : vv_G} {x : vv_X} {own nm : String} {cc : ByteArray} {nL k n pc : Nat} {ret : Option FieldType} {R0 : Room} {lv : List (Option Value)} {st : List Value} {h : List va_E} {v w : Int32} (C : vv_C g own nm cc nL ret R0 x) (d : decode cc pc = .ok (.ishl, 1))  (kk : vv_V g x nL k n (pc + 1) lv (.int (v <<< (w &&& 31)) :: st) h) : vv_V g x nL k n (pc) lv (.int w :: .int v :: st) h := by
  obtain ⟨p, e, R, s, m, args, below, meth, c, Q⟩ := x
  intro H locs ls hS hW hl
  exact lv_ishl C.1 C.2.1 d  (kk H locs ls hS hW hl)
theorem vv_ishr {g : vv_G} {x : vv_X} {own nm : String} {cc : ByteArray} {nL k n pc : Nat} {ret : Option FieldType} {R0 : Room} {lv : List (Option Value)} {st : List Value} {h : List va_E} {v w : Int32} (C : vv_C g own nm cc nL ret R0 x) (d : decode cc pc = .ok (.ishr, 1))  (kk : vv_V g x nL k n (pc + 1) lv (.int (v >>> (w &&& 31)) :: st) h) : vv_V g x nL k n (pc) lv (.int w :: .int v :: st) h := by
  obtain ⟨p, e, R, s, m, args, below, meth, c, Q⟩ := x
  intro H locs ls hS hW hl
  exact lv_ishr C.1 C.2.1 d  (kk H locs ls hS hW hl)
theorem vv_lshl {g : vv_G} {x : vv_X} {own nm : String} {cc : ByteArray} {nL k n pc : Nat} {ret : Option FieldType} {R0 : Room} {lv : List (Option Value)} {st : List Value} {h : List va_E} {v : Int64} {w : Int32} (C : vv_C g own nm cc nL ret R0 x) (d : decode cc pc = .ok (.lshl, 1))  (kk : vv_V g x nL k n (pc + 1) lv (.long (v <<< (w.toInt64 &&& 63)) :: st) h) : vv_V g x nL k n (pc) lv (.int w :: .long v :: st) h := by
  obtain ⟨p, e, R, s, m, args, below, meth, c, Q⟩ := x
  intro H locs ls hS hW hl
  exact lv_lshl C.1 C.2.1 d rfl (kk H locs ls hS hW hl)
theorem vv_lshr {g : vv_G} {x : vv_X} {own nm : String} {cc : ByteArray} {nL k n pc : Nat} {ret : Option FieldType} {R0 : Room} {lv : List (Option Value)} {st : List Value} {h : List va_E} {v : Int64} {w : Int32} (C : vv_C g own nm cc nL ret R0 x) (d : decode cc pc = .ok (.lshr, 1))  (kk : vv_V g x nL k n (pc + 1) lv (.long (v >>> (w.toInt64 &&& 63)) :: st) h) : vv_V g x nL k n (pc) lv (.int w :: .long v :: st) h := by
  obtain ⟨p, e, R, s, m, args, below, meth, c, Q⟩ := x
  intro H locs ls hS hW hl
  exact lv_lshr C.1 C.2.1 d rfl (kk H locs ls hS hW hl)
theorem vv_i2l {g : vv_G} {x : vv_X} {own nm : String} {cc : ByteArray} {nL k n pc : Nat} {ret : Option FieldType} {R0 : Room} {lv : List (Option Value)} {st : List Value} {h : List va_E} {v : Int32} (C : vv_C g own nm cc nL ret R0 x) (d : decode cc pc = .ok (.i2l, 1))  (kk : vv_V g x nL k n (pc + 1) lv (.long v.toInt64 :: st) h) : vv_V g x nL k n (pc) lv (.int v :: st) h := by
  obtain ⟨p, e, R, s, m, args, below, meth, c, Q⟩ := x
  intro H locs ls hS hW hl
  exact lv_i2l C.1 C.2.1 d rfl (kk H locs ls hS hW hl)
theorem vv_l2i {g : vv_G} {x : vv_X} {own nm : String} {cc : ByteArray} {nL k n pc : Nat} {ret : Option FieldType} {R0 : Room} {lv : List (Option Value)} {st : List Value} {h : List va_E} {v : Int64} (C : vv_C g own nm cc nL ret R0 x) (d : decode cc pc = .ok (.l2i, 1))  (kk : vv_V g x nL k n (pc + 1) lv (.int v.toInt32 :: st) h) : vv_V g x nL k n (pc) lv (.long v :: st) h := by
  obtain ⟨p, e, R, s, m, args, below, meth, c, Q⟩ := x
  intro H locs ls hS hW hl
  exact lv_l2i C.1 C.2.1 d rfl (kk H locs ls hS hW hl)
theorem vv_i2b {g : vv_G} {x : vv_X} {own nm : String} {cc : ByteArray} {nL k n pc : Nat} {ret : Option FieldType} {R0 : Room} {lv : List (Option Value)} {st : List Value} {h : List va_E} {v : Int32} (C : vv_C g own nm cc nL ret R0 x) (d : decode cc pc = .ok (.i2b, 1))  (kk : vv_V g x nL k n (pc + 1) lv (.int v.toInt8.toInt32 :: st) h) : vv_V g x nL k n (pc) lv (.int v :: st) h := by
  obtain ⟨p, e, R, s, m, args, below, meth, c, Q⟩ := x
  intro H locs ls hS hW hl
  exact lv_i2b C.1 C.2.1 d rfl (kk H locs ls hS hW hl)
theorem vv_i2s {g : vv_G} {x : vv_X} {own nm : String} {cc : ByteArray} {nL k n pc : Nat} {ret : Option FieldType} {R0 : Room} {lv : List (Option Value)} {st : List Value} {h : List va_E} {v : Int32} (C : vv_C g own nm cc nL ret R0 x) (d : decode cc pc = .ok (.i2s, 1))  (kk : vv_V g x nL k n (pc + 1) lv (.int v.toInt16.toInt32 :: st) h) : vv_V g x nL k n (pc) lv (.int v :: st) h := by
  obtain ⟨p, e, R, s, m, args, below, meth, c, Q⟩ := x
  intro H locs ls hS hW hl
  exact lv_i2s C.1 C.2.1 d rfl (kk H locs ls hS hW hl)
theorem vv_lcmp {g : vv_G} {x : vv_X} {own nm : String} {cc : ByteArray} {nL k n pc : Nat} {ret : Option FieldType} {R0 : Room} {lv : List (Option Value)} {st : List Value} {h : List va_E} {v w : Int64} (C : vv_C g own nm cc nL ret R0 x) (d : decode cc pc = .ok (.lcmp, 1))  (kk : vv_V g x nL k n (pc + 1) lv (.int (lg_cmp v w) :: st) h) : vv_V g x nL k n (pc) lv (.long w :: .long v :: st) h := by
  obtain ⟨p, e, R, s, m, args, below, meth, c, Q⟩ := x
  intro H locs ls hS hW hl
  exact W.lcmp C.1 C.2.1 d  (kk H locs ls hS hW hl)
theorem vv_dup {g : vv_G} {x : vv_X} {own nm : String} {cc : ByteArray} {nL k n pc : Nat} {ret : Option FieldType} {R0 : Room} {lv : List (Option Value)} {st : List Value} {h : List va_E} {v : Value} (C : vv_C g own nm cc nL ret R0 x) (d : decode cc pc = .ok (.dup, 1)) (hv : v.category = 1) (kk : vv_V g x nL k n (pc + 1) lv (v :: v :: st) h) : vv_V g x nL k n (pc) lv (v :: st) h := by
  obtain ⟨p, e, R, s, m, args, below, meth, c, Q⟩ := x
  intro H locs ls hS hW hl
  exact lv_dup C.1 C.2.1 d hv (kk H locs ls hS hW hl)
theorem vv_pop {g : vv_G} {x : vv_X} {own nm : String} {cc : ByteArray} {nL k n pc : Nat} {ret : Option FieldType} {R0 : Room} {lv : List (Option Value)} {st : List Value} {h : List va_E} {v : Value} (C : vv_C g own nm cc nL ret R0 x) (d : decode cc pc = .ok (.pop, 1)) (hv : v.category = 1) (kk : vv_V g x nL k n (pc + 1) lv (st) h) : vv_V g x nL k n (pc) lv (v :: st) h := by
  obtain ⟨p, e, R, s, m, args, below, meth, c, Q⟩ := x
  intro H locs ls hS hW hl
  exact lv_pop C.1 C.2.1 d hv (kk H locs ls hS hW hl)
theorem vv_dup2 {g : vv_G} {x : vv_X} {own nm : String} {cc : ByteArray} {nL k n pc : Nat} {ret : Option FieldType} {R0 : Room} {lv : List (Option Value)} {st : List Value} {h : List va_E} {v w : Value} (C : vv_C g own nm cc nL ret R0 x) (d : decode cc pc = .ok (.dup2, 1)) (hv : v.category = 1) (hw : w.category = 1) (kk : vv_V g x nL k n (pc + 1) lv (v :: w :: v :: w :: st) h) : vv_V g x nL k n (pc) lv (v :: w :: st) h := by
  obtain ⟨p, e, R, s, m, args, below, meth, c, Q⟩ := x
  intro H locs ls hS hW hl
  exact lv_dup2_11 C.1 C.2.1 d hv hw (kk H locs ls hS hW hl)
theorem vv_if_eq {g : vv_G} {x : vv_X} {own nm : String} {cc : ByteArray} {nL k n pc : Nat} {ret : Option FieldType} {R0 : Room} {lv : List (Option Value)} {st : List Value} {h : List va_E} {v : Int32} {off : Int} {tgt : Nat} (C : vv_C g own nm cc nL ret R0 x) (d : decode cc pc = .ok (.ifCond .eq off, 3)) (ht : (pc : Int) + off = (tgt : Int)) (kt : v = 0 → vv_V g x nL k n (tgt) lv (st) h) (kf : ¬ v = 0 → vv_V g x nL k n (pc + 3) lv (st) h) : vv_V g x nL k n (pc) lv (.int v :: st) h := by
  obtain ⟨p, e, R, s, m, args, below, meth, c, Q⟩ := x
  intro H locs ls hS hW hl
  exact lv_if_eq C.1 C.2.1 d ht (fun q => kt q H locs ls hS hW hl) (fun q => kf q H locs ls hS hW hl)
theorem vv_if_ne {g : vv_G} {x : vv_X} {own nm : String} {cc : ByteArray} {nL k n pc : Nat} {ret : Option FieldType} {R0 : Room} {lv : List (Option Value)} {st : List Value} {h : List va_E} {v : Int32} {off : Int} {tgt : Nat} (C : vv_C g own nm cc nL ret R0 x) (d : decode cc pc = .ok (.ifCond .ne off, 3)) (ht : (pc : Int) + off = (tgt : Int)) (kt : ¬ v = 0 → vv_V g x nL k n (tgt) lv (st) h) (kf : v = 0 → vv_V g x nL k n (pc + 3) lv (st) h) : vv_V g x nL k n (pc) lv (.int v :: st) h := by
  obtain ⟨p, e, R, s, m, args, below, meth, c, Q⟩ := x
  intro H locs ls hS hW hl
  exact lv_if_ne C.1 C.2.1 d ht (fun q => kt q H locs ls hS hW hl) (fun q => kf q H locs ls hS hW hl)
theorem vv_if_lt {g : vv_G} {x : vv_X} {own nm : String} {cc : ByteArray} {nL k n pc : Nat} {ret : Option FieldType} {R0 : Room} {lv : List (Option Value)} {st : List Value} {h : List va_E} {v : Int32} {off : Int} {tgt : Nat} (C : vv_C g own nm cc nL ret R0 x) (d : decode cc pc = .ok (.ifCond .lt off, 3)) (ht : (pc : Int) + off = (tgt : Int)) (kt : v < 0 → vv_V g x nL k n (tgt) lv (st) h) (kf : ¬ v < 0 → vv_V g x nL k n (pc + 3) lv (st) h) : vv_V g x nL k n (pc) lv (.int v :: st) h := by
  obtain ⟨p, e, R, s, m, args, below, meth, c, Q⟩ := x
  intro H locs ls hS hW hl
  exact lv_if_lt C.1 C.2.1 d ht (fun q => kt q H locs ls hS hW hl) (fun q => kf q H locs ls hS hW hl)
theorem vv_if_ge {g : vv_G} {x : vv_X} {own nm : String} {cc : ByteArray} {nL k n pc : Nat} {ret : Option FieldType} {R0 : Room} {lv : List (Option Value)} {st : List Value} {h : List va_E} {v : Int32} {off : Int} {tgt : Nat} (C : vv_C g own nm cc nL ret R0 x) (d : decode cc pc = .ok (.ifCond .ge off, 3)) (ht : (pc : Int) + off = (tgt : Int)) (kt : 0 ≤ v → vv_V g x nL k n (tgt) lv (st) h) (kf : ¬ 0 ≤ v → vv_V g x nL k n (pc + 3) lv (st) h) : vv_V g x nL k n (pc) lv (.int v :: st) h := by
  obtain ⟨p, e, R, s, m, args, below, meth, c, Q⟩ := x
  intro H locs ls hS hW hl
  exact lv_if_ge C.1 C.2.1 d ht (fun q => kt q H locs ls hS hW hl) (fun q => kf q H locs ls hS hW hl)
theorem vv_if_gt {g : vv_G} {x : vv_X} {own nm : String} {cc : ByteArray} {nL k n pc : Nat} {ret : Option FieldType} {R0 : Room} {lv : List (Option Value)} {st : List Value} {h : List va_E} {v : Int32} {off : Int} {tgt : Nat} (C : vv_C g own nm cc nL ret R0 x) (d : decode cc pc = .ok (.ifCond .gt off, 3)) (ht : (pc : Int) + off = (tgt : Int)) (kt : 0 < v → vv_V g x nL k n (tgt) lv (st) h) (kf : ¬ 0 < v → vv_V g x nL k n (pc + 3) lv (st) h) : vv_V g x nL k n (pc) lv (.int v :: st) h := by
  obtain ⟨p, e, R, s, m, args, below, meth, c, Q⟩ := x
  intro H locs ls hS hW hl
  exact lv_if_gt C.1 C.2.1 d ht (fun q => kt q H locs ls hS hW hl) (fun q => kf q H locs ls hS hW hl)
theorem vv_if_le {g : vv_G} {x : vv_X} {own nm : String} {cc : ByteArray} {nL k n pc : Nat} {ret : Option FieldType} {R0 : Room} {lv : List (Option Value)} {st : List Value} {h : List va_E} {v : Int32} {off : Int} {tgt : Nat} (C : vv_C g own nm cc nL ret R0 x) (d : decode cc pc = .ok (.ifCond .le off, 3)) (ht : (pc : Int) + off = (tgt : Int)) (kt : v ≤ 0 → vv_V g x nL k n (tgt) lv (st) h) (kf : ¬ v ≤ 0 → vv_V g x nL k n (pc + 3) lv (st) h) : vv_V g x nL k n (pc) lv (.int v :: st) h := by
  obtain ⟨p, e, R, s, m, args, below, meth, c, Q⟩ := x
  intro H locs ls hS hW hl
  exact lv_if_le C.1 C.2.1 d ht (fun q => kt q H locs ls hS hW hl) (fun q => kf q H locs ls hS hW hl)
theorem vv_icmp_eq {g : vv_G} {x : vv_X} {own nm : String} {cc : ByteArray} {nL k n pc : Nat} {ret : Option FieldType} {R0 : Room} {lv : List (Option Value)} {st : List Value} {h : List va_E} {v w : Int32} {off : Int} {tgt : Nat} (C : vv_C g own nm cc nL ret R0 x) (d : decode cc pc = .ok (.if_icmp .eq off, 3)) (ht : (pc : Int) + off = (tgt : Int)) (kt : v = w → vv_V g x nL k n (tgt) lv (st) h) (kf : ¬ v = w → vv_V g x nL k n (pc + 3) lv (st) h) : vv_V g x nL k n (pc) lv (.int w :: .int v :: st) h := by
  obtain ⟨p, e, R, s, m, args, below, meth, c, Q⟩ := x
  intro H locs ls hS hW hl
  exact lv_icmp_eq C.1 C.2.1 d ht (fun q => kt q H locs ls hS hW hl) (fun q => kf q H locs ls hS hW hl)
theorem vv_icmp_ne {g : vv_G} {x : vv_X} {own nm : String} {cc : ByteArray} {nL k n pc : Nat} {ret : Option FieldType} {R0 : Room} {lv : List (Option Value)} {st : List Value} {h : List va_E} {v w : Int32} {off : Int} {tgt : Nat} (C : vv_C g own nm cc nL ret R0 x) (d : decode cc pc = .ok (.if_icmp .ne off, 3)) (ht : (pc : Int) + off = (tgt : Int)) (kt : ¬ v = w → vv_V g x nL k n (tgt) lv (st) h) (kf : v = w → vv_V g x nL k n (pc + 3) lv (st) h) : vv_V g x nL k n (pc) lv (.int w :: .int v :: st) h := by
  obtain ⟨p, e, R, s, m, args, below, meth, c, Q⟩ := x
  intro H locs ls hS hW hl
  exact lv_icmp_ne C.1 C.2.1 d ht (fun q => kt q H locs ls hS hW hl) (fun q => kf q H locs ls hS hW hl)
theorem vv_icmp_lt {g : vv_G} {x : vv_X} {own nm : String} {cc : ByteArray} {nL k n pc : Nat} {ret : Option FieldType} {R0 : Room} {lv : List (Option Value)} {st : List Value} {h : List va_E} {v w : Int32} {off : Int} {tgt : Nat} (C : vv_C g own nm cc nL ret R0 x) (d : decode cc pc = .ok (.if_icmp .lt off, 3)) (ht : (pc : Int) + off = (tgt : Int)) (kt : v < w → vv_V g x nL k n (tgt) lv (st) h) (kf : ¬ v < w → vv_V g x nL k n (pc + 3) lv (st) h) : vv_V g x nL k n (pc) lv (.int w :: .int v :: st) h := by
  obtain ⟨p, e, R, s, m, args, below, meth, c, Q⟩ := x
  intro H locs ls hS hW hl
  exact lv_icmp_lt C.1 C.2.1 d ht (fun q => kt q H locs ls hS hW hl) (fun q => kf q H locs ls hS hW hl)
theorem vv_icmp_ge {g : vv_G} {x : vv_X} {own nm : String} {cc : ByteArray} {nL k n pc : Nat} {ret : Option FieldType} {R0 : Room} {lv : List (Option Value)} {st : List Value} {h : List va_E} {v w : Int32} {off : Int} {tgt : Nat} (C : vv_C g own nm cc nL ret R0 x) (d : decode cc pc = .ok (.if_icmp .ge off, 3)) (ht : (pc : Int) + off = (tgt : Int)) (kt : w ≤ v → vv_V g x nL k n (tgt) lv (st) h) (kf : ¬ w ≤ v → vv_V g x nL k n (pc + 3) lv (st) h) : vv_V g x nL k n (pc) lv (.int w :: .int v :: st) h := by
  obtain ⟨p, e, R, s, m, args, below, meth, c, Q⟩ := x
  intro H locs ls hS hW hl
  exact lv_icmp_ge C.1 C.2.1 d ht (fun q => kt q H locs ls hS hW hl) (fun q => kf q H locs ls hS hW hl)
theorem vv_icmp_gt {g : vv_G} {x : vv_X} {own nm : String} {cc : ByteArray} {nL k n pc : Nat} {ret : Option FieldType} {R0 : Room} {lv : List (Option Value)} {st : List Value} {h : List va_E} {v w : Int32} {off : Int} {tgt : Nat} (C : vv_C g own nm cc nL ret R0 x) (d : decode cc pc = .ok (.if_icmp .gt off, 3)) (ht : (pc : Int) + off = (tgt : Int)) (kt : w < v → vv_V g x nL k n (tgt) lv (st) h) (kf : ¬ w < v → vv_V g x nL k n (pc + 3) lv (st) h) : vv_V g x nL k n (pc) lv (.int w :: .int v :: st) h := by
  obtain ⟨p, e, R, s, m, args, below, meth, c, Q⟩ := x
  intro H locs ls hS hW hl
  exact lv_icmp_gt C.1 C.2.1 d ht (fun q => kt q H locs ls hS hW hl) (fun q => kf q H locs ls hS hW hl)
theorem vv_icmp_le {g : vv_G} {x : vv_X} {own nm : String} {cc : ByteArray} {nL k n pc : Nat} {ret : Option FieldType} {R0 : Room} {lv : List (Option Value)} {st : List Value} {h : List va_E} {v w : Int32} {off : Int} {tgt : Nat} (C : vv_C g own nm cc nL ret R0 x) (d : decode cc pc = .ok (.if_icmp .le off, 3)) (ht : (pc : Int) + off = (tgt : Int)) (kt : v ≤ w → vv_V g x nL k n (tgt) lv (st) h) (kf : ¬ v ≤ w → vv_V g x nL k n (pc + 3) lv (st) h) : vv_V g x nL k n (pc) lv (.int w :: .int v :: st) h := by
  obtain ⟨p, e, R, s, m, args, below, meth, c, Q⟩ := x
  intro H locs ls hS hW hl
  exact lv_icmp_le C.1 C.2.1 d ht (fun q => kt q H locs ls hS hW hl) (fun q => kf q H locs ls hS hW hl)
theorem vv_goto {g : vv_G} {x : vv_X} {own nm : String} {cc : ByteArray} {nL k n pc : Nat} {ret : Option FieldType} {R0 : Room} {lv : List (Option Value)} {st : List Value} {h : List va_E} {off : Int} {tgt : Nat} (C : vv_C g own nm cc nL ret R0 x) (d : decode cc pc = .ok (.goto off, 3)) (ht : (pc : Int) + off = (tgt : Int)) (kk : vv_V g x nL k n (tgt) lv (st) h) : vv_V g x nL k n (pc) lv (st) h := by
  obtain ⟨p, e, R, s, m, args, below, meth, c, Q⟩ := x
  intro H locs ls hS hW hl
  exact lv_goto C.1 C.2.1 d ht (kk H locs ls hS hW hl)
theorem vv_tableIn {g : vv_G} {x : vv_X} {own nm : String} {cc : ByteArray} {nL k n pc : Nat} {ret : Option FieldType} {R0 : Room} {lv : List (Option Value)} {st : List Value} {h : List va_E} {v : Int32} {dflt lo hi : Int} {offs : Array Int} {len : Nat} {off : Int} {tgt : Nat} (C : vv_C g own nm cc nL ret R0 x) (d : decode cc pc = .ok (.tableswitch dflt lo hi offs, len)) (h1 : ¬ v.toInt < lo) (h2 : ¬ hi < v.toInt) (ho : offs[(v.toInt - lo).toNat]? = some off) (ht : (pc : Int) + off = (tgt : Int)) (kk : vv_V g x nL k n (tgt) lv (st) h) : vv_V g x nL k n (pc) lv (.int v :: st) h := by
  obtain ⟨p, e, R, s, m, args, below, meth, c, Q⟩ := x
  intro H locs ls hS hW hl
  exact lv_tableIn C.1 C.2.1 d h1 h2 ho ht (kk H locs ls hS hW hl)
theorem vv_tableOut {g : vv_G} {x : vv_X} {own nm : String} {cc : ByteArray} {nL k n pc : Nat} {ret : Option FieldType} {R0 : Room} {lv : List (Option Value)} {st : List Value} {h : List va_E} {v : Int32} {dflt lo hi : Int} {offs : Array Int} {len : Nat} {tgt : Nat} (C : vv_C g own nm cc nL ret R0 x) (d : decode cc pc = .ok (.tableswitch dflt lo hi offs, len)) (ho : v.toInt < lo ∨ hi < v.toInt) (ht : (pc : Int) + dflt = (tgt : Int)) (kk : vv_V g x nL k n (tgt) lv (st) h) : vv_V g x nL k n (pc) lv (.int v :: st) h := by
  obtain ⟨p, e, R, s, m, args, below, meth, c, Q⟩ := x
  intro H locs ls hS hW hl
  exact lv_tableOut C.1 C.2.1 d ho ht (kk H locs ls hS hW hl)
theorem vv_lookup {g : vv_G} {x : vv_X} {own nm : String} {cc : ByteArray} {nL k n pc : Nat} {ret : Option FieldType} {R0 : Room} {lv : List (Option Value)} {st : List Value} {h : List va_E} {v : Int32} {dflt : Int} {ps : Array (Int × Int)} {len : Nat} {off : Int} {tgt : Nat} (C : vv_C g own nm cc nL ret R0 x) (d : decode cc pc = .ok (.lookupswitch dflt ps, len)) (hp : (ps.toList.zip (ps.toList.drop 1)).all (fun (a, next) => a.1 < next.1) = true) (ho : Op.lookupswitch.offset ps.toList dflt v.toInt = off) (ht : (pc : Int) + off = (tgt : Int)) (kk : vv_V g x nL k n (tgt) lv (st) h) : vv_V g x nL k n (pc) lv (.int v :: st) h := by
  obtain ⟨p, e, R, s, m, args, below, meth, c, Q⟩ := x
  intro H locs ls hS hW hl
  exact lv_lookup C.1 C.2.1 d hp ho ht (kk H locs ls hS hW hl)
/-- the class's fields have types, and names that differ -/
def vv_Cl (q : vw_C) : Prop := (∃ ty0 : Nat → FieldType, ∀ k, k < q.2.2 → parseFieldDescriptor (q.2.1 k).2.2.1 = some (ty0 k)) ∧ ∀ a, a < q.2.2 → ∀ b, b < q.2.2 → a ≠ b → (q.2.1 a).2.1 ≠ (q.2.1 b).2.1
theorem vv_cls {ci : Nat} {q : vw_C} (h : vwCl[ci]? = some q) : vv_Cl q := by
  have hm := List.mem_of_getElem? h
  simp only [vwCl, List.mem_cons, List.not_mem_nil, or_false] at hm
  rcases hm with e | e | e | e | e | e | e | e | e | e | e | e | e

  · subst e; exact ⟨⟨tyX0, tyX0_ok⟩, nmX0⟩
  · subst e; exact ⟨⟨tyX1, tyX1_ok⟩, nmX1⟩
  · subst e; exact ⟨⟨tyX2, tyX2_ok⟩, nmX2⟩
  · subst e; exact ⟨⟨tyX3, tyX3_ok⟩, nmX3⟩
  · subst e; exact ⟨⟨tyX4, tyX4_ok⟩, nmX4⟩
  · subst e; exact ⟨⟨tyX5, tyX5_ok⟩, nmX5⟩
  · subst e; exact ⟨⟨tyX6, tyX6_ok⟩, nmX6⟩
  · subst e; exact ⟨⟨tyX7, tyX7_ok⟩, nmX7⟩
  · subst e; exact ⟨⟨tyX8, tyX8_ok⟩, nmX8⟩
  · subst e; exact ⟨⟨tyX9, tyX9_ok⟩, nmX9⟩
  · subst e; exact ⟨⟨tyX10, tyX10_ok⟩, nmX10⟩
  · subst e; exact ⟨⟨tyX11, tyX11_ok⟩, nmX11⟩
  · subst e; exact ⟨⟨tyX12, tyX12_ok⟩, nmX12⟩
theorem vv_get {g : vv_G} {x : vv_X} {own nm : String} {cc : ByteArray} {nL k n pc : Nat} {ret : Option FieldType} {R0 : Room} {lv : List (Option Value)} {st : List Value} {h : List va_E} {idx ci kf i : Nat} {fs : List Value} {v : Value} (C : vv_C g own nm cc nL ret R0 x) (d : decode cc pc = .ok (.getfield idx, 3)) (f : vv_Fg own idx ci kf) (he : h[i]? = some (.inr (ci, fs))) (hv : fs[kf]? = some v) (kk : vv_V g x nL k n (pc + 3) lv (v :: st) h) : vv_V g x nL k n (pc) lv (vv_r0 g i :: st) h := by
  obtain ⟨p, e, R, s, m, args, below, meth, c, Q⟩ := x
  intro H locs ls hS hW hl
  obtain ⟨⟨CN, T, N⟩, f1, f2, f3, f4, f5⟩ := f
  exact va_get (D := vv_D g) (ci := ci) (v := v) (C := CN) (T := T) (N := N) C.1 C.2.1 C.2.2.2.2.2.2.2.1 f2 C.2.2.2.2.2.1 hW.2.2.1 hW.2.1 i (vv_ws_get he) f1 kf f3 (C.2.2.2.2.2.2.2.1 _ f4) (fun y hy => by dsimp only at f5; rw [f5] at hy; exact hy) hv d (kk H locs ls hS hW hl)
/-- what a row says of a heap that was written to, in these words -/
theorem vv_after {g : vv_G} {h : List va_E} {s : State} {H H1 : Heap} {locs locs1 : List Loc} {i : Nat} (e1 : va_E) (hW : vv_W g h s H) (hS : va_S (vv_A g) s.heap H locs) (hb : vv_b g ≤ s.heap.size) (hP : va_P (vv_D g) vwCl ((vv_ws g h).set i (vv_b g + i, e1)) H1) (hz : vv_fl g = true → H1.size = H.size) (hS1 : va_S (vv_A g) s.heap H1 locs1) : vv_W g (h.set i e1) s H1 := by
  refine ⟨⟨Nat.le_trans hb hS1.1, fun q => ?_⟩, ?_, hW.2.2.1, hW.2.2.2.kept (fun q hq ha => ?_)⟩
  · rw [hz q, hW.1.2 q, List.length_set]
  · rw [vv_ws_set] at hP
    exact hP
  · have h1 : q < s.heap.size := by
      have ha : ¬ vv_b g ≤ q := ha
      omega
    rw [hS1.2.1 q h1 ha, hS.2.1 q h1 ha]
theorem vv_nof {g : vv_G} {P : Prop} (h : vv_fl g = false) : vv_fl g = true → P := fun q => by rw [h] at q; cases q
theorem vv_put {g : vv_G} {x : vv_X} {own nm : String} {cc : ByteArray} {nL k n pc : Nat} {ret : Option FieldType} {R0 : Room} {lv : List (Option Value)} {st : List Value} {h : List va_E} {idx ci kf i : Nat} {fs : List Value} {ty : FieldType} {v : Value} (C : vv_C g own nm cc nL ret R0 x) (d : decode cc pc = .ok (.putfield idx, 3)) (f : vv_Fp own idx ci kf ty) (he : h[i]? = some (.inr (ci, fs))) (hn : narrow ty v = v) (hf : fits ty v = true) (hl9 : kf < fs.length) (kk : vv_V g x nL k n (pc + 3) lv (st) (h.set i (.inr (ci, fs.set kf v)))) : vv_V g x nL k n (pc) lv (v :: vv_r0 g i :: st) h := by
  obtain ⟨p, e, R, s, m, args, below, meth, c, Q⟩ := x
  intro H locs ls hS hW hl
  obtain ⟨⟨⟨CN, T, N⟩, f1, f2, f3, f4, f5⟩, f6⟩ := f
  obtain ⟨⟨ty0, t1⟩, t2⟩ := vv_cls f1
  dsimp only at f2 f3 f4 f5 t1 t2
  have hts := C.2.2.2.2.2.2.2.1
  have hap := va_apart (own := own) hts f2 ty0 t1 t2 hW.2.2.1 f1
  have he9 := vv_ws_get (g := g) he
  obtain ⟨r, h1, cell, q1, q2, q3, q4⟩ := hW.2.1 i _ he9
  have hr : r = (CN, T, N) := Option.some.inj (h1.symm.trans f1)
  subst hr
  obtain ⟨hS9, hfc, kC, hkC, hkind⟩ := hW.2.2.1.1 ci _ f1
  obtain ⟨cf, kf9, fi, f9, hi, hsl⟩ := hS9 kf f3
  have hst := (u_facts hfc hkC (u_lays hts f2 f3) hi).1
  have hlay := hts _ (f2 _ (u_in_lay f3))
  unfold u_lay at hlay
  obtain ⟨f7, f8⟩ := f6 _ f1
  dsimp only at f7 f8
  rw [if_neg (by rw [f7]; decide)] at hlay
  have h6 := u_store hfc hkC hkind hlay hi f8 hn hf
  have hi9 : s.fieldFound? CN (T kf).2.1 (T kf).2.2.1 = some (cf, kf9, fi, f9) := by
    dsimp only at hi
    rw [f5] at hi
    exact hi
  refine W.putK C.1 C.2.1 (f := f9) ⟨C.2.2.2.2.2.1, hts _ f4, ⟨_, _, _, hi9⟩, hst⟩ (by rw [q2]; exact h6) q1 q3 (by rw [hsl]; exact k2_hasslot (q4 kf f3)) rfl rfl d fun H1 e1 e2 e3 => ?_
  rw [hsl] at e1 ⊢
  have hP1 : va_P (vv_D g) vwCl ((vv_ws g h).set i (vv_b g + i, .inr (ci, fs.set kf v))) H1 := hW.2.1.set (vv_ws_D g h) he9 ⟨_, f1, t_OB.to (V := updV (vp_V fs) kf v) ⟨_, e1, q2, q3, t_set q4 hap f3 v⟩ (fun j _ => vp_updV_set hl9 v j)⟩ e3
  have hS1 := hS.put (k := vv_D g |>.2 ci kf) e2 e3 ((vv_ws_D g h).2 i _ he9)
  exact kk H1 _ ls hS1 (vv_after _ hW hS C.2.2.2.2.2.2.2.2.1 hP1 (fun _ => e2) hS1) hl
theorem vv_putF {g : vv_G} {x : vv_X} {own nm : String} {cc : ByteArray} {nL k n pc : Nat} {ret : Option FieldType} {R0 : Room} {lv : List (Option Value)} {st : List Value} {h : List va_E} {idx ci kf i : Nat} {fs : List Value} {ty : FieldType} {v : Value} (C : vv_C g own nm cc nL ret R0 x) (d : decode cc pc = .ok (.putfield idx, 3)) (f : vv_Ff own idx ci kf ty) (hnm : nm = "<init>") (he : h[i]? = some (.inr (ci, fs))) (hn : narrow ty v = v) (hf : fits ty v = true) (hl9 : kf < fs.length) (kk : vv_V g x nL k n (pc + 3) lv (st) (h.set i (.inr (ci, fs.set kf v)))) : vv_V g x nL k n (pc) lv (v :: vv_r0 g i :: st) h := by
  obtain ⟨p, e, R, s, m, args, below, meth, c, Q⟩ := x
  intro H locs ls hS hW hl
  obtain ⟨⟨⟨CN, T, N⟩, f1, f2, f3, f4, f5⟩, f6⟩ := f
  obtain ⟨⟨ty0, t1⟩, t2⟩ := vv_cls f1
  dsimp only at f2 f3 f4 f5 t1 t2
  have hts := C.2.2.2.2.2.2.2.1
  have hap := va_apart (own := own) hts f2 ty0 t1 t2 hW.2.2.1 f1
  have he9 := vv_ws_get (g := g) he
  obtain ⟨r, h1, cell, q1, q2, q3, q4⟩ := hW.2.1 i _ he9
  have hr : r = (CN, T, N) := Option.some.inj (h1.symm.trans f1)
  subst hr
  obtain ⟨hS9, hfc, kC, hkC, hkind⟩ := hW.2.2.1.1 ci _ f1
  obtain ⟨cf, kf9, fi, f9, hi, hsl⟩ := hS9 kf f3
  have hst := (u_facts hfc hkC (u_lays hts f2 f3) hi).1
  have hlay := hts _ (f2 _ (u_in_lay f3))
  unfold u_lay at hlay
  obtain ⟨f7, f10, f8⟩ := f6 _ f1
  dsimp only at f7 f8 f10
  rw [if_pos f7] at hlay
  have hi9 : s.fieldFound? CN (T kf).2.1 (T kf).2.2.1 = some (cf, kf9, fi, f9) := by
    dsimp only at hi
    rw [f5] at hi
    exact hi
  have hcf : m.cls = cf := by
    obtain ⟨_, _, c', _, _, _, -, -, hf', -, -, -, hown2, -⟩ := Cond.laysFinal_spec hlay
    have e1 : c' = cf := by have := hi.symm.trans hf'; simp at this; exact this.1.symm
    rw [f10] at hown2
    rw [← e1]; exact Option.some.inj (C.2.2.2.2.2.1.symm.trans hown2)
  have h6 := u_fits hfc hkC hkind (Or.inr hlay) hi f8 hn hf
  refine W.putFinK C.1 C.2.1 C.2.2.2.2.2.1 (hts _ f4) hi9 hst hcf (C.2.2.2.2.2.2.1.trans hnm) (by rw [q2]; exact h6) q1 q3 (by rw [hsl]; exact k2_hasslot (q4 kf f3)) rfl rfl d fun H1 e1 e2 e3 => ?_
  rw [hsl] at e1 ⊢
  have hP1 : va_P (vv_D g) vwCl ((vv_ws g h).set i (vv_b g + i, .inr (ci, fs.set kf v))) H1 := hW.2.1.set (vv_ws_D g h) he9 ⟨_, f1, t_OB.to (V := updV (vp_V fs) kf v) ⟨_, e1, q2, q3, t_set q4 hap f3 v⟩ (fun j _ => vp_updV_set hl9 v j)⟩ e3
  have hS1 := hS.put (k := vv_D g |>.2 ci kf) e2 e3 ((vv_ws_D g h).2 i _ he9)
  exact kk H1 _ ls hS1 (vv_after _ hW hS C.2.2.2.2.2.2.2.2.1 hP1 (fun _ => e2) hS1) hl
theorem vv_iald {g : vv_G} {x : vv_X} {own nm : String} {cc : ByteArray} {nL k n pc : Nat} {ret : Option FieldType} {R0 : Room} {lv : List (Option Value)} {st : List Value} {h : List va_E} {i na : Nat} {f : Nat → Int32} {j : Int32} (C : vv_C g own nm cc nL ret R0 x) (d : decode cc pc = .ok (.iaload, 1)) (he : h[i]? = some (.inl (vv_cI g, na, .inl f))) (hin : vp_in j na) (kk : vv_V g x nL k n (pc + 1) lv (.int (f j.toNatClampNeg) :: st) h) : vv_V g x nL k n (pc) lv (.int j :: vv_r0 g i :: st) h := by
  obtain ⟨p, e, R, s, m, args, below, meth, c, Q⟩ := x
  intro H locs ls hS hW hl
  exact va_iald (D := vv_D g) C.1 C.2.1 hW.2.2.1 hW.2.1 i 0 (vv_ws_get he) rfl hin d (kk H locs ls hS hW hl)
theorem vv_lald {g : vv_G} {x : vv_X} {own nm : String} {cc : ByteArray} {nL k n pc : Nat} {ret : Option FieldType} {R0 : Room} {lv : List (Option Value)} {st : List Value} {h : List va_E} {i na : Nat} {f : Nat → Int64} {j : Int32} (C : vv_C g own nm cc nL ret R0 x) (d : decode cc pc = .ok (.laload, 1)) (he : h[i]? = some (.inl (vv_cJ g, na, .inr (.inl f)))) (hin : vp_in j na) (kk : vv_V g x nL k n (pc + 1) lv (.long (f j.toNatClampNeg) :: st) h) : vv_V g x nL k n (pc) lv (.int j :: vv_r0 g i :: st) h := by
  obtain ⟨p, e, R, s, m, args, below, meth, c, Q⟩ := x
  intro H locs ls hS hW hl
  exact va_lald (D := vv_D g) C.1 C.2.1 hW.2.2.1 hW.2.1 i 1 (vv_ws_get he) rfl hin d (kk H locs ls hS hW hl)
theorem vv_zald {g : vv_G} {x : vv_X} {own nm : String} {cc : ByteArray} {nL k n pc : Nat} {ret : Option FieldType} {R0 : Room} {lv : List (Option Value)} {st : List Value} {h : List va_E} {i na : Nat} {f : Nat → Int32} {j : Int32} (C : vv_C g own nm cc nL ret R0 x) (d : decode cc pc = .ok (.baload, 1)) (he : h[i]? = some (.inl (vv_cZ g, na, .inl f))) (hin : vp_in j na) (kk : vv_V g x nL k n (pc + 1) lv (.int (f j.toNatClampNeg) :: st) h) : vv_V g x nL k n (pc) lv (.int j :: vv_r0 g i :: st) h := by
  obtain ⟨p, e, R, s, m, args, below, meth, c, Q⟩ := x
  intro H locs ls hS hW hl
  exact va_zald (D := vv_D g) C.1 C.2.1 hW.2.2.1 hW.2.1 i 2 (vv_ws_get he) rfl hin d (kk H locs ls hS hW hl)
theorem vv_iast {g : vv_G} {x : vv_X} {own nm : String} {cc : ByteArray} {nL k n pc : Nat} {ret : Option FieldType} {R0 : Room} {lv : List (Option Value)} {st : List Value} {h : List va_E} {i na : Nat} {f : Nat → Int32} {j v : Int32} (C : vv_C g own nm cc nL ret R0 x) (d : decode cc pc = .ok (.iastore, 1)) (he : h[i]? = some (.inl (vv_cI g, na, .inl f))) (hin : vp_in j na) (kk : vv_V g x nL k n (pc + 1) lv (st) (h.set i (.inl (vv_cI g, na, .inl (upd f j.toNatClampNeg v))))) : vv_V g x nL k n (pc) lv (.int v :: .int j :: vv_r0 g i :: st) h := by
  obtain ⟨p, e, R, s, m, args, below, meth, c, Q⟩ := x
  intro H locs ls hS hW hl
  have he9 := vv_ws_get (g := g) he
  refine W.iast C.1 C.2.1 (hW.2.1 i _ he9) ((hW.2.2.1.2 0 _ rfl).1 na (fun j => .int (f j))) (fun q => by cases q) (by show ¬ (j < 0 ∨ (arrV _ _ _).slots.size ≤ _); rw [arrV_size]; exact hin) rfl rfl d fun H1 e1 e2 e3 => ?_
  have hP1 : va_P (vv_D g) vwCl ((vv_ws g h).set i (vv_b g + i, .inl (vv_cI g, na, .inl (upd f j.toNatClampNeg v)))) H1 := by
    refine hW.2.1.set (vv_ws_D g h) he9 ?_ e3
    show H1[vv_b g + i]? = some (vp_cell _ _)
    rw [e1]
    rw [vp_cell_i, vp_cell_i, arrV_store]
    congr 2
    funext q
    by_cases hq : q = j.toNatClampNeg
    · subst hq
      simp [updV, upd]
    · simp [updV, upd, hq]
  have hS1 := hS.put (k := j.toNatClampNeg) e2 e3 ((vv_ws_D g h).2 i _ he9)
  exact kk H1 _ ls hS1 (vv_after _ hW hS C.2.2.2.2.2.2.2.2.1 hP1 (fun _ => e2) hS1) hl
theorem vv_last {g : vv_G} {x : vv_X} {own nm : String} {cc : ByteArray} {nL k n pc : Nat} {ret : Option FieldType} {R0 : Room} {lv : List (Option Value)} {st : List Value} {h : List va_E} {i na : Nat} {f : Nat → Int64} {j : Int32} {v : Int64} (C : vv_C g own nm cc nL ret R0 x) (hfl : vv_fl g = false) (d : decode cc pc = .ok (.lastore, 1)) (he : h[i]? = some (.inl (vv_cJ g, na, .inr (.inl f)))) (hin : vp_in j na) (kk : vv_V g x nL k n (pc + 1) lv (st) (h.set i (.inl (vv_cJ g, na, .inr (.inl (vp_updL f j.toNatClampNeg v)))))) : vv_V g x nL k n (pc) lv (.long v :: .int j :: vv_r0 g i :: st) h := by
  obtain ⟨p, e, R, s, m, args, below, meth, c, Q⟩ := x
  intro H locs ls hS hW hl
  refine va_last (D := vv_D g) (A := vv_A g) C.1 C.2.1 hW.2.2.1 hW.2.1 (vv_ws_D g h) hS i 1 (vv_ws_get he) rfl hin d (fun H1 locs1 hP1 hD1 hS1 => ?_)
  exact kk H1 locs1 ls hS1 (vv_after _ hW hS C.2.2.2.2.2.2.2.2.1 hP1 (vv_nof hfl) hS1) hl
theorem vv_zast {g : vv_G} {x : vv_X} {own nm : String} {cc : ByteArray} {nL k n pc : Nat} {ret : Option FieldType} {R0 : Room} {lv : List (Option Value)} {st : List Value} {h : List va_E} {i na : Nat} {f : Nat → Int32} {j : Int32} {v : Int32} (C : vv_C g own nm cc nL ret R0 x) (hfl : vv_fl g = false) (d : decode cc pc = .ok (.bastore, 1)) (he : h[i]? = some (.inl (vv_cZ g, na, .inl f))) (hin : vp_in j na) (kk : vv_V g x nL k n (pc + 1) lv (st) (h.set i (.inl (vv_cZ g, na, .inl (upd f j.toNatClampNeg (vp_nar .boolean v)))))) : vv_V g x nL k n (pc) lv (.int v :: .int j :: vv_r0 g i :: st) h := by
  obtain ⟨p, e, R, s, m, args, below, meth, c, Q⟩ := x
  intro H locs ls hS hW hl
  refine va_zast (D := vv_D g) (A := vv_A g) C.1 C.2.1 hW.2.2.1 hW.2.1 (vv_ws_D g h) hS i 2 (vv_ws_get he) rfl hin d (fun H1 locs1 hP1 hD1 hS1 => ?_)
  exact kk H1 locs1 ls hS1 (vv_after _ hW hS C.2.2.2.2.2.2.2.2.1 hP1 (vv_nof hfl) hS1) hl
theorem vv_aaldI {g : vv_G} {x : vv_X} {own nm : String} {cc : ByteArray} {nL k n pc : Nat} {ret : Option FieldType} {R0 : Room} {lv : List (Option Value)} {st : List Value} {h : List va_E} {i na v : Nat} {f : Nat → Option Nat} {j : Int32} (C : vv_C g own nm cc nL ret R0 x) (d : decode cc pc = .ok (.aaload, 1)) (he : h[i]? = some (.inl (vv_cII g, na, .inr (.inr (.inr (.inr f)))))) (hin : vp_in j na) (hv : f j.toNatClampNeg = some (vv_b g + v)) (kk : vv_V g x nL k n (pc + 1) lv (vv_r0 g v :: st) h) : vv_V g x nL k n (pc) lv (.int j :: vv_r0 g i :: st) h := by
  obtain ⟨p, e, R, s, m, args, below, meth, c, Q⟩ := x
  intro H locs ls hS hW hl
  have hlt : j.toNatClampNeg < na := Nat.not_le.mp fun q => hin (Or.inr q)
  exact W.aald (v := vv_r0 g v) (ty := .array .int) C.1 C.2.1 (hW.2.1 i _ (vv_ws_get he)) ((hW.2.2.1.2 3 _ rfl).1 na (fun j => va_rf (f j))) rfl (fun q => by cases q) (by show ¬ (j < 0 ∨ (arrV _ _ _).slots.size ≤ _); rw [arrV_size]; exact hin) (by show (arrV _ _ _).slots[_]? = _; rw [arrV_read _ _ hlt, hv]; rfl) rfl rfl d (kk H locs ls hS hW hl)
theorem vv_aaldJ {g : vv_G} {x : vv_X} {own nm : String} {cc : ByteArray} {nL k n pc : Nat} {ret : Option FieldType} {R0 : Room} {lv : List (Option Value)} {st : List Value} {h : List va_E} {i na v : Nat} {f : Nat → Option Nat} {j : Int32} (C : vv_C g own nm cc nL ret R0 x) (d : decode cc pc = .ok (.aaload, 1)) (he : h[i]? = some (.inl (vv_cJJ g, na, .inr (.inr (.inr (.inr f)))))) (hin : vp_in j na) (hv : f j.toNatClampNeg = some (vv_b g + v)) (kk : vv_V g x nL k n (pc + 1) lv (vv_r0 g v :: st) h) : vv_V g x nL k n (pc) lv (.int j :: vv_r0 g i :: st) h := by
  obtain ⟨p, e, R, s, m, args, below, meth, c, Q⟩ := x
  intro H locs ls hS hW hl
  have hlt : j.toNatClampNeg < na := Nat.not_le.mp fun q => hin (Or.inr q)
  exact W.aald (v := vv_r0 g v) (ty := .array .long) C.1 C.2.1 (hW.2.1 i _ (vv_ws_get he)) ((hW.2.2.1.2 4 _ rfl).1 na (fun j => va_rf (f j))) rfl (fun q => by cases q) (by show ¬ (j < 0 ∨ (arrV _ _ _).slots.size ≤ _); rw [arrV_size]; exact hin) (by show (arrV _ _ _).slots[_]? = _; rw [arrV_read _ _ hlt, hv]; rfl) rfl rfl d (kk H locs ls hS hW hl)
theorem vv_alenI {g : vv_G} {x : vv_X} {own nm : String} {cc : ByteArray} {nL k n pc : Nat} {ret : Option FieldType} {R0 : Room} {lv : List (Option Value)} {st : List Value} {h : List va_E} {i : Nat} {z : vp_A} {v : Int32} (C : vv_C g own nm cc nL ret R0 x) (d : decode cc pc = .ok (.arraylength, 1)) (he : h[i]? = some (.inl (vv_cI g, z))) (hv : Int32.ofNat z.1 = v) (kk : vv_V g x nL k n (pc + 1) lv (.int v :: st) h) : vv_V g x nL k n (pc) lv (vv_r0 g i :: st) h := by
  obtain ⟨p, e, R, s, m, args, below, meth, c, Q⟩ := x
  intro H locs ls hS hW hl
  exact va_alen (D := vv_D g) C.1 C.2.1 hW.2.2.1 hW.2.1 i 0 (vv_ws_get he) rfl hv d (kk H locs ls hS hW hl)
theorem vv_alenJ {g : vv_G} {x : vv_X} {own nm : String} {cc : ByteArray} {nL k n pc : Nat} {ret : Option FieldType} {R0 : Room} {lv : List (Option Value)} {st : List Value} {h : List va_E} {i : Nat} {z : vp_A} {v : Int32} (C : vv_C g own nm cc nL ret R0 x) (d : decode cc pc = .ok (.arraylength, 1)) (he : h[i]? = some (.inl (vv_cJ g, z))) (hv : Int32.ofNat z.1 = v) (kk : vv_V g x nL k n (pc + 1) lv (.int v :: st) h) : vv_V g x nL k n (pc) lv (vv_r0 g i :: st) h := by
  obtain ⟨p, e, R, s, m, args, below, meth, c, Q⟩ := x
  intro H locs ls hS hW hl
  exact va_alen (D := vv_D g) C.1 C.2.1 hW.2.2.1 hW.2.1 i 1 (vv_ws_get he) rfl hv d (kk H locs ls hS hW hl)
theorem vv_alenZ {g : vv_G} {x : vv_X} {own nm : String} {cc : ByteArray} {nL k n pc : Nat} {ret : Option FieldType} {R0 : Room} {lv : List (Option Value)} {st : List Value} {h : List va_E} {i : Nat} {z : vp_A} {v : Int32} (C : vv_C g own nm cc nL ret R0 x) (d : decode cc pc = .ok (.arraylength, 1)) (he : h[i]? = some (.inl (vv_cZ g, z))) (hv : Int32.ofNat z.1 = v) (kk : vv_V g x nL k n (pc + 1) lv (.int v :: st) h) : vv_V g x nL k n (pc) lv (vv_r0 g i :: st) h := by
  obtain ⟨p, e, R, s, m, args, below, meth, c, Q⟩ := x
  intro H locs ls hS hW hl
  exact va_alen (D := vv_D g) C.1 C.2.1 hW.2.2.1 hW.2.1 i 2 (vv_ws_get he) rfl hv d (kk H locs ls hS hW hl)
theorem vv_getsB {g : vv_G} {x : vv_X} {own nm : String} {cc : ByteArray} {nL k n pc : Nat} {ret : Option FieldType} {R0 : Room} {lv : List (Option Value)} {st : List Value} {h : List va_E} {idx : Nat} (C : vv_C g own nm cc nL ret R0 x) (d : decode cc pc = .ok (.getstatic idx, 3)) (f : Cond.fieldLink own idx "LawfulSums$Numbers" "BASES" "[I" ∈ vv_Ws) (kk : vv_V g x nL k n (pc + 3) lv (.ref (vv_aB g) :: st) h) : vv_V g x nL k n (pc) lv (st) h := by
  obtain ⟨p, e, R, s, m, args, below, meth, c, Q⟩ := x
  intro H locs ls hS hW hl
  obtain ⟨cf, kf, fi, f9, a9, cell, h1, h2, h3, h4, h5, h6, h7, h8⟩ := hW.2.2.2.1
  exact W.gets C.1 C.2.1 C.2.2.2.2.2.1 (C.2.2.2.2.2.2.2.1 _ f) h1 h2 h3 h4 h5 (fun e => by rw [e] at h6; cases h6) h7 rfl d (kk H locs ls hS hW hl)
theorem vv_ildsB {g : vv_G} {x : vv_X} {own nm : String} {cc : ByteArray} {nL k n pc : Nat} {ret : Option FieldType} {R0 : Room} {lv : List (Option Value)} {st : List Value} {h : List va_E} {j : Int32} (C : vv_C g own nm cc nL ret R0 x) (d : decode cc pc = .ok (.iaload, 1)) (hin : vp_in j 6) (kk : vv_V g x nL k n (pc + 1) lv (.int (vv_fB j.toNatClampNeg) :: st) h) : vv_V g x nL k n (pc) lv (.int j :: .ref (vv_aB g) :: st) h := by
  obtain ⟨p, e, R, s, m, args, below, meth, c, Q⟩ := x
  intro H locs ls hS hW hl
  obtain ⟨cell, h1, h2, h3, h4, h5, h6, h7⟩ := hW.2.2.2.2.2.2.1
  exact W.iald (v := .int (vv_fB j.toNatClampNeg)) C.1 C.2.1 h1 h2 h3 (fun q => q.elim (fun q => hin (Or.inl q)) (fun q => hin (Or.inr (Nat.le_trans h4 q)))) (h6 _ (Nat.not_le.mp fun q => hin (Or.inr q))) rfl rfl d (kk H locs ls hS hW hl)
theorem vv_alensB {g : vv_G} {x : vv_X} {own nm : String} {cc : ByteArray} {nL k n pc : Nat} {ret : Option FieldType} {R0 : Room} {lv : List (Option Value)} {st : List Value} {h : List va_E} {v : Int32} (C : vv_C g own nm cc nL ret R0 x) (d : decode cc pc = .ok (.arraylength, 1)) (hv : Int32.ofNat 6 = v) (kk : vv_V g x nL k n (pc + 1) lv (.int v :: st) h) : vv_V g x nL k n (pc) lv (.ref (vv_aB g) :: st) h := by
  obtain ⟨p, e, R, s, m, args, below, meth, c, Q⟩ := x
  intro H locs ls hS hW hl
  subst hv
  obtain ⟨cell, h1, h2, h3, h4, h5, h6, h7⟩ := hW.2.2.2.2.2.2.1
  exact W.alen (n := Int32.ofNat 6) C.1 C.2.1 h1 h2 h5 rfl rfl d (kk H locs ls hS hW hl)
theorem vv_getsO {g : vv_G} {x : vv_X} {own nm : String} {cc : ByteArray} {nL k n pc : Nat} {ret : Option FieldType} {R0 : Room} {lv : List (Option Value)} {st : List Value} {h : List va_E} {idx : Nat} (C : vv_C g own nm cc nL ret R0 x) (d : decode cc pc = .ok (.getstatic idx, 3)) (f : Cond.fieldLink own idx "LawfulSums$Payments" "OWN" "[I" ∈ vv_Ws) (kk : vv_V g x nL k n (pc + 3) lv (.ref (vv_aO g) :: st) h) : vv_V g x nL k n (pc) lv (st) h := by
  obtain ⟨p, e, R, s, m, args, below, meth, c, Q⟩ := x
  intro H locs ls hS hW hl
  obtain ⟨cf, kf, fi, f9, a9, cell, h1, h2, h3, h4, h5, h6, h7, h8⟩ := hW.2.2.2.2.1
  exact W.gets C.1 C.2.1 C.2.2.2.2.2.1 (C.2.2.2.2.2.2.2.1 _ f) h1 h2 h3 h4 h5 (fun e => by rw [e] at h6; cases h6) h7 rfl d (kk H locs ls hS hW hl)
theorem vv_ildsO {g : vv_G} {x : vv_X} {own nm : String} {cc : ByteArray} {nL k n pc : Nat} {ret : Option FieldType} {R0 : Room} {lv : List (Option Value)} {st : List Value} {h : List va_E} {j : Int32} (C : vv_C g own nm cc nL ret R0 x) (d : decode cc pc = .ok (.iaload, 1)) (hin : vp_in j 32) (kk : vv_V g x nL k n (pc + 1) lv (.int (vv_fO j.toNatClampNeg) :: st) h) : vv_V g x nL k n (pc) lv (.int j :: .ref (vv_aO g) :: st) h := by
  obtain ⟨p, e, R, s, m, args, below, meth, c, Q⟩ := x
  intro H locs ls hS hW hl
  obtain ⟨cell, h1, h2, h3, h4, h5, h6, h7⟩ := hW.2.2.2.2.2.2.2.1
  exact W.iald (v := .int (vv_fO j.toNatClampNeg)) C.1 C.2.1 h1 h2 h3 (fun q => q.elim (fun q => hin (Or.inl q)) (fun q => hin (Or.inr (Nat.le_trans h4 q)))) (h6 _ (Nat.not_le.mp fun q => hin (Or.inr q))) rfl rfl d (kk H locs ls hS hW hl)
theorem vv_alensO {g : vv_G} {x : vv_X} {own nm : String} {cc : ByteArray} {nL k n pc : Nat} {ret : Option FieldType} {R0 : Room} {lv : List (Option Value)} {st : List Value} {h : List va_E} {v : Int32} (C : vv_C g own nm cc nL ret R0 x) (d : decode cc pc = .ok (.arraylength, 1)) (hv : Int32.ofNat 32 = v) (kk : vv_V g x nL k n (pc + 1) lv (.int v :: st) h) : vv_V g x nL k n (pc) lv (.ref (vv_aO g) :: st) h := by
  obtain ⟨p, e, R, s, m, args, below, meth, c, Q⟩ := x
  intro H locs ls hS hW hl
  subst hv
  obtain ⟨cell, h1, h2, h3, h4, h5, h6, h7⟩ := hW.2.2.2.2.2.2.2.1
  exact W.alen (n := Int32.ofNat 32) C.1 C.2.1 h1 h2 h5 rfl rfl d (kk H locs ls hS hW hl)
theorem vv_getsA {g : vv_G} {x : vv_X} {own nm : String} {cc : ByteArray} {nL k n pc : Nat} {ret : Option FieldType} {R0 : Room} {lv : List (Option Value)} {st : List Value} {h : List va_E} {idx : Nat} (C : vv_C g own nm cc nL ret R0 x) (d : decode cc pc = .ok (.getstatic idx, 3)) (f : Cond.fieldLink own idx "LawfulSums$Payments" "ABOVE" "[I" ∈ vv_Ws) (kk : vv_V g x nL k n (pc + 3) lv (.ref (vv_aA g) :: st) h) : vv_V g x nL k n (pc) lv (st) h := by
  obtain ⟨p, e, R, s, m, args, below, meth, c, Q⟩ := x
  intro H locs ls hS hW hl
  obtain ⟨cf, kf, fi, f9, a9, cell, h1, h2, h3, h4, h5, h6, h7, h8⟩ := hW.2.2.2.2.2.1
  exact W.gets C.1 C.2.1 C.2.2.2.2.2.1 (C.2.2.2.2.2.2.2.1 _ f) h1 h2 h3 h4 h5 (fun e => by rw [e] at h6; cases h6) h7 rfl d (kk H locs ls hS hW hl)
theorem vv_ildsA {g : vv_G} {x : vv_X} {own nm : String} {cc : ByteArray} {nL k n pc : Nat} {ret : Option FieldType} {R0 : Room} {lv : List (Option Value)} {st : List Value} {h : List va_E} {j : Int32} (C : vv_C g own nm cc nL ret R0 x) (d : decode cc pc = .ok (.iaload, 1)) (hin : vp_in j 8) (kk : vv_V g x nL k n (pc + 1) lv (.int (vv_fA j.toNatClampNeg) :: st) h) : vv_V g x nL k n (pc) lv (.int j :: .ref (vv_aA g) :: st) h := by
  obtain ⟨p, e, R, s, m, args, below, meth, c, Q⟩ := x
  intro H locs ls hS hW hl
  obtain ⟨cell, h1, h2, h3, h4, h5, h6, h7⟩ := hW.2.2.2.2.2.2.2.2
  exact W.iald (v := .int (vv_fA j.toNatClampNeg)) C.1 C.2.1 h1 h2 h3 (fun q => q.elim (fun q => hin (Or.inl q)) (fun q => hin (Or.inr (Nat.le_trans h4 q)))) (h6 _ (Nat.not_le.mp fun q => hin (Or.inr q))) rfl rfl d (kk H locs ls hS hW hl)
theorem vv_alensA {g : vv_G} {x : vv_X} {own nm : String} {cc : ByteArray} {nL k n pc : Nat} {ret : Option FieldType} {R0 : Room} {lv : List (Option Value)} {st : List Value} {h : List va_E} {v : Int32} (C : vv_C g own nm cc nL ret R0 x) (d : decode cc pc = .ok (.arraylength, 1)) (hv : Int32.ofNat 8 = v) (kk : vv_V g x nL k n (pc + 1) lv (.int v :: st) h) : vv_V g x nL k n (pc) lv (.ref (vv_aA g) :: st) h := by
  obtain ⟨p, e, R, s, m, args, below, meth, c, Q⟩ := x
  intro H locs ls hS hW hl
  subst hv
  obtain ⟨cell, h1, h2, h3, h4, h5, h6, h7⟩ := hW.2.2.2.2.2.2.2.2
  exact W.alen (n := Int32.ofNat 8) C.1 C.2.1 h1 h2 h5 rfl rfl d (kk H locs ls hS hW hl)
theorem vv_mmax {g : vv_G} {x : vv_X} {own nm : String} {cc : ByteArray} {nL k n pc : Nat} {ret : Option FieldType} {R0 : Room} {lv : List (Option Value)} {st : List Value} {h : List va_E} {idx : Nat} {v w : Int32} (C : vv_C g own nm cc nL ret R0 x) (d : decode cc pc = .ok (.invokestatic idx, 3)) (f : vv_lk own idx Lib.Math.max.name) (hr : 1 ≤ R0.frames ∧ (st.map fun v => v.category).sum + 13 ≤ R0.locals ∧ k ≤ R0.cells ∧ n ≤ R0.slots) (kk : vv_V g x nL k n (pc + 3) lv (.int (if v < w then w else v) :: st) h) : vv_V g x nL k n (pc) lv (.int w :: .int v :: st) h := by
  obtain ⟨p, e, R, s, m, args, below, meth, c, Q⟩ := x
  intro H locs ls hS hW hl
  have hR : R = R0 := C.2.2.2.2.2.2.2.2.2.2
  subst hR
  exact va_mmax C.1 C.2.1 (C.2.2.1.trans hl.1.symm) C.2.2.2.2.2.1 (C.2.2.2.2.2.2.2.1 _ f) (C.2.2.2.2.2.2.2.1 _ mt_max) (C.2.2.2.2.2.2.2.1 _ in_java_lang_Math) (C.2.2.2.2.2.2.2.1 _ mc_max) hr.1 hr.2.1 hr.2.2.1 hr.2.2.2 d (kk H locs ls hS hW hl)
theorem vv_mmin {g : vv_G} {x : vv_X} {own nm : String} {cc : ByteArray} {nL k n pc : Nat} {ret : Option FieldType} {R0 : Room} {lv : List (Option Value)} {st : List Value} {h : List va_E} {idx : Nat} {v w : Int32} (C : vv_C g own nm cc nL ret R0 x) (d : decode cc pc = .ok (.invokestatic idx, 3)) (f : vv_lk own idx Lib.Math.min.name) (hr : 1 ≤ R0.frames ∧ (st.map fun v => v.category).sum + 13 ≤ R0.locals ∧ k ≤ R0.cells ∧ n ≤ R0.slots) (kk : vv_V g x nL k n (pc + 3) lv (.int (if w < v then w else v) :: st) h) : vv_V g x nL k n (pc) lv (.int w :: .int v :: st) h := by
  obtain ⟨p, e, R, s, m, args, below, meth, c, Q⟩ := x
  intro H locs ls hS hW hl
  have hR : R = R0 := C.2.2.2.2.2.2.2.2.2.2
  subst hR
  exact va_mmin C.1 C.2.1 (C.2.2.1.trans hl.1.symm) C.2.2.2.2.2.1 (C.2.2.2.2.2.2.2.1 _ f) (C.2.2.2.2.2.2.2.1 _ mt_min) (C.2.2.2.2.2.2.2.1 _ in_java_lang_Math) (C.2.2.2.2.2.2.2.1 _ mc_min) hr.1 hr.2.1 hr.2.2.1 hr.2.2.2 d (kk H locs ls hS hW hl)
theorem vv_mminL {g : vv_G} {x : vv_X} {own nm : String} {cc : ByteArray} {nL k n pc : Nat} {ret : Option FieldType} {R0 : Room} {lv : List (Option Value)} {st : List Value} {h : List va_E} {idx : Nat} {v w : Int64} (C : vv_C g own nm cc nL ret R0 x) (d : decode cc pc = .ok (.invokestatic idx, 3)) (f : vv_lk own idx Lib.MathLoose.min_long.x) (hr : 1 ≤ R0.frames ∧ (st.map fun v => v.category).sum + 15 ≤ R0.locals ∧ k ≤ R0.cells ∧ n ≤ R0.slots) (kk : vv_V g x nL k n (pc + 3) lv (.long (if w < v then w else v) :: st) h) : vv_V g x nL k n (pc) lv (.long w :: .long v :: st) h := by
  obtain ⟨p, e, R, s, m, args, below, meth, c, Q⟩ := x
  intro H locs ls hS hW hl
  have hR : R = R0 := C.2.2.2.2.2.2.2.2.2.2
  subst hR
  exact va_mmin_long C.1 C.2.1 (C.2.2.1.trans hl.1.symm) C.2.2.2.2.2.1 (C.2.2.2.2.2.2.2.1 _ f) (C.2.2.2.2.2.2.2.1 _ mt_minL) (C.2.2.2.2.2.2.2.1 _ in_java_lang_Math) (C.2.2.2.2.2.2.2.1 _ mc_minL) hr.1 hr.2.1 hr.2.2.1 hr.2.2.2 d (kk H locs ls hS hW hl)
theorem vv_mabs {g : vv_G} {x : vv_X} {own nm : String} {cc : ByteArray} {nL k n pc : Nat} {ret : Option FieldType} {R0 : Room} {lv : List (Option Value)} {st : List Value} {h : List va_E} {idx : Nat} {v : Int32} (C : vv_C g own nm cc nL ret R0 x) (d : decode cc pc = .ok (.invokestatic idx, 3)) (f : vv_lk own idx Lib.Math.abs.name) (hr : 1 ≤ R0.frames ∧ (st.map fun v => v.category).sum + 13 ≤ R0.locals ∧ k ≤ R0.cells ∧ n ≤ R0.slots) (kk : vv_V g x nL k n (pc + 3) lv (.int (if 0 ≤ v then v else 0 - v) :: st) h) : vv_V g x nL k n (pc) lv (.int v :: st) h := by
  obtain ⟨p, e, R, s, m, args, below, meth, c, Q⟩ := x
  intro H locs ls hS hW hl
  have hR : R = R0 := C.2.2.2.2.2.2.2.2.2.2
  subst hR
  exact va_mabs C.1 C.2.1 (C.2.2.1.trans hl.1.symm) C.2.2.2.2.2.1 (C.2.2.2.2.2.2.2.1 _ f) (C.2.2.2.2.2.2.2.1 _ mt_abs) (C.2.2.2.2.2.2.2.1 _ in_java_lang_Math) (C.2.2.2.2.2.2.2.1 _ mc_abs) hr.1 hr.2.1 hr.2.2.1 hr.2.2.2 d (kk H locs ls hS hW hl)
theorem vv_copyI {g : vv_G} {x : vv_X} {own nm : String} {cc : ByteArray} {nL k n pc : Nat} {ret : Option FieldType} {R0 : Room} {lv : List (Option Value)} {st : List Value} {h : List va_E} {idx i i1 na nb : Nat} {f f1 : Nat → Int32} {sp dp m9 : Int32} (C : vv_C g own nm cc nL ret R0 x) (hfl : vv_fl g = false) (d : decode cc pc = .ok (.invokestatic idx, 3)) (fl : vv_lk own idx arraycopyName) (he : h[i]? = some (.inl (vv_cI g, na, .inl f))) (he1 : h[i1]? = some (.inl (vv_cI g, nb, .inl f1))) (h1 : ¬ sp < 0) (h2 : ¬ dp < 0) (h3 : ¬ m9 < 0) (h4 : sp.toNatClampNeg + m9.toNatClampNeg ≤ na) (h5 : dp.toNatClampNeg + m9.toNatClampNeg ≤ nb) (hr : 1 ≤ R0.frames ∧ (st.map fun v => v.category).sum + (nativeFrameWords "java/lang/System" "arraycopy" 5 + 11) ≤ R0.locals) (kk : vv_V g x nL k n (pc + 3) lv (st) (h.set i1 (.inl (vv_cI g, nb, .inl (va_cpy f f1 sp.toNatClampNeg dp.toNatClampNeg m9.toNatClampNeg))))) : vv_V g x nL k n (pc) lv (.int m9 :: .int dp :: vv_r0 g i1 :: .int sp :: vv_r0 g i :: st) h := by
  obtain ⟨p, e, R, s, m, args, below, meth, c, Q⟩ := x
  intro H locs ls hS hW hl
  have hR : R = R0 := C.2.2.2.2.2.2.2.2.2.2
  subst hR
  refine va_copyi (D := vv_D g) (A := vv_A g) C.1 C.2.1 (C.2.2.1.trans hl.1.symm) C.2.2.2.2.2.1 (C.2.2.2.2.2.2.2.1 _ fl) (C.2.2.2.2.2.2.2.1 _ mt_copyN) (C.2.2.2.2.2.2.2.1 _ mt_copyS) (C.2.2.2.2.2.2.2.1 _ in_java_lang_System) hW.2.2.1 hW.2.1 (vv_ws_D g h) hS i i1 0 0 (vv_ws_get he) (vv_ws_get he1) rfl rfl rfl h1 h2 h3 h4 h5 (fun _ _ => rfl) hr.1 hr.2 d (fun H1 locs1 hP1 hD1 hS1 => ?_)
  exact kk H1 locs1 ls hS1 (vv_after _ hW hS C.2.2.2.2.2.2.2.2.1 hP1 (vv_nof hfl) hS1) hl
theorem vv_copyJ {g : vv_G} {x : vv_X} {own nm : String} {cc : ByteArray} {nL k n pc : Nat} {ret : Option FieldType} {R0 : Room} {lv : List (Option Value)} {st : List Value} {h : List va_E} {idx i i1 na nb : Nat} {f f1 : Nat → Int64} {sp dp m9 : Int32} (C : vv_C g own nm cc nL ret R0 x) (hfl : vv_fl g = false) (d : decode cc pc = .ok (.invokestatic idx, 3)) (fl : vv_lk own idx arraycopyName) (he : h[i]? = some (.inl (vv_cJ g, na, .inr (.inl f)))) (he1 : h[i1]? = some (.inl (vv_cJ g, nb, .inr (.inl f1)))) (h1 : ¬ sp < 0) (h2 : ¬ dp < 0) (h3 : ¬ m9 < 0) (h4 : sp.toNatClampNeg + m9.toNatClampNeg ≤ na) (h5 : dp.toNatClampNeg + m9.toNatClampNeg ≤ nb) (hr : 1 ≤ R0.frames ∧ (st.map fun v => v.category).sum + (nativeFrameWords "java/lang/System" "arraycopy" 5 + 11) ≤ R0.locals) (kk : vv_V g x nL k n (pc + 3) lv (st) (h.set i1 (.inl (vv_cJ g, nb, .inr (.inl (va_cpy f f1 sp.toNatClampNeg dp.toNatClampNeg m9.toNatClampNeg)))))) : vv_V g x nL k n (pc) lv (.int m9 :: .int dp :: vv_r0 g i1 :: .int sp :: vv_r0 g i :: st) h := by
  obtain ⟨p, e, R, s, m, args, below, meth, c, Q⟩ := x
  intro H locs ls hS hW hl
  have hR : R = R0 := C.2.2.2.2.2.2.2.2.2.2
  subst hR
  refine va_copyl (D := vv_D g) (A := vv_A g) C.1 C.2.1 (C.2.2.1.trans hl.1.symm) C.2.2.2.2.2.1 (C.2.2.2.2.2.2.2.1 _ fl) (C.2.2.2.2.2.2.2.1 _ mt_copyN) (C.2.2.2.2.2.2.2.1 _ mt_copyS) (C.2.2.2.2.2.2.2.1 _ in_java_lang_System) hW.2.2.1 hW.2.1 (vv_ws_D g h) hS i i1 1 1 (vv_ws_get he) (vv_ws_get he1) rfl rfl rfl h1 h2 h3 h4 h5 (fun _ _ => rfl) hr.1 hr.2 d (fun H1 locs1 hP1 hD1 hS1 => ?_)
  exact kk H1 locs1 ls hS1 (vv_after _ hW hS C.2.2.2.2.2.2.2.2.1 hP1 (vv_nof hfl) hS1) hl
/-! CONTRACTS: from a heap h (a list of cells), with these arguments, the method answers r and leaves h1, and post r h1 -/
def vv_Pc (g : vv_G) (as : List Value) (h : List va_E) : Array Value → State → Prop := va_Pc as (fun U => vv_W g h U U.heap ∧ vv_N U)
def vv_B (g : vv_G) (h : List va_E) (t : State) : Prop := vv_W g h t t.heap
def vv_KI (g : vv_G) (y : MethodName) (cc : ByteArray) (nL : Nat) (ret : Option FieldType) (rm : Room) (as : List Value) (h : List va_E) (post : Int32 → List va_E → Prop) : Prop := Met (vv_l g) y (vv_ww y cc nL ret) rm (vv_Pc g as h) (va_Qi post (vv_B g) (vv_A g)) rm.cells rm.slots (vv_A g)
def vv_KL (g : vv_G) (y : MethodName) (cc : ByteArray) (nL : Nat) (ret : Option FieldType) (rm : Room) (as : List Value) (h : List va_E) (post : Int64 → List va_E → Prop) : Prop := Met (vv_l g) y (vv_ww y cc nL ret) rm (vv_Pc g as h) (va_Ql post (vv_B g) (vv_A g)) rm.cells rm.slots (vv_A g)
def vv_KV (g : vv_G) (y : MethodName) (cc : ByteArray) (nL : Nat) (ret : Option FieldType) (rm : Room) (as : List Value) (h : List va_E) (post : List va_E → Prop) : Prop := Met (vv_l g) y (vv_ww y cc nL ret) rm (vv_Pc g as h) (va_Qv post (vv_B g) (vv_A g)) rm.cells rm.slots (vv_A g)
/-- the goal of a method's walk -/
def vv_FI (g : vv_G) (post : Int32 → List va_E → Prop) (x : vv_X) : Prop := match x with
  | (_, _, R, s, _, args, below, _, _, Q) => Q = MQ below (va_Qi post (vv_B g) (vv_A g)) args s R.cells R.slots (vv_A g)
def vv_FL (g : vv_G) (post : Int64 → List va_E → Prop) (x : vv_X) : Prop := match x with
  | (_, _, R, s, _, args, below, _, _, Q) => Q = MQ below (va_Ql post (vv_B g) (vv_A g)) args s R.cells R.slots (vv_A g)
def vv_FV (g : vv_G) (post : List va_E → Prop) (x : vv_X) : Prop := match x with
  | (_, _, R, s, _, args, below, _, _, Q) => Q = MQ below (va_Qv post (vv_B g) (vv_A g)) args s R.cells R.slots (vv_A g)
/-- the locals at the entry -/
def vv_l0 : List Value → List (Option Value)
  | [] => []
  | .long z :: t => some (.long z) :: none :: vv_l0 t
  | .double z :: t => some (.double z) :: none :: vv_l0 t
  | v :: t => some v :: vv_l0 t
def vv_lv (nL : Nat) (as : List Value) : List (Option Value) := vv_l0 as ++ List.replicate (nL - (vv_l0 as).length) none
theorem vv_l0_in : ∀ (as : List Value) (i j : Nat) (v : Value), (vv_l0 as)[j]? = some (some v) → (i + j, v) ∈ lv_args i as
  | [], i, j, v, h => by simp [vv_l0] at h
  | a :: t, i, j, v, h => by
    have key1 : vv_l0 (a :: t) = some a :: vv_l0 t → a.category ≠ 2 → (i + j, v) ∈ lv_args i (a :: t) := by
      intro e hc
      rw [e] at h
      show (i + j, v) ∈ (i, a) :: lv_args (if a.category = 2 then i + 2 else i + 1) t
      rw [if_neg hc]
      cases j with
      | zero => cases h; exact List.mem_cons_self
      | succ j =>
        refine List.mem_cons_of_mem _ ?_
        have := vv_l0_in t (i + 1) j v h
        rw [show i + (j + 1) = i + 1 + j by omega]
        exact this
    have key2 : vv_l0 (a :: t) = some a :: none :: vv_l0 t → a.category = 2 → (i + j, v) ∈ lv_args i (a :: t) := by
      intro e hc
      rw [e] at h
      show (i + j, v) ∈ (i, a) :: lv_args (if a.category = 2 then i + 2 else i + 1) t
      rw [if_pos hc]
      match j, h with
      | 0, h => cases h; exact List.mem_cons_self
      | 1, h => cases h
      | j + 2, h =>
        refine List.mem_cons_of_mem _ ?_
        have := vv_l0_in t (i + 2) j v h
        rw [show i + (j + 2) = i + 2 + j by omega]
        exact this
    cases a <;> first | exact key1 rfl (by simp [Value.category]) | exact key2 rfl (by simp [Value.category])
theorem vv_entry {as : List Value} {nL : Nat} (hn : (lg_sl as).length ≤ nL) : vv_ok ((lg_sl as ++ List.replicate (nL - (lg_sl as).length) Slot.unset).toArray) nL (vv_lv nL as) := by
  refine vv_sub (lv_entry as hn) (fun i v hi => ?_)
  unfold vv_lv at hi
  have h2 : (vv_l0 as)[i]? = some (some v) := by
    by_cases hl : i < (vv_l0 as).length
    · rw [List.getElem?_append_left hl] at hi
      exact hi
    · rw [List.getElem?_append_right (by omega), List.getElem?_replicate] at hi
      split at hi <;> cases hi
  have := vv_l0_in as 0 i v h2
  rw [Nat.zero_add] at this
  exact this

theorem vv_ofI {g : vv_G} {y : MethodName} {cc : ByteArray} {nL na : Nat} {ret : Option FieldType} {rm : Room} {as : List Value} {h : List va_E} {post : Int32 → List va_E → Prop} (f : vv_cb y cc nL ret na) (hn : (lg_sl as).length ≤ nL) (body : ∀ x : vv_X, vv_C g y.cls y.name cc nL ret rm x → vv_FI g post x → vv_V g x nL 0 0 0 (vv_lv nL as) [] h) : vv_KI g y cc nL ret rm as h post := by
  refine Met.ofW (cc := cc) (maxL := nL) (ret := ret) f.2.2.2 rfl ?_
  intro p e s m args below meth c s₁ B hml hv
  obtain ⟨rfl, hW, hN⟩ := hv
  have hts := atoms_spec (ws := vv_ww y cc nL ret) B.pre
  rw [lg_entry_eq]
  have key := body (p, e, rm, s, m, as.toArray, below, meth, c, MQ below (va_Qi post (vv_B g) (vv_A g)) as.toArray s rm.cells rm.slots (vv_A g)) ⟨B.exec, B.bytes, hml, B.returns, B.notSynchronized, findClass_of_methodNamed B.named, (name_of_methodNamed B.named B.method).1, fun w hw => hts w (List.mem_cons_of_mem _ hw), hW.1.1, hN, rfl⟩ rfl
  exact key s.heap [] _ va_S.rf hW (vv_entry hn)
theorem vv_ofL {g : vv_G} {y : MethodName} {cc : ByteArray} {nL na : Nat} {ret : Option FieldType} {rm : Room} {as : List Value} {h : List va_E} {post : Int64 → List va_E → Prop} (f : vv_cb y cc nL ret na) (hn : (lg_sl as).length ≤ nL) (body : ∀ x : vv_X, vv_C g y.cls y.name cc nL ret rm x → vv_FL g post x → vv_V g x nL 0 0 0 (vv_lv nL as) [] h) : vv_KL g y cc nL ret rm as h post := by
  refine Met.ofW (cc := cc) (maxL := nL) (ret := ret) f.2.2.2 rfl ?_
  intro p e s m args below meth c s₁ B hml hv
  obtain ⟨rfl, hW, hN⟩ := hv
  have hts := atoms_spec (ws := vv_ww y cc nL ret) B.pre
  rw [lg_entry_eq]
  have key := body (p, e, rm, s, m, as.toArray, below, meth, c, MQ below (va_Ql post (vv_B g) (vv_A g)) as.toArray s rm.cells rm.slots (vv_A g)) ⟨B.exec, B.bytes, hml, B.returns, B.notSynchronized, findClass_of_methodNamed B.named, (name_of_methodNamed B.named B.method).1, fun w hw => hts w (List.mem_cons_of_mem _ hw), hW.1.1, hN, rfl⟩ rfl
  exact key s.heap [] _ va_S.rf hW (vv_entry hn)
theorem vv_ofV {g : vv_G} {y : MethodName} {cc : ByteArray} {nL na : Nat} {ret : Option FieldType} {rm : Room} {as : List Value} {h : List va_E} {post : List va_E → Prop} (f : vv_cb y cc nL ret na) (hn : (lg_sl as).length ≤ nL) (body : ∀ x : vv_X, vv_C g y.cls y.name cc nL ret rm x → vv_FV g post x → vv_V g x nL 0 0 0 (vv_lv nL as) [] h) : vv_KV g y cc nL ret rm as h post := by
  refine Met.ofW (cc := cc) (maxL := nL) (ret := ret) f.2.2.2 rfl ?_
  intro p e s m args below meth c s₁ B hml hv
  obtain ⟨rfl, hW, hN⟩ := hv
  have hts := atoms_spec (ws := vv_ww y cc nL ret) B.pre
  rw [lg_entry_eq]
  have key := body (p, e, rm, s, m, as.toArray, below, meth, c, MQ below (va_Qv post (vv_B g) (vv_A g)) as.toArray s rm.cells rm.slots (vv_A g)) ⟨B.exec, B.bytes, hml, B.returns, B.notSynchronized, findClass_of_methodNamed B.named, (name_of_methodNamed B.named B.method).1, fun w hw => hts w (List.mem_cons_of_mem _ hw), hW.1.1, hN, rfl⟩ rfl
  exact key s.heap [] _ va_S.rf hW (vv_entry hn)
theorem vv_iret {g : vv_G} {x : vv_X} {own nm : String} {cc : ByteArray} {nL k n pc : Nat} {ret : Option FieldType} {R0 : Room} {lv : List (Option Value)} {st : List Value} {h : List va_E} {v : Int32} {ty : FieldType} {post : Int32 → List va_E → Prop} (C : vv_C g own nm cc nL ret R0 x) (F : vv_FI g post x) (d : decode cc pc = .ok (.ireturn, 1)) (hr : ret = some ty) (hz : narrow ty (.int v) = .int v) (hk : k ≤ R0.cells ∧ n ≤ R0.slots) (hp : post v h) : vv_V g x nL k n (pc) lv ([.int v]) h := by
  obtain ⟨p, e, R, s, m, args, below, meth, c, Q⟩ := x
  intro H locs ls hS hW hl
  have hR : R = R0 := C.2.2.2.2.2.2.2.2.2.2
  subst hR
  have F : Q = _ := F
  subst F
  refine W.widen hk.1 hk.2 ?_
  exact W.zret C.1 C.2.1 (C.2.2.2.1.trans hr) hz (fun t ht hWm => ⟨⟨v, h, rfl, hp, by show vv_W g h t t.heap; rw [ht]; exact vv_W.moved hWm.alike hW⟩, hS.F ht⟩) hS.2.2 d C.2.2.2.2.1
theorem vv_lret {g : vv_G} {x : vv_X} {own nm : String} {cc : ByteArray} {nL k n pc : Nat} {ret : Option FieldType} {R0 : Room} {lv : List (Option Value)} {st : List Value} {h : List va_E} {v : Int64} {post : Int64 → List va_E → Prop} (C : vv_C g own nm cc nL ret R0 x) (F : vv_FL g post x) (d : decode cc pc = .ok (.lreturn, 1)) (hr : ret = some .long) (hk : k ≤ R0.cells ∧ n ≤ R0.slots) (hp : post v h) : vv_V g x nL k n (pc) lv ([.long v]) h := by
  obtain ⟨p, e, R, s, m, args, below, meth, c, Q⟩ := x
  intro H locs ls hS hW hl
  have hR : R = R0 := C.2.2.2.2.2.2.2.2.2.2
  subst hR
  have F : Q = _ := F
  subst F
  refine W.widen hk.1 hk.2 ?_
  exact W.lret C.1 C.2.1 (C.2.2.2.1.trans hr) (fun t ht hWm => ⟨⟨v, h, rfl, hp, by show vv_W g h t t.heap; rw [ht]; exact vv_W.moved hWm.alike hW⟩, hS.F ht⟩) hS.2.2 d C.2.2.2.2.1
theorem vv_vret {g : vv_G} {x : vv_X} {own nm : String} {cc : ByteArray} {nL k n pc : Nat} {ret : Option FieldType} {R0 : Room} {lv : List (Option Value)} {st : List Value} {h : List va_E} {post : List va_E → Prop} (C : vv_C g own nm cc nL ret R0 x) (F : vv_FV g post x) (d : decode cc pc = .ok (.return_, 1)) (hr : ret = none) (hk : k ≤ R0.cells ∧ n ≤ R0.slots) (hp : post h) : vv_V g x nL k n (pc) lv ([]) h := by
  obtain ⟨p, e, R, s, m, args, below, meth, c, Q⟩ := x
  intro H locs ls hS hW hl
  have hR : R = R0 := C.2.2.2.2.2.2.2.2.2.2
  subst hR
  have F : Q = _ := F
  subst F
  refine W.widen hk.1 hk.2 ?_
  exact W.vret C.1 C.2.1 (C.2.2.2.1.trans hr) (fun t ht hWm => ⟨⟨h, rfl, hp, by show vv_W g h t t.heap; rw [ht]; exact vv_W.moved hWm.alike hW⟩, hS.F ht⟩) hS.2.2 d C.2.2.2.2.1
theorem vv_good {y : MethodName} {cc : ByteArray} {nL : Nat} {ret : Option FieldType} {na : Nat} (f : vv_cb y cc nL ret na) : GoodIn vv_Ws (vv_ww y cc nL ret) := by
  intro w hw
  rcases List.mem_cons.mp hw with e | e
  · subst e
    exact ⟨f.1, good_of_word (List.mem_filter.mp f.1).2⟩
  · exact ⟨e, good_of_word (List.mem_filter.mp e).2⟩
theorem vv_blind {g : vv_G} {as : List Value} {h : List va_E} : FrameBlind (vv_Pc g as h) := by
  intro a U fr mk q
  obtain ⟨q0, q1, q2⟩ := q
  exact ⟨q0, vv_W.moved (u := U) (U := U.calling fr mk a) (Vm.Alike.refl U.vm) q1, fun w hw => by
    have h1 := q2 w hw
    simp only [vv_nest, List.mem_cons, List.not_mem_nil, or_false] at hw
    rcases hw with e | e | e | e | e | e | e | e <;> (subst e; first | exact h1.same (U := U.calling fr mk a) rfl rfl | exact Stand.arrayOver_alikeB (s := U) (U := U.calling fr mk a) (Vm.Alike.refl U.vm) h1)⟩
abbrev vv_rok (rm R0 : Room) (nL : Nat) (k n : Nat) (st : List Value) : Prop := (rm.frames + 1 ≤ R0.frames ∧ 8 + (nL + 11) + rm.locals ≤ R0.locals) ∧ (k + rm.cells ≤ R0.cells ∧ n + rm.slots ≤ R0.slots) ∧ (st.map fun v => v.category).sum ≤ 8
theorem vv_calli {g : vv_G} {x : vv_X} {own nm : String} {cc : ByteArray} {nL k n pc : Nat} {ret : Option FieldType} {R0 : Room} {lv : List (Option Value)} {st : List Value} {h : List va_E} {y : MethodName} {cc9 : ByteArray} {nL9 na idx : Nat} {ret9 : Option FieldType} {rm : Room} {stk : List Value} {post : Int32 → List va_E → Prop} {i ci : Nat} {fs As : List Value} {q9 : vw_C} (C : vv_C g own nm cc nL ret R0 x) (d : decode cc pc = .ok (.invokevirtual idx, 3)) (M : vv_KI g y cc9 nL9 ret9 rm (vv_r0 g i :: As) h post) (f : vv_cb y cc9 nL9 ret9 na) (fv : vv_vm y) (fl : vv_lk own idx y) (he : h[i]? = some (.inr (ci, fs))) (hc : vwCl[ci]? = some q9) (hy : q9.1 = y.cls) (hn : As.length = na) (hst : As.reverse ++ vv_r0 g i :: st = stk) (hro : vv_rok rm R0 nL9 k n st) (kk : ∀ (r9 : Int32) (h9 : List va_E), post r9 h9 → vv_V g x nL (k + rm.cells) (n + rm.slots) (pc + 3) lv (.int r9 :: st) h9) : vv_V g x nL k n (pc) lv (stk) h := by
  obtain ⟨p, e, R, s, m, args, below, meth, c, Q⟩ := x
  intro H locs ls hS hW hl
  have hR : R = R0 := C.2.2.2.2.2.2.2.2.2.2
  subst hR
  subst hst
  have cb := callB_of (R := R) (own := own) (index := idx) na C.2.2.2.2.2.2.2.1 (vv_good f) rfl rfl rfl (C.2.2.2.2.2.2.2.1 _ f.2.1) (C.2.2.2.2.2.2.2.1 _ fl) f.2.2.1 hro.1
  refine va_calli (va_runV (As := As) (rest := st) ⟨C.1, C.2.1, C.2.2.1, C.2.2.2.2.2.1, C.2.2.2.2.2.2.2.1⟩ M ⟨cb, (C.2.2.2.2.2.2.2.1 _ fv.1), (C.2.2.2.2.2.2.2.1 _ fv.2)⟩ ⟨vv_blind, by rw [← hy]; exact va_recv hW.2.2.1 hW.2.1 hc (vv_ws_get he), fun U hU hWm => ⟨rfl, by rw [hU]; exact vv_W.moved hWm.alike hW, C.2.2.2.2.2.2.2.2.2.1.warm hWm⟩⟩ rfl hn hl.1 rfl (lv_room hro.2.2) d hro.2.1) hS (fun q _ z => z) (fun q z => z) (fun r9 u t H1 locs1 ht hvm hp hB hz hk hS1 => ?_)
  exact kk r9 u hp H1 locs1 ls hS1 (by have hB : vv_W g u t t.heap := hB; rw [ht] at hB; exact vv_W.moved hvm.symm hB) hl
theorem vv_callsi {g : vv_G} {x : vv_X} {own nm : String} {cc : ByteArray} {nL k n pc : Nat} {ret : Option FieldType} {R0 : Room} {lv : List (Option Value)} {st : List Value} {h : List va_E} {y : MethodName} {cc9 : ByteArray} {nL9 na idx : Nat} {ret9 : Option FieldType} {rm : Room} {stk : List Value} {post : Int32 → List va_E → Prop} {As : List Value} (C : vv_C g own nm cc nL ret R0 x) (d : decode cc pc = .ok (.invokestatic idx, 3)) (M : vv_KI g y cc9 nL9 ret9 rm As h post) (f : vv_cb y cc9 nL9 ret9 na) (fs : vv_sm y) (fl : vv_lk own idx y) (hn : As.length = na) (hst : As.reverse ++ st = stk) (hro : vv_rok rm R0 nL9 k n st) (kk : ∀ (r9 : Int32) (h9 : List va_E), post r9 h9 → vv_V g x nL (k + rm.cells) (n + rm.slots) (pc + 3) lv (.int r9 :: st) h9) : vv_V g x nL k n (pc) lv (stk) h := by
  obtain ⟨p, e, R, s, m, args, below, meth, c, Q⟩ := x
  intro H locs ls hS hW hl
  have hR : R = R0 := C.2.2.2.2.2.2.2.2.2.2
  subst hR
  subst hst
  have cb := callB_of (R := R) (own := own) (index := idx) na C.2.2.2.2.2.2.2.1 (vv_good f) rfl rfl rfl (C.2.2.2.2.2.2.2.1 _ f.2.1) (C.2.2.2.2.2.2.2.1 _ fl) f.2.2.1 hro.1
  refine va_calli (va_runS (As := As) (rest := st) ⟨C.1, C.2.1, C.2.2.1, C.2.2.2.2.2.1, C.2.2.2.2.2.2.2.1⟩ M ⟨cb, (C.2.2.2.2.2.2.2.1 _ fs)⟩ ⟨vv_blind, fun U hU hWm => ⟨rfl, by rw [hU]; exact vv_W.moved hWm.alike hW, C.2.2.2.2.2.2.2.2.2.1.warm hWm⟩⟩ rfl hn hl.1 rfl (lv_room hro.2.2) d hro.2.1) hS (fun q _ z => z) (fun q z => z) (fun r9 u t H1 locs1 ht hvm hp hB hz hk hS1 => ?_)
  exact kk r9 u hp H1 locs1 ls hS1 (by have hB : vv_W g u t t.heap := hB; rw [ht] at hB; exact vv_W.moved hvm.symm hB) hl
theorem vv_callNi {g : vv_G} {x : vv_X} {own nm : String} {cc : ByteArray} {nL k n pc : Nat} {ret : Option FieldType} {R0 : Room} {lv : List (Option Value)} {st : List Value} {h : List va_E} {y : MethodName} {cc9 : ByteArray} {nL9 na idx : Nat} {ret9 : Option FieldType} {rm : Room} {stk : List Value} {post : Int32 → List va_E → Prop} {As : List Value} {host : String} (C : vv_C g own nm cc nL ret R0 x) (d : decode cc pc = .ok (.invokestatic idx, 3)) (M : vv_KI g y cc9 nL9 ret9 rm As h post) (f : vv_cb y cc9 nL9 ret9 na) (fs : vv_sm y) (fl : Cond.methodLinkNest own idx y host ∈ vv_nest) (hn : As.length = na) (hst : As.reverse ++ st = stk) (hro : vv_rok rm R0 nL9 k n st) (kk : ∀ (r9 : Int32) (h9 : List va_E), post r9 h9 → vv_V g x nL (k + rm.cells) (n + rm.slots) (pc + 3) lv (.int r9 :: st) h9) : vv_V g x nL k n (pc) lv (stk) h := by
  obtain ⟨p, e, R, s, m, args, below, meth, c, Q⟩ := x
  intro H locs ls hS hW hl
  have hR : R = R0 := C.2.2.2.2.2.2.2.2.2.2
  subst hR
  subst hst
  have cb := va_cnB (R := R) (own := own) (index := idx) (host := host) na C.2.2.2.2.2.2.2.1 (vv_good f) rfl rfl rfl (C.2.2.2.2.2.2.2.2.2.1 _ fl) (C.2.2.2.2.2.2.2.1 _ f.2.1) f.2.2.1 hro.1
  refine va_calli (va_runSN (As := As) (rest := st) ⟨C.1, C.2.1, C.2.2.1, C.2.2.2.2.2.1, C.2.2.2.2.2.2.2.1⟩ M ⟨cb, (C.2.2.2.2.2.2.2.1 _ fs), trivial⟩ ⟨vv_blind, fun U hU hWm => ⟨rfl, by rw [hU]; exact vv_W.moved hWm.alike hW, C.2.2.2.2.2.2.2.2.2.1.warm hWm⟩⟩ rfl hn hl.1 rfl (lv_room hro.2.2) d hro.2.1) hS (fun q _ z => z) (fun q z => z) (fun r9 u t H1 locs1 ht hvm hp hB hz hk hS1 => ?_)
  exact kk r9 u hp H1 locs1 ls hS1 (by have hB : vv_W g u t t.heap := hB; rw [ht] at hB; exact vv_W.moved hvm.symm hB) hl
theorem vv_calll {g : vv_G} {x : vv_X} {own nm : String} {cc : ByteArray} {nL k n pc : Nat} {ret : Option FieldType} {R0 : Room} {lv : List (Option Value)} {st : List Value} {h : List va_E} {y : MethodName} {cc9 : ByteArray} {nL9 na idx : Nat} {ret9 : Option FieldType} {rm : Room} {stk : List Value} {post : Int64 → List va_E → Prop} {i ci : Nat} {fs As : List Value} {q9 : vw_C} (C : vv_C g own nm cc nL ret R0 x) (d : decode cc pc = .ok (.invokevirtual idx, 3)) (M : vv_KL g y cc9 nL9 ret9 rm (vv_r0 g i :: As) h post) (f : vv_cb y cc9 nL9 ret9 na) (fv : vv_vm y) (fl : vv_lk own idx y) (he : h[i]? = some (.inr (ci, fs))) (hc : vwCl[ci]? = some q9) (hy : q9.1 = y.cls) (hn : As.length = na) (hst : As.reverse ++ vv_r0 g i :: st = stk) (hro : vv_rok rm R0 nL9 k n st) (kk : ∀ (r9 : Int64) (h9 : List va_E), post r9 h9 → vv_V g x nL (k + rm.cells) (n + rm.slots) (pc + 3) lv (.long r9 :: st) h9) : vv_V g x nL k n (pc) lv (stk) h := by
  obtain ⟨p, e, R, s, m, args, below, meth, c, Q⟩ := x
  intro H locs ls hS hW hl
  have hR : R = R0 := C.2.2.2.2.2.2.2.2.2.2
  subst hR
  subst hst
  have cb := callB_of (R := R) (own := own) (index := idx) na C.2.2.2.2.2.2.2.1 (vv_good f) rfl rfl rfl (C.2.2.2.2.2.2.2.1 _ f.2.1) (C.2.2.2.2.2.2.2.1 _ fl) f.2.2.1 hro.1
  refine va_calll (va_runV (As := As) (rest := st) ⟨C.1, C.2.1, C.2.2.1, C.2.2.2.2.2.1, C.2.2.2.2.2.2.2.1⟩ M ⟨cb, (C.2.2.2.2.2.2.2.1 _ fv.1), (C.2.2.2.2.2.2.2.1 _ fv.2)⟩ ⟨vv_blind, by rw [← hy]; exact va_recv hW.2.2.1 hW.2.1 hc (vv_ws_get he), fun U hU hWm => ⟨rfl, by rw [hU]; exact vv_W.moved hWm.alike hW, C.2.2.2.2.2.2.2.2.2.1.warm hWm⟩⟩ rfl hn hl.1 rfl (lv_room hro.2.2) d hro.2.1) hS (fun q _ z => z) (fun q z => z) (fun r9 u t H1 locs1 ht hvm hp hB hz hk hS1 => ?_)
  exact kk r9 u hp H1 locs1 ls hS1 (by have hB : vv_W g u t t.heap := hB; rw [ht] at hB; exact vv_W.moved hvm.symm hB) hl
theorem vv_callsl {g : vv_G} {x : vv_X} {own nm : String} {cc : ByteArray} {nL k n pc : Nat} {ret : Option FieldType} {R0 : Room} {lv : List (Option Value)} {st : List Value} {h : List va_E} {y : MethodName} {cc9 : ByteArray} {nL9 na idx : Nat} {ret9 : Option FieldType} {rm : Room} {stk : List Value} {post : Int64 → List va_E → Prop} {As : List Value} (C : vv_C g own nm cc nL ret R0 x) (d : decode cc pc = .ok (.invokestatic idx, 3)) (M : vv_KL g y cc9 nL9 ret9 rm As h post) (f : vv_cb y cc9 nL9 ret9 na) (fs : vv_sm y) (fl : vv_lk own idx y) (hn : As.length = na) (hst : As.reverse ++ st = stk) (hro : vv_rok rm R0 nL9 k n st) (kk : ∀ (r9 : Int64) (h9 : List va_E), post r9 h9 → vv_V g x nL (k + rm.cells) (n + rm.slots) (pc + 3) lv (.long r9 :: st) h9) : vv_V g x nL k n (pc) lv (stk) h := by
  obtain ⟨p, e, R, s, m, args, below, meth, c, Q⟩ := x
  intro H locs ls hS hW hl
  have hR : R = R0 := C.2.2.2.2.2.2.2.2.2.2
  subst hR
  subst hst
  have cb := callB_of (R := R) (own := own) (index := idx) na C.2.2.2.2.2.2.2.1 (vv_good f) rfl rfl rfl (C.2.2.2.2.2.2.2.1 _ f.2.1) (C.2.2.2.2.2.2.2.1 _ fl) f.2.2.1 hro.1
  refine va_calll (va_runS (As := As) (rest := st) ⟨C.1, C.2.1, C.2.2.1, C.2.2.2.2.2.1, C.2.2.2.2.2.2.2.1⟩ M ⟨cb, (C.2.2.2.2.2.2.2.1 _ fs)⟩ ⟨vv_blind, fun U hU hWm => ⟨rfl, by rw [hU]; exact vv_W.moved hWm.alike hW, C.2.2.2.2.2.2.2.2.2.1.warm hWm⟩⟩ rfl hn hl.1 rfl (lv_room hro.2.2) d hro.2.1) hS (fun q _ z => z) (fun q z => z) (fun r9 u t H1 locs1 ht hvm hp hB hz hk hS1 => ?_)
  exact kk r9 u hp H1 locs1 ls hS1 (by have hB : vv_W g u t t.heap := hB; rw [ht] at hB; exact vv_W.moved hvm.symm hB) hl
theorem vv_callNl {g : vv_G} {x : vv_X} {own nm : String} {cc : ByteArray} {nL k n pc : Nat} {ret : Option FieldType} {R0 : Room} {lv : List (Option Value)} {st : List Value} {h : List va_E} {y : MethodName} {cc9 : ByteArray} {nL9 na idx : Nat} {ret9 : Option FieldType} {rm : Room} {stk : List Value} {post : Int64 → List va_E → Prop} {As : List Value} {host : String} (C : vv_C g own nm cc nL ret R0 x) (d : decode cc pc = .ok (.invokestatic idx, 3)) (M : vv_KL g y cc9 nL9 ret9 rm As h post) (f : vv_cb y cc9 nL9 ret9 na) (fs : vv_sm y) (fl : Cond.methodLinkNest own idx y host ∈ vv_nest) (hn : As.length = na) (hst : As.reverse ++ st = stk) (hro : vv_rok rm R0 nL9 k n st) (kk : ∀ (r9 : Int64) (h9 : List va_E), post r9 h9 → vv_V g x nL (k + rm.cells) (n + rm.slots) (pc + 3) lv (.long r9 :: st) h9) : vv_V g x nL k n (pc) lv (stk) h := by
  obtain ⟨p, e, R, s, m, args, below, meth, c, Q⟩ := x
  intro H locs ls hS hW hl
  have hR : R = R0 := C.2.2.2.2.2.2.2.2.2.2
  subst hR
  subst hst
  have cb := va_cnB (R := R) (own := own) (index := idx) (host := host) na C.2.2.2.2.2.2.2.1 (vv_good f) rfl rfl rfl (C.2.2.2.2.2.2.2.2.2.1 _ fl) (C.2.2.2.2.2.2.2.1 _ f.2.1) f.2.2.1 hro.1
  refine va_calll (va_runSN (As := As) (rest := st) ⟨C.1, C.2.1, C.2.2.1, C.2.2.2.2.2.1, C.2.2.2.2.2.2.2.1⟩ M ⟨cb, (C.2.2.2.2.2.2.2.1 _ fs), trivial⟩ ⟨vv_blind, fun U hU hWm => ⟨rfl, by rw [hU]; exact vv_W.moved hWm.alike hW, C.2.2.2.2.2.2.2.2.2.1.warm hWm⟩⟩ rfl hn hl.1 rfl (lv_room hro.2.2) d hro.2.1) hS (fun q _ z => z) (fun q z => z) (fun r9 u t H1 locs1 ht hvm hp hB hz hk hS1 => ?_)
  exact kk r9 u hp H1 locs1 ls hS1 (by have hB : vv_W g u t t.heap := hB; rw [ht] at hB; exact vv_W.moved hvm.symm hB) hl
theorem vv_callv {g : vv_G} {x : vv_X} {own nm : String} {cc : ByteArray} {nL k n pc : Nat} {ret : Option FieldType} {R0 : Room} {lv : List (Option Value)} {st : List Value} {h : List va_E} {y : MethodName} {cc9 : ByteArray} {nL9 na idx : Nat} {ret9 : Option FieldType} {rm : Room} {stk : List Value} {post : List va_E → Prop} {i ci : Nat} {fs As : List Value} {q9 : vw_C} (C : vv_C g own nm cc nL ret R0 x) (d : decode cc pc = .ok (.invokevirtual idx, 3)) (M : vv_KV g y cc9 nL9 ret9 rm (vv_r0 g i :: As) h post) (f : vv_cb y cc9 nL9 ret9 na) (fv : vv_vm y) (fl : vv_lk own idx y) (he : h[i]? = some (.inr (ci, fs))) (hc : vwCl[ci]? = some q9) (hy : q9.1 = y.cls) (hn : As.length = na) (hst : As.reverse ++ vv_r0 g i :: st = stk) (hro : vv_rok rm R0 nL9 k n st) (kk : ∀ (h9 : List va_E), post h9 → vv_V g x nL (k + rm.cells) (n + rm.slots) (pc + 3) lv (st) h9) : vv_V g x nL k n (pc) lv (stk) h := by
  obtain ⟨p, e, R, s, m, args, below, meth, c, Q⟩ := x
  intro H locs ls hS hW hl
  have hR : R = R0 := C.2.2.2.2.2.2.2.2.2.2
  subst hR
  subst hst
  have cb := callB_of (R := R) (own := own) (index := idx) na C.2.2.2.2.2.2.2.1 (vv_good f) rfl rfl rfl (C.2.2.2.2.2.2.2.1 _ f.2.1) (C.2.2.2.2.2.2.2.1 _ fl) f.2.2.1 hro.1
  refine va_callv (va_runV (As := As) (rest := st) ⟨C.1, C.2.1, C.2.2.1, C.2.2.2.2.2.1, C.2.2.2.2.2.2.2.1⟩ M ⟨cb, (C.2.2.2.2.2.2.2.1 _ fv.1), (C.2.2.2.2.2.2.2.1 _ fv.2)⟩ ⟨vv_blind, by rw [← hy]; exact va_recv hW.2.2.1 hW.2.1 hc (vv_ws_get he), fun U hU hWm => ⟨rfl, by rw [hU]; exact vv_W.moved hWm.alike hW, C.2.2.2.2.2.2.2.2.2.1.warm hWm⟩⟩ rfl hn hl.1 rfl (lv_room hro.2.2) d hro.2.1) hS (fun q _ z => z) (fun q z => z) (fun u t H1 locs1 ht hvm hp hB hz hk hS1 => ?_)
  exact kk u hp H1 locs1 ls hS1 (by have hB : vv_W g u t t.heap := hB; rw [ht] at hB; exact vv_W.moved hvm.symm hB) hl
theorem vv_callsv {g : vv_G} {x : vv_X} {own nm : String} {cc : ByteArray} {nL k n pc : Nat} {ret : Option FieldType} {R0 : Room} {lv : List (Option Value)} {st : List Value} {h : List va_E} {y : MethodName} {cc9 : ByteArray} {nL9 na idx : Nat} {ret9 : Option FieldType} {rm : Room} {stk : List Value} {post : List va_E → Prop} {As : List Value} (C : vv_C g own nm cc nL ret R0 x) (d : decode cc pc = .ok (.invokestatic idx, 3)) (M : vv_KV g y cc9 nL9 ret9 rm As h post) (f : vv_cb y cc9 nL9 ret9 na) (fs : vv_sm y) (fl : vv_lk own idx y) (hn : As.length = na) (hst : As.reverse ++ st = stk) (hro : vv_rok rm R0 nL9 k n st) (kk : ∀ (h9 : List va_E), post h9 → vv_V g x nL (k + rm.cells) (n + rm.slots) (pc + 3) lv (st) h9) : vv_V g x nL k n (pc) lv (stk) h := by
  obtain ⟨p, e, R, s, m, args, below, meth, c, Q⟩ := x
  intro H locs ls hS hW hl
  have hR : R = R0 := C.2.2.2.2.2.2.2.2.2.2
  subst hR
  subst hst
  have cb := callB_of (R := R) (own := own) (index := idx) na C.2.2.2.2.2.2.2.1 (vv_good f) rfl rfl rfl (C.2.2.2.2.2.2.2.1 _ f.2.1) (C.2.2.2.2.2.2.2.1 _ fl) f.2.2.1 hro.1
  refine va_callv (va_runS (As := As) (rest := st) ⟨C.1, C.2.1, C.2.2.1, C.2.2.2.2.2.1, C.2.2.2.2.2.2.2.1⟩ M ⟨cb, (C.2.2.2.2.2.2.2.1 _ fs)⟩ ⟨vv_blind, fun U hU hWm => ⟨rfl, by rw [hU]; exact vv_W.moved hWm.alike hW, C.2.2.2.2.2.2.2.2.2.1.warm hWm⟩⟩ rfl hn hl.1 rfl (lv_room hro.2.2) d hro.2.1) hS (fun q _ z => z) (fun q z => z) (fun u t H1 locs1 ht hvm hp hB hz hk hS1 => ?_)
  exact kk u hp H1 locs1 ls hS1 (by have hB : vv_W g u t t.heap := hB; rw [ht] at hB; exact vv_W.moved hvm.symm hB) hl
theorem vv_callNv {g : vv_G} {x : vv_X} {own nm : String} {cc : ByteArray} {nL k n pc : Nat} {ret : Option FieldType} {R0 : Room} {lv : List (Option Value)} {st : List Value} {h : List va_E} {y : MethodName} {cc9 : ByteArray} {nL9 na idx : Nat} {ret9 : Option FieldType} {rm : Room} {stk : List Value} {post : List va_E → Prop} {As : List Value} {host : String} (C : vv_C g own nm cc nL ret R0 x) (d : decode cc pc = .ok (.invokestatic idx, 3)) (M : vv_KV g y cc9 nL9 ret9 rm As h post) (f : vv_cb y cc9 nL9 ret9 na) (fs : vv_sm y) (fl : Cond.methodLinkNest own idx y host ∈ vv_nest) (hn : As.length = na) (hst : As.reverse ++ st = stk) (hro : vv_rok rm R0 nL9 k n st) (kk : ∀ (h9 : List va_E), post h9 → vv_V g x nL (k + rm.cells) (n + rm.slots) (pc + 3) lv (st) h9) : vv_V g x nL k n (pc) lv (stk) h := by
  obtain ⟨p, e, R, s, m, args, below, meth, c, Q⟩ := x
  intro H locs ls hS hW hl
  have hR : R = R0 := C.2.2.2.2.2.2.2.2.2.2
  subst hR
  subst hst
  have cb := va_cnB (R := R) (own := own) (index := idx) (host := host) na C.2.2.2.2.2.2.2.1 (vv_good f) rfl rfl rfl (C.2.2.2.2.2.2.2.2.2.1 _ fl) (C.2.2.2.2.2.2.2.1 _ f.2.1) f.2.2.1 hro.1
  refine va_callv (va_runSN (As := As) (rest := st) ⟨C.1, C.2.1, C.2.2.1, C.2.2.2.2.2.1, C.2.2.2.2.2.2.2.1⟩ M ⟨cb, (C.2.2.2.2.2.2.2.1 _ fs), trivial⟩ ⟨vv_blind, fun U hU hWm => ⟨rfl, by rw [hU]; exact vv_W.moved hWm.alike hW, C.2.2.2.2.2.2.2.2.2.1.warm hWm⟩⟩ rfl hn hl.1 rfl (lv_room hro.2.2) d hro.2.1) hS (fun q _ z => z) (fun q z => z) (fun u t H1 locs1 ht hvm hp hB hz hk hS1 => ?_)
  exact kk u hp H1 locs1 ls hS1 (by have hB : vv_W g u t t.heap := hB; rw [ht] at hB; exact vv_W.moved hvm.symm hB) hl
theorem vv_callI {g : vv_G} {x : vv_X} {own nm : String} {cc : ByteArray} {nL k n pc : Nat} {ret : Option FieldType} {R0 : Room} {lv : List (Option Value)} {st : List Value} {h : List va_E} {y : MethodName} {cc9 : ByteArray} {nL9 na idx : Nat} {rm : Room} {stk : List Value} {post : List va_E → Prop} {i : Nat} {As : List Value} (C : vv_C g own nm cc nL ret R0 x) (d : decode cc pc = .ok (.invokespecial idx, 3)) (M : vv_KV g y cc9 nL9 none rm (vv_r0 g i :: As) h post) (f : vv_cb y cc9 nL9 none na) (fi : vv_im y) (fl : vv_lk own idx y) (hn : As.length = na) (hst : As.reverse ++ vv_r0 g i :: st = stk) (hro : vv_rok rm R0 nL9 k n st) (kk : ∀ (h9 : List va_E), post h9 → vv_V g x nL (k + rm.cells) (n + rm.slots) (pc + 3) lv (st) h9) : vv_V g x nL k n (pc) lv (stk) h := by
  obtain ⟨p, e, R, s, m, args, below, meth, c, Q⟩ := x
  intro H locs ls hS hW hl
  have hR : R = R0 := C.2.2.2.2.2.2.2.2.2.2
  subst hR
  subst hst
  have cb := callB_of (R := R) (own := own) (index := idx) na C.2.2.2.2.2.2.2.1 (vv_good f) rfl rfl rfl (C.2.2.2.2.2.2.2.1 _ f.2.1) (C.2.2.2.2.2.2.2.1 _ fl) f.2.2.1 hro.1
  refine va_callv (va_runI (As := As) (rest := st) (b := vv_b g + i) ⟨C.1, C.2.1, C.2.2.1, C.2.2.2.2.2.1, C.2.2.2.2.2.2.2.1⟩ M ⟨cb, fi.2, (C.2.2.2.2.2.2.2.1 _ fi.1)⟩ ⟨vv_blind, fun U hU hWm => ⟨rfl, by rw [hU]; exact vv_W.moved hWm.alike hW, C.2.2.2.2.2.2.2.2.2.1.warm hWm⟩⟩ rfl hn hl.1 rfl (lv_room hro.2.2) d hro.2.1) hS (fun q _ z => z) (fun q z => z) (fun u t H1 locs1 ht hvm hp hB hz hk hS1 => ?_)
  exact kk u hp H1 locs1 ls hS1 (by have hB : vv_W g u t t.heap := hB; rw [ht] at hB; exact vv_W.moved hvm.symm hB) hl
theorem vv_callIN {g : vv_G} {x : vv_X} {own nm : String} {cc : ByteArray} {nL k n pc : Nat} {ret : Option FieldType} {R0 : Room} {lv : List (Option Value)} {st : List Value} {h : List va_E} {y : MethodName} {cc9 : ByteArray} {nL9 na idx : Nat} {rm : Room} {stk : List Value} {post : List va_E → Prop} {i : Nat} {As : List Value} {host : String} (C : vv_C g own nm cc nL ret R0 x) (d : decode cc pc = .ok (.invokespecial idx, 3)) (M : vv_KV g y cc9 nL9 none rm (vv_r0 g i :: As) h post) (f : vv_cb y cc9 nL9 none na) (fi : vv_im y) (fl : Cond.methodLinkNest own idx y host ∈ vv_nest) (hn : As.length = na) (hst : As.reverse ++ vv_r0 g i :: st = stk) (hro : vv_rok rm R0 nL9 k n st) (kk : ∀ (h9 : List va_E), post h9 → vv_V g x nL (k + rm.cells) (n + rm.slots) (pc + 3) lv (st) h9) : vv_V g x nL k n (pc) lv (stk) h := by
  obtain ⟨p, e, R, s, m, args, below, meth, c, Q⟩ := x
  intro H locs ls hS hW hl
  have hR : R = R0 := C.2.2.2.2.2.2.2.2.2.2
  subst hR
  subst hst
  have cb := va_cnB (R := R) (own := own) (index := idx) (host := host) na C.2.2.2.2.2.2.2.1 (vv_good f) rfl rfl rfl (C.2.2.2.2.2.2.2.2.2.1 _ fl) (C.2.2.2.2.2.2.2.1 _ f.2.1) f.2.2.1 hro.1
  refine va_callv (va_runIN (As := As) (rest := st) (b := vv_b g + i) ⟨C.1, C.2.1, C.2.2.1, C.2.2.2.2.2.1, C.2.2.2.2.2.2.2.1⟩ M ⟨cb, fi.2, (C.2.2.2.2.2.2.2.1 _ fi.1)⟩ ⟨vv_blind, fun U hU hWm => ⟨rfl, by rw [hU]; exact vv_W.moved hWm.alike hW, C.2.2.2.2.2.2.2.2.2.1.warm hWm⟩⟩ rfl hn hl.1 rfl (lv_room hro.2.2) d hro.2.1) hS (fun q _ z => z) (fun q z => z) (fun u t H1 locs1 ht hvm hp hB hz hk hS1 => ?_)
  exact kk u hp H1 locs1 ls hS1 (by have hB : vv_W g u t t.heap := hB; rw [ht] at hB; exact vv_W.moved hvm.symm hB) hl
theorem vv_topi {g : vv_G} {x : vv_X} {nL k n pc : Nat} {lv : List (Option Value)} {st : List Value} {h : List va_E} {v : Int32} (kk : ∀ w : Int32, w = v → vv_V g x nL k n (pc) lv (.int w :: st) h) : vv_V g x nL k n (pc) lv (.int v :: st) h := kk v rfl
theorem vv_topl {g : vv_G} {x : vv_X} {nL k n pc : Nat} {lv : List (Option Value)} {st : List Value} {h : List va_E} {v : Int64} (kk : ∀ w : Int64, w = v → vv_V g x nL k n (pc) lv (.long w :: st) h) : vv_V g x nL k n (pc) lv (.long v :: st) h := kk v rfl
/-- reading after writing -/
theorem vv_gs {h : List va_E} {i : Nat} {e0 e1 : va_E} (he : h[i]? = some e0) : (h.set i e1)[i]? = some e1 := by
  rw [List.getElem?_set]
  have := (List.getElem?_eq_some_iff.mp he).1
  simp [this]
theorem vv_gn {h : List va_E} {i j : Nat} {e1 : va_E} {o : Option va_E} (hij : i ≠ j) (he : h[j]? = o) : (h.set i e1)[j]? = o := by
  rw [List.getElem?_set_ne hij, he]
