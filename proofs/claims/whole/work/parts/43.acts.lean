/-! ACTS -/
def pA : Nat → Nat := fun k => [0, 0, 0, 2, 1, 0, 5, 0].getD k 0
def pO : Nat → Nat := fun j => [1, 10, 11, 2, 20, 0, 0, 0, 0, 30, 0, 0, 0, 41, 40, 0, 0, 0, 50, 0, 60, 0, 0, 0, 0, 0, 0, 70, 0, 80, 0, 81].getD j 0
theorem pO_i : ∀ j, j < 32 → vv_fO j = nI (pO j) := by decide +kernel
theorem pA_i : ∀ k, k < 8 → 0 < k → vv_fA k = nI (pA k) := by decide +kernel
theorem pA_lt : ∀ k, k < 8 → pA k < 8 := by decide +kernel
def hd (act : Nat) : Nat → Nat → Nat
  | 0, k => k
  | f + 1, k => if 0 < k ∧ pO (k * 4 + act) = 0 then hd act f (pA k) else k
theorem hd_lt {act : Nat} : ∀ f k, k < 8 → hd act f k < 8
  | 0, k, h => h
  | f + 1, k, h => by
    unfold hd
    split
    · exact hd_lt f _ (pA_lt k h)
    · exact h
/-- a body's number tells its holder -/
theorem hd_n : ∀ act, act < 4 → ∀ k, k < 8 → (pO (hd act 8 k * 4 + act) = 1 ∨ pO (hd act 8 k * 4 + act) = 2 ∨ pO (hd act 8 k * 4 + act) = 10 ∨ pO (hd act 8 k * 4 + act) = 11) ∨ (0 < hd act 8 k ∧ (pO (hd act 8 k * 4 + act) = 20 ∨ pO (hd act 8 k * 4 + act) = 30 ∨ pO (hd act 8 k * 4 + act) = 40 ∨ pO (hd act 8 k * 4 + act) = 41 ∨ pO (hd act 8 k * 4 + act) = 50 ∨ pO (hd act 8 k * 4 + act) = 60 ∨ pO (hd act 8 k * 4 + act) = 70 ∨ pO (hd act 8 k * 4 + act) = 80 ∨ pO (hd act 8 k * 4 + act) = 81)) := by decide +kernel
abbrev pR : Type := Int32 × List Nat
/-- what the class runs: an act of a kind, no deeper than so much -/
def ar (own : Nat) (self : Int32) : Nat → Nat → Nat → Int32 → pR
  | 0, _, _, _ => (0, [])
  | f + 1, act, k, v =>
    let h := hd act 8 k
    let n := pO (h * 4 + act)
    if n = 1 then (v + self, [1])
    else if n = 2 then ((ar own self f 1 own v).1 - (ar own self f 2 own 1).1, 2 :: ((ar own self f 1 own v).2 ++ (ar own self f 2 own 1).2))
    else if n = 10 then ((ar own self f 0 own v).1 * 2, 10 :: (ar own self f 0 own v).2)
    else if n = 11 then (v ^^^ self, [11])
    else if n = 20 then ((ar own self f 0 (pA h) v).1 + 3, 20 :: (ar own self f 0 (pA h) v).2)
    else if n = 30 then (-(ar own self f 1 (pA h) v).1, 30 :: (ar own self f 1 (pA h) v).2)
    else if n = 40 then ((ar own self f 2 (pA h) v).1 * 3, 40 :: (ar own self f 2 (pA h) v).2)
    else if n = 41 then ((ar own self f 1 (pA h) (v + 1)).1, 41 :: (ar own self f 1 (pA h) (v + 1)).2)
    else if n = 50 then ((ar own self f 2 (pA h) v).1 - (ar own self f 0 own 2).1, 50 :: ((ar own self f 2 (pA h) v).2 ++ (ar own self f 0 own 2).2))
    else if n = 60 then ((ar own self f 0 (pA h) v).1 * 2, 60 :: (ar own self f 0 (pA h) v).2)
    else if n = 70 then ((ar own self f 3 (pA h) v).1 ^^^ 5, 70 :: (ar own self f 3 (pA h) v).2)
    else if n = 80 then ((ar own self f 1 (pA h) v).1 + (ar own self f 2 own 2).1, 80 :: ((ar own self f 1 (pA h) v).2 ++ (ar own self f 2 own 2).2))
    else ((ar own self f 3 (pA h) v).1 - 1, 81 :: (ar own self f 3 (pA h) v).2)
theorem ar1 {own : Nat} {self : Int32} {f act k : Nat} {v : Int32} : ar own self (f + 1) act k v = (if pO (hd act 8 k * 4 + act) = 1 then (v + self, [1]) else if pO (hd act 8 k * 4 + act) = 2 then ((ar own self f 1 own v).1 - (ar own self f 2 own 1).1, 2 :: ((ar own self f 1 own v).2 ++ (ar own self f 2 own 1).2)) else if pO (hd act 8 k * 4 + act) = 10 then ((ar own self f 0 own v).1 * 2, 10 :: (ar own self f 0 own v).2) else if pO (hd act 8 k * 4 + act) = 11 then (v ^^^ self, [11]) else if pO (hd act 8 k * 4 + act) = 20 then ((ar own self f 0 (pA (hd act 8 k)) v).1 + 3, 20 :: (ar own self f 0 (pA (hd act 8 k)) v).2) else if pO (hd act 8 k * 4 + act) = 30 then (-(ar own self f 1 (pA (hd act 8 k)) v).1, 30 :: (ar own self f 1 (pA (hd act 8 k)) v).2) else if pO (hd act 8 k * 4 + act) = 40 then ((ar own self f 2 (pA (hd act 8 k)) v).1 * 3, 40 :: (ar own self f 2 (pA (hd act 8 k)) v).2) else if pO (hd act 8 k * 4 + act) = 41 then ((ar own self f 1 (pA (hd act 8 k)) (v + 1)).1, 41 :: (ar own self f 1 (pA (hd act 8 k)) (v + 1)).2) else if pO (hd act 8 k * 4 + act) = 50 then ((ar own self f 2 (pA (hd act 8 k)) v).1 - (ar own self f 0 own 2).1, 50 :: ((ar own self f 2 (pA (hd act 8 k)) v).2 ++ (ar own self f 0 own 2).2)) else if pO (hd act 8 k * 4 + act) = 60 then ((ar own self f 0 (pA (hd act 8 k)) v).1 * 2, 60 :: (ar own self f 0 (pA (hd act 8 k)) v).2) else if pO (hd act 8 k * 4 + act) = 70 then ((ar own self f 3 (pA (hd act 8 k)) v).1 ^^^ 5, 70 :: (ar own self f 3 (pA (hd act 8 k)) v).2) else if pO (hd act 8 k * 4 + act) = 80 then ((ar own self f 1 (pA (hd act 8 k)) v).1 + (ar own self f 2 own 2).1, 80 :: ((ar own self f 1 (pA (hd act 8 k)) v).2 ++ (ar own self f 2 own 2).2)) else ((ar own self f 3 (pA (hd act 8 k)) v).1 - 1, 81 :: (ar own self f 3 (pA (hd act 8 k)) v).2)) := rfl
theorem ar_len {own : Nat} {self : Int32} : ∀ f act k v, (ar own self f act k v).2.length + 1 ≤ 2 ^ f
  | 0, _, _, _ => Nat.le_refl _
  | f + 1, act, k, v => by
    have h : ∀ act k v, (ar own self f act k v).2.length + 1 ≤ 2 ^ f := ar_len f
    have h1 : 1 ≤ 2 ^ f := Nat.one_le_two_pow
    have e : 2 ^ (f + 1) = 2 ^ f + 2 ^ f := by rw [Nat.pow_succ]; omega
    unfold ar
    dsimp only
    by_cases n1 : pO (hd act 8 k * 4 + act) = 1
    · rw [if_pos n1]; simp only [List.length_cons, List.length_append, List.length_nil]; omega
    rw [if_neg n1]
    by_cases n2 : pO (hd act 8 k * 4 + act) = 2
    · rw [if_pos n2]; have a0 := h 1 own v; have a1 := h 2 own 1; simp only [List.length_cons, List.length_append, List.length_nil]; omega
    rw [if_neg n2]
    by_cases n10 : pO (hd act 8 k * 4 + act) = 10
    · rw [if_pos n10]; have a0 := h 0 own v; simp only [List.length_cons, List.length_append, List.length_nil]; omega
    rw [if_neg n10]
    by_cases n11 : pO (hd act 8 k * 4 + act) = 11
    · rw [if_pos n11]; simp only [List.length_cons, List.length_append, List.length_nil]; omega
    rw [if_neg n11]
    by_cases n20 : pO (hd act 8 k * 4 + act) = 20
    · rw [if_pos n20]; have a0 := h 0 (pA (hd act 8 k)) v; simp only [List.length_cons, List.length_append, List.length_nil]; omega
    rw [if_neg n20]
    by_cases n30 : pO (hd act 8 k * 4 + act) = 30
    · rw [if_pos n30]; have a0 := h 1 (pA (hd act 8 k)) v; simp only [List.length_cons, List.length_append, List.length_nil]; omega
    rw [if_neg n30]
    by_cases n40 : pO (hd act 8 k * 4 + act) = 40
    · rw [if_pos n40]; have a0 := h 2 (pA (hd act 8 k)) v; simp only [List.length_cons, List.length_append, List.length_nil]; omega
    rw [if_neg n40]
    by_cases n41 : pO (hd act 8 k * 4 + act) = 41
    · rw [if_pos n41]; have a0 := h 1 (pA (hd act 8 k)) (v + 1); simp only [List.length_cons, List.length_append, List.length_nil]; omega
    rw [if_neg n41]
    by_cases n50 : pO (hd act 8 k * 4 + act) = 50
    · rw [if_pos n50]; have a0 := h 2 (pA (hd act 8 k)) v; have a1 := h 0 own 2; simp only [List.length_cons, List.length_append, List.length_nil]; omega
    rw [if_neg n50]
    by_cases n60 : pO (hd act 8 k * 4 + act) = 60
    · rw [if_pos n60]; have a0 := h 0 (pA (hd act 8 k)) v; simp only [List.length_cons, List.length_append, List.length_nil]; omega
    rw [if_neg n60]
    by_cases n70 : pO (hd act 8 k * 4 + act) = 70
    · rw [if_pos n70]; have a0 := h 3 (pA (hd act 8 k)) v; simp only [List.length_cons, List.length_append, List.length_nil]; omega
    rw [if_neg n70]
    by_cases n80 : pO (hd act 8 k * 4 + act) = 80
    · rw [if_pos n80]; have a0 := h 1 (pA (hd act 8 k)) v; have a1 := h 2 own 2; simp only [List.length_cons, List.length_append, List.length_nil]; omega
    rw [if_neg n80]
    have a0 := h 3 (pA (hd act 8 k)) v; simp only [List.length_cons, List.length_append, List.length_nil]; omega
/-- the trace so far -/
def tX (S : vs_S) (l : List Nat) : Prop := S.1 19 = nI l.length ∧ ∀ i, i < 24 → i < l.length → S.2.1 53 i = nI (l.getD i 0)
def tM (S : vs_S) (l : List Nat) : Prop := S.1 38 = nI l.length ∧ ∀ i, i < 24 → i < l.length → S.2.1 83 i = nI (l.getD i 0)
theorem tr_ap {l : List Nat} {v i : Nat} : (l ++ [v]).getD i 0 = if i < l.length then l.getD i 0 else if i = l.length then v else 0 := by
  rw [List.getD_eq_getElem?_getD, List.getD_eq_getElem?_getD]
  by_cases h : i < l.length
  · rw [if_pos h, List.getElem?_append_left h]
  · rw [if_neg h, List.getElem?_append_right (by omega)]
    by_cases e : i = l.length
    · rw [if_pos e, e, Nat.sub_self]
      rfl
    · rw [if_neg e]
      have : ([v] : List Nat)[i - l.length]? = none := by
        apply List.getElem?_eq_none
        show 1 ≤ i - l.length
        omega
      rw [this]
      rfl

set_option maxRecDepth 20000 in
theorem c_X4_note (g : vv_G) (S : vs_S) (l : List Nat) (ht : tX S l) (hlen : l.length < 2 ^ 30) (v : Nat) : vs_KV g yX4_note cX4_note 2 none 1 [vv_r g 51, .int (nI v)] S (fun S1 => tX S1 (l ++ [v]) ∧ vs_fr [19] [53] [] S S1) := by
  refine vs_ofV (lv := [_, _]) mb_X4_note (Nat.le_of_ble_eq_true rfl) rfl (fun x C F => ?_)
  refine vv_aload_n C dX4_note_0 rfl ?_
  refine gf_X4_ran C dX4_note_1 fg_X4_22 ?_
  refine vs_eqi (v9 := nI l.length) (ht.1) ?_
  refine vv_bipush C dX4_note_4 bp_24 ?_
  refine vv_icmp_ge (tgt := 19) C dX4_note_6 (by decide) (fun q6 => ?_) (fun q6 => ?_)
  · have hz : ¬ l.length < 24 := by rw [xn_lit, xn_le (by omega) (by omega)] at q6; omega
    refine vv_aload_n C dX4_note_19 rfl ?_
    refine vv_dup C dX4_note_20 rfl ?_
    refine gf_X4_ran C dX4_note_21 fg_X4_22 ?_
    refine vs_eqi (v9 := nI l.length) (ht.1) ?_
    refine vv_iconst C dX4_note_24 ic_1 ?_
    refine vv_iadd C dX4_note_25 ?_
    refine vs_eqi (v9 := nI (l.length + 1)) (nI_1 _) ?_
    refine pf_X4_ran C dX4_note_26 fp_X4_22 ?_
    first
    | (refine vs_vret C F dX4_note_29 rfl ⟨⟨?_, fun i hi hil => ?_⟩, (vs_fr.rf.ua (by decide)).us (by decide)⟩
       · rw [List.length_append]; rfl
       · show upd (S.2.1 53) (nI l.length).toNatClampNeg (nI v) i = _
         rw [xn_cl (by omega), xn_upd (α := Nat), tr_ap]
         rw [List.length_append, List.length_singleton] at hil
         by_cases e : i = l.length
         · rw [if_pos e, if_neg (by omega), if_pos e]
         · rw [if_neg e, if_pos (by omega)]
           exact ht.2 i hi (by omega))
    | (refine vs_vret C F dX4_note_29 rfl ⟨⟨?_, fun i hi hil => ?_⟩, vs_fr.rf.us (by decide)⟩
       · rw [List.length_append]; rfl
       · rw [tr_ap, if_pos (by omega)]
         exact ht.2 i hi (by omega))
  · have hz : l.length < 24 := by rw [xn_lit, xn_le (by omega) (by omega)] at q6; omega
    refine vv_aload_n C dX4_note_9 rfl ?_
    refine gf_X4_trace C dX4_note_10 fg_X4_15 ?_
    refine vv_aload_n C dX4_note_13 rfl ?_
    refine gf_X4_ran C dX4_note_14 fg_X4_22 ?_
    refine vs_eqi (v9 := nI l.length) (ht.1) ?_
    refine vv_iload_n C dX4_note_17 rfl ?_
    refine st_53 C dX4_note_18 (xn_in (by omega) (by omega)) ?_
    refine vv_aload_n C dX4_note_19 rfl ?_
    refine vv_dup C dX4_note_20 rfl ?_
    refine gf_X4_ran C dX4_note_21 fg_X4_22 ?_
    refine vs_eqi (v9 := nI l.length) (ht.1) ?_
    refine vv_iconst C dX4_note_24 ic_1 ?_
    refine vv_iadd C dX4_note_25 ?_
    refine vs_eqi (v9 := nI (l.length + 1)) (nI_1 _) ?_
    refine pf_X4_ran C dX4_note_26 fp_X4_22 ?_
    first
    | (refine vs_vret C F dX4_note_29 rfl ⟨⟨?_, fun i hi hil => ?_⟩, (vs_fr.rf.ua (by decide)).us (by decide)⟩
       · rw [List.length_append]; rfl
       · show upd (S.2.1 53) (nI l.length).toNatClampNeg (nI v) i = _
         rw [xn_cl (by omega), xn_upd (α := Nat), tr_ap]
         rw [List.length_append, List.length_singleton] at hil
         by_cases e : i = l.length
         · rw [if_pos e, if_neg (by omega), if_pos e]
         · rw [if_neg e, if_pos (by omega)]
           exact ht.2 i hi (by omega))
    | (refine vs_vret C F dX4_note_29 rfl ⟨⟨?_, fun i hi hil => ?_⟩, vs_fr.rf.us (by decide)⟩
       · rw [List.length_append]; rfl
       · rw [tr_ap, if_pos (by omega)]
         exact ht.2 i hi (by omega))
set_option maxRecDepth 20000 in
theorem c_X12_begins (g : vv_G) (S : vs_S) (l : List Nat) (ht : tM S l) (hlen : l.length < 2 ^ 30) (v : Nat) : vs_KV g yX12_begins cX12_begins 2 none 1 [vv_r g 65, .int (nI v)] S (fun S1 => tM S1 (l ++ [v]) ∧ vs_fr [38] [83] [] S S1) := by
  refine vs_ofV (lv := [_, _]) mb_X12_begins (Nat.le_of_ble_eq_true rfl) rfl (fun x C F => ?_)
  refine vv_aload_n C dX12_begins_0 rfl ?_
  refine gf_X12_ran C dX12_begins_1 fg_X12_317 ?_
  refine vs_eqi (v9 := nI l.length) (ht.1) ?_
  refine vv_bipush C dX12_begins_4 bp_24 ?_
  refine vv_icmp_ge (tgt := 19) C dX12_begins_6 (by decide) (fun q6 => ?_) (fun q6 => ?_)
  · have hz : ¬ l.length < 24 := by rw [xn_lit, xn_le (by omega) (by omega)] at q6; omega
    refine vv_aload_n C dX12_begins_19 rfl ?_
    refine vv_dup C dX12_begins_20 rfl ?_
    refine gf_X12_ran C dX12_begins_21 fg_X12_317 ?_
    refine vs_eqi (v9 := nI l.length) (ht.1) ?_
    refine vv_iconst C dX12_begins_24 ic_1 ?_
    refine vv_iadd C dX12_begins_25 ?_
    refine vs_eqi (v9 := nI (l.length + 1)) (nI_1 _) ?_
    refine pf_X12_ran C dX12_begins_26 fp_X12_317 ?_
    first
    | (refine vs_vret C F dX12_begins_29 rfl ⟨⟨?_, fun i hi hil => ?_⟩, (vs_fr.rf.ua (by decide)).us (by decide)⟩
       · rw [List.length_append]; rfl
       · show upd (S.2.1 83) (nI l.length).toNatClampNeg (nI v) i = _
         rw [xn_cl (by omega), xn_upd (α := Nat), tr_ap]
         rw [List.length_append, List.length_singleton] at hil
         by_cases e : i = l.length
         · rw [if_pos e, if_neg (by omega), if_pos e]
         · rw [if_neg e, if_pos (by omega)]
           exact ht.2 i hi (by omega))
    | (refine vs_vret C F dX12_begins_29 rfl ⟨⟨?_, fun i hi hil => ?_⟩, vs_fr.rf.us (by decide)⟩
       · rw [List.length_append]; rfl
       · rw [tr_ap, if_pos (by omega)]
         exact ht.2 i hi (by omega))
  · have hz : l.length < 24 := by rw [xn_lit, xn_le (by omega) (by omega)] at q6; omega
    refine vv_aload_n C dX12_begins_9 rfl ?_
    refine gf_X12_trace C dX12_begins_10 fg_X12_65 ?_
    refine vv_aload_n C dX12_begins_13 rfl ?_
    refine gf_X12_ran C dX12_begins_14 fg_X12_317 ?_
    refine vs_eqi (v9 := nI l.length) (ht.1) ?_
    refine vv_iload_n C dX12_begins_17 rfl ?_
    refine st_83 C dX12_begins_18 (xn_in (by omega) (by omega)) ?_
    refine vv_aload_n C dX12_begins_19 rfl ?_
    refine vv_dup C dX12_begins_20 rfl ?_
    refine gf_X12_ran C dX12_begins_21 fg_X12_317 ?_
    refine vs_eqi (v9 := nI l.length) (ht.1) ?_
    refine vv_iconst C dX12_begins_24 ic_1 ?_
    refine vv_iadd C dX12_begins_25 ?_
    refine vs_eqi (v9 := nI (l.length + 1)) (nI_1 _) ?_
    refine pf_X12_ran C dX12_begins_26 fp_X12_317 ?_
    first
    | (refine vs_vret C F dX12_begins_29 rfl ⟨⟨?_, fun i hi hil => ?_⟩, (vs_fr.rf.ua (by decide)).us (by decide)⟩
       · rw [List.length_append]; rfl
       · show upd (S.2.1 83) (nI l.length).toNatClampNeg (nI v) i = _
         rw [xn_cl (by omega), xn_upd (α := Nat), tr_ap]
         rw [List.length_append, List.length_singleton] at hil
         by_cases e : i = l.length
         · rw [if_pos e, if_neg (by omega), if_pos e]
         · rw [if_neg e, if_pos (by omega)]
           exact ht.2 i hi (by omega))
    | (refine vs_vret C F dX12_begins_29 rfl ⟨⟨?_, fun i hi hil => ?_⟩, vs_fr.rf.us (by decide)⟩
       · rw [List.length_append]; rfl
       · rw [tr_ap, if_pos (by omega)]
         exact ht.2 i hi (by omega))
theorem pO_b : ∀ j, j < 32 → pO j ≤ 81 := by decide +kernel
set_option maxRecDepth 20000 in
theorem c_X4_holder (g : vv_G) (S : vs_S) (act kind : Nat) (ha : act < 4) (hk8 : kind < 8) : vs_FI g yX4_holder cX4_holder 4 (some .int) 2 [.int (nI act), .int (nI kind)] S (nI (hd act 8 kind)) S := by
  refine vs_ofI (lv := [_, _, _, _]) mb_X4_holder (Nat.le_of_ble_eq_true rfl) rfl (fun x C F => ?_)
  have loop : ∀ (f i k : Nat), i + f = 8 → k < 8 → hd act f k = hd act 8 kind → vv_V g x 4 0 0 4 [some (.int (nI act)), some (.int (nI kind)), some (.int (nI k)), some (.int (nI i))] [] (vs_cells g S) := by
    intro f
    induction f with
    | zero =>
      intro i k h1 h2 he
      have hi : i = 8 := by omega
      subst hi
      refine vv_iload_n C dX4_holder_4 rfl ?_
      refine vv_bipush C dX4_holder_5 bp_8 ?_
      refine vv_icmp_ge (tgt := 38) C dX4_holder_7 (by decide) (fun q7 => ?_) (fun q7 => ?_)
      · refine vv_iload_n C dX4_holder_38 rfl ?_
        refine vv_iconst C dX4_holder_39 ic_0 ?_
        refine vv_mmax C dX4_holder_40 lk_X4_50 ⟨Nat.le_of_ble_eq_true rfl, Nat.le_of_ble_eq_true rfl, Nat.zero_le _, Nat.zero_le _⟩ ?_
        exact vs_iret C F dX4_holder_43 rfl ⟨(if_neg (xn_neg (by omega))).trans (congrArg nI he), rfl⟩
      · exact absurd (by decide +kernel) q7
    | succ f ih =>
      intro i k h1 h2 he
      refine vv_iload_n C dX4_holder_4 rfl ?_
      refine vv_bipush C dX4_holder_5 bp_8 ?_
      refine vv_icmp_ge (tgt := 38) C dX4_holder_7 (by decide) (fun q7 => ?_) (fun q7 => ?_)
      · exact absurd q7 (by rw [xn_lit, xn_le (by omega) (by omega)]; omega)
      · refine vv_iload_n C dX4_holder_10 rfl ?_
        refine vv_if_le (tgt := 38) C dX4_holder_11 (by decide) (fun q11 => ?_) (fun q11 => ?_)
        · have hz : ¬ (0 < k ∧ pO (k * 4 + act) = 0) := fun z => by rw [xn_lit, xn_le (by omega) (by omega)] at q11; omega
          rw [show hd act (f + 1) k = k from if_neg hz] at he
          refine vv_iload_n C dX4_holder_38 rfl ?_
          refine vv_iconst C dX4_holder_39 ic_0 ?_
          refine vv_mmax C dX4_holder_40 lk_X4_50 ⟨Nat.le_of_ble_eq_true rfl, Nat.le_of_ble_eq_true rfl, Nat.zero_le _, Nat.zero_le _⟩ ?_
          exact vs_iret C F dX4_holder_43 rfl ⟨(if_neg (xn_neg (by omega))).trans (congrArg nI he), rfl⟩
        · have hk : 0 < k := by rw [xn_lit, xn_le (by omega) (by omega)] at q11; omega
          refine vv_getsO C dX4_holder_14 gs_X4_43 ?_
          refine vv_iload_n C dX4_holder_17 rfl ?_
          refine vv_iconst C dX4_holder_18 ic_4 ?_
          refine vv_imul C dX4_holder_19 ?_
          refine vs_eqi (v9 := nI (k * 4)) (by rw [xn_lit, xn_mul]) ?_
          refine vv_iload_n C dX4_holder_20 rfl ?_
          refine vv_iadd C dX4_holder_21 ?_
          refine vs_eqi (v9 := nI (k * 4 + act)) (nI_add _ _) ?_
          refine vv_ildsO C dX4_holder_22 (xn_in (by omega) (by omega)) ?_
          refine vs_eqi (v9 := nI (pO (k * 4 + act))) (by rw [xn_cl (by omega)]; exact pO_i _ (by omega)) ?_
          refine vv_if_ne (tgt := 38) C dX4_holder_23 (by decide) (fun q23 => ?_) (fun q23 => ?_)
          · have hz : ¬ (0 < k ∧ pO (k * 4 + act) = 0) := fun z => q23 (by rw [z.2]; rfl)
            rw [show hd act (f + 1) k = k from if_neg hz] at he
            refine vv_iload_n C dX4_holder_38 rfl ?_
            refine vv_iconst C dX4_holder_39 ic_0 ?_
            refine vv_mmax C dX4_holder_40 lk_X4_50 ⟨Nat.le_of_ble_eq_true rfl, Nat.le_of_ble_eq_true rfl, Nat.zero_le _, Nat.zero_le _⟩ ?_
            exact vs_iret C F dX4_holder_43 rfl ⟨(if_neg (xn_neg (by omega))).trans (congrArg nI he), rfl⟩
          · have hpo : pO (k * 4 + act) < 2 ^ 31 := Nat.lt_of_le_of_lt (pO_b _ (by omega)) (by omega)
            have hz : 0 < k ∧ pO (k * 4 + act) = 0 := ⟨hk, (xn_eq (b := 0) hpo (by omega)).mp q23⟩
            rw [show hd act (f + 1) k = hd act f (pA k) from if_pos hz] at he
            refine vv_getsA C dX4_holder_26 gs_X4_25 ?_
            refine vv_iload_n C dX4_holder_29 rfl ?_
            refine vv_ildsA C dX4_holder_30 (xn_in (by omega) (by omega)) ?_
            refine vs_eqi (v9 := nI (pA k)) (by rw [xn_cl (by omega)]; exact pA_i k h2 hk) ?_
            refine vw_istore_n (lv9 := [_, _, _, _]) C dX4_holder_31 (by decide) rfl rfl ?_
            refine vw_iinc (lv9 := [_, _, _, _]) C dX4_holder_32 rfl ic_1 (by decide) rfl rfl ?_
            refine vv_goto (tgt := 4) C dX4_holder_35 (by decide) ?_
            rw [nI_1]
            exact ih (i + 1) (pA k) (by omega) (pA_lt k h2) he
  refine vv_iload_n C dX4_holder_0 rfl ?_
  refine vw_istore_n (lv9 := [_, _, _, _]) C dX4_holder_1 (by decide) rfl rfl ?_
  refine vv_iconst C dX4_holder_2 ic_0 ?_
  refine vw_istore_n (lv9 := [_, _, _, _]) C dX4_holder_3 (by decide) rfl rfl ?_
  exact loop 8 0 kind rfl hk8 rfl
