/-! THE SELLER of the class -/
theorem vs_bd {P : Prop} [Decidable P] : vs_b (decide P) = if P then 1 else 0 := by
  by_cases h : P
  · rw [decide_eq_true h, if_pos h]; rfl
  · rw [decide_eq_false h, if_neg h]; rfl
def slX (S : vs_S) (c : List Int32) : Prop := S.1 10 = nI c.length ∧ c.length ≤ 121 ∧ ∀ i, i < c.length → S.2.1 46 i = c.getD i 0
theorem slX.fr {S S1 : vs_S} {c : List Int32} {ks is js : List Nat} (h : slX S c) (f : vs_fr ks is js S S1) (h1 : 10 ∉ ks) (h2 : 46 ∉ is) : slX S1 c := ⟨(f.1 10 h1).trans h.1, h.2.1, fun i hi => by rw [f.2.1 46 h2]; exact h.2.2 i hi⟩
def kX (S : vs_S) (st : List Int32) : Prop := S.1 11 = nI st.length ∧ ∀ i, i < st.length → S.2.1 47 (st.length - 1 - i) = st.getD i 0
theorem tl_len (st : List Int32) : (tl0 st).length = st.length - 1 := by cases st <;> rfl
theorem kX_tl {S : vs_S} {a : Int32} {b : List Int32} (h : kX S (a :: b)) {S1 : vs_S} (e1 : S1.1 11 = nI b.length) (e2 : S1.2.1 47 = S.2.1 47) : kX S1 b := by
  refine ⟨e1, fun i hi => ?_⟩
  have h2 := h.2 (i + 1) (by rw [List.length_cons]; omega)
  rw [List.length_cons, show b.length + 1 - 1 - (i + 1) = b.length - 1 - i by omega] at h2
  rw [e2, h2]
  rfl
def nmF (x a c : Int32) : Nat → Int32 := fun k => if k = 0 then x else if k = 1 then a else if k = 2 then c else if k = 3 then x % 10 else x / 100
theorem cs7 (b : Int32) : b = 33 ∨ b = 103 ∨ b = 104 ∨ b = 110 ∨ b = 112 ∨ b = 116 ∨ b = 126 ∨ (¬ b = 33 ∧ ¬ b = 103 ∧ ¬ b = 104 ∧ ¬ b = 110 ∧ ¬ b = 112 ∧ ¬ b = 116 ∧ ¬ b = 126) := by
  by_cases h1 : b = 33
  · exact Or.inl h1
  by_cases h2 : b = 103
  · exact Or.inr (Or.inl h2)
  by_cases h3 : b = 104
  · exact Or.inr (Or.inr (Or.inl h3))
  by_cases h4 : b = 110
  · exact Or.inr (Or.inr (Or.inr (Or.inl h4)))
  by_cases h5 : b = 112
  · exact Or.inr (Or.inr (Or.inr (Or.inr (Or.inl h5))))
  by_cases h6 : b = 116
  · exact Or.inr (Or.inr (Or.inr (Or.inr (Or.inr (Or.inl h6)))))
  by_cases h7 : b = 126
  · exact Or.inr (Or.inr (Or.inr (Or.inr (Or.inr (Or.inr (Or.inl h7))))))
  exact Or.inr (Or.inr (Or.inr (Or.inr (Or.inr (Or.inr (Or.inr ⟨h1, h2, h3, h4, h5, h6, h7⟩))))))
theorem tks_d {N : Nat → Int32} {o : Int32} {st : List Int32} (h : ¬ o = 33 ∧ ¬ o = 103 ∧ ¬ o = 104 ∧ ¬ o = 110 ∧ ¬ o = 112 ∧ ¬ o = 116 ∧ ¬ o = 126) : tks N o st = tkV o (hd0 (tl0 st)) (hd0 st) :: tl0 (tl0 st) := by
  obtain ⟨h1, h2, h3, h4, h5, h6, h7⟩ := h
  have e : tkN o = 5 := by
    unfold tkN
    rw [if_neg h5, if_neg h2, if_neg h4, if_neg h6, if_neg h3]
  unfold tks
  rw [e, if_neg (by omega), if_neg h1, if_neg h7]
theorem tkV_d {o v y : Int32} (h : ¬ o = 37 ∧ ¬ o = 38 ∧ ¬ o = 42 ∧ ¬ o = 43 ∧ ¬ o = 45 ∧ ¬ o = 47 ∧ ¬ o = 60 ∧ ¬ o = 61 ∧ ¬ o = 62 ∧ ¬ o = 124) : tkV o v y = 0 := by
  obtain ⟨h1, h2, h3, h4, h5, h6, h7, h8, h9, h10⟩ := h
  unfold tkV
  rw [if_neg h10, if_neg h2, if_neg h7, if_neg h8, if_neg h9, if_neg h4, if_neg h5, if_neg h3, if_neg h6, if_neg h1]
theorem dr_c {c : List Int32} {i : Nat} (h : i < c.length) : c.drop i = c.getD i 0 :: c.drop (i + 1) := by
  rw [List.drop_eq_getElem_cons h]
  congr 1
  rw [List.getD_eq_getElem?_getD, List.getElem?_eq_getElem h]
  rfl

set_option maxRecDepth 20000 in
theorem c_X7_push (g : vv_G) (S : vs_S) (st : List Int32) (hk : kX S st) (hl : st.length < 121) (v : Int32) : vs_KV g yX7_push cX7_push 2 none 1 [vv_r g 45, .int v] S (fun S1 => kX S1 (v :: st) ∧ vs_fr [11] [47] [] S S1) := by
  refine vs_ofV (lv := [_, _]) mb_X7_push (Nat.le_of_ble_eq_true rfl) rfl (fun x C F => ?_)
  refine vv_aload_n C dX7_push_0 rfl ?_
  refine gf_X7_high C dX7_push_1 fg_X7_61 ?_
  refine vs_eqi (v9 := nI st.length) (hk.1) ?_
  refine vv_aload_n C dX7_push_4 rfl ?_
  refine gf_X7_stack C dX7_push_5 fg_X7_17 ?_
  refine ln_47 C dX7_push_8 ?_
  refine vv_icmp_ge (tgt := 32) C dX7_push_9 (by decide) (fun q9 => ?_) (fun q9 => ?_)
  · exact absurd q9 (by rw [xn_lit, xn_le (by omega) (by omega)]; omega)
  · refine vv_aload_n C dX7_push_12 rfl ?_
    refine gf_X7_stack C dX7_push_13 fg_X7_17 ?_
    refine vv_aload_n C dX7_push_16 rfl ?_
    refine gf_X7_high C dX7_push_17 fg_X7_61 ?_
    refine vs_eqi (v9 := nI st.length) (hk.1) ?_
    refine vv_iload_n C dX7_push_20 rfl ?_
    refine st_47 C dX7_push_21 (xn_in (by omega) (by omega)) ?_
    refine vv_aload_n C dX7_push_22 rfl ?_
    refine vv_dup C dX7_push_23 rfl ?_
    refine gf_X7_high C dX7_push_24 fg_X7_61 ?_
    refine vs_eqi (v9 := nI st.length) (hk.1) ?_
    refine vv_iconst C dX7_push_27 ic_1 ?_
    refine vv_iadd C dX7_push_28 ?_
    refine vs_eqi (v9 := nI (st.length + 1)) (nI_1 _) ?_
    refine pf_X7_high C dX7_push_29 fp_X7_61 ?_
    refine vs_vret C F dX7_push_32 rfl ⟨⟨rfl, fun i hi => ?_⟩, (vs_fr.rf.ua (by decide)).us (by decide)⟩
    show upd (S.2.1 47) (nI st.length).toNatClampNeg v (st.length + 1 - 1 - i) = _
    rw [List.length_cons] at hi
    rw [xn_cl (by omega), xn_upd (α := Nat)]
    cases i with
    | zero => rw [if_pos (by omega)]; rfl
    | succ i =>
      rw [if_neg (by omega), show st.length + 1 - 1 - (i + 1) = st.length - 1 - i by omega, hk.2 i (by omega)]
      rfl

set_option maxRecDepth 20000 in
theorem c_X7_pop (g : vv_G) (S : vs_S) (st : List Int32) (hk : kX S st) (hl : st.length < 122) : vs_KI g yX7_pop cX7_pop 1 (some .int) 1 [vv_r g 45] S (fun r S1 => r = hd0 st ∧ kX S1 (tl0 st) ∧ vs_fr [11] [47] [] S S1) := by
  refine vs_ofI (lv := [_]) mb_X7_pop (Nat.le_of_ble_eq_true rfl) rfl (fun x C F => ?_)
  refine vv_aload_n C dX7_pop_0 rfl ?_
  refine gf_X7_high C dX7_pop_1 fg_X7_61 ?_
  refine vs_eqi (v9 := nI st.length) (hk.1) ?_
  refine vv_if_ne (tgt := 9) C dX7_pop_4 (by decide) (fun q4 => ?_) (fun q4 => ?_)
  · have hpos : 1 ≤ st.length := by
      apply Decidable.byContradiction
      intro z
      exact q4 (by rw [show st.length = 0 by omega]; rfl)
    refine vv_aload_n C dX7_pop_9 rfl ?_
    refine vv_dup C dX7_pop_10 rfl ?_
    refine gf_X7_high C dX7_pop_11 fg_X7_61 ?_
    refine vs_eqi (v9 := nI st.length) (hk.1) ?_
    refine vv_iconst C dX7_pop_14 ic_1 ?_
    refine vv_isub C dX7_pop_15 ?_
    refine vs_eqi (v9 := nI (st.length - 1)) (xn_sub (b := 1) (by omega)) ?_
    refine pf_X7_high C dX7_pop_16 fp_X7_61 ?_
    refine vv_aload_n C dX7_pop_19 rfl ?_
    refine gf_X7_stack C dX7_pop_20 fg_X7_17 ?_
    refine vv_aload_n C dX7_pop_23 rfl ?_
    refine gf_X7_high C dX7_pop_24 fg_X7_61 ?_
    refine vs_eqi (v9 := nI (st.length - 1)) (rfl) ?_
    refine ld_47 C dX7_pop_27 (xn_in (by omega) (by omega)) ?_
    refine vs_iret C F dX7_pop_28 rfl ?_
    cases st with
    | nil => exact absurd hpos (by decide)
    | cons a b =>
      refine ⟨?_, kX_tl hk rfl rfl, vs_fr.rf.us (by decide)⟩
      have h0 := hk.2 0 (by rw [List.length_cons]; omega)
      rw [List.length_cons] at h0
      rw [xn_cl (by rw [List.length_cons] at hl ⊢; omega)]
      exact h0
  · have e0 : st = [] := List.eq_nil_of_length_eq_zero ((xn_eq (by omega) (by omega)).mp (show nI st.length = nI 0 from q4))
    subst e0
    refine vv_iconst C dX7_pop_7 ic_0 ?_
    exact vs_iret C F dX7_pop_8 rfl ⟨rfl, hk, vs_fr.rf⟩
theorem vs_bn0 {v y : Int32} : vs_b (!(decide (v = 0 ∧ y = 0))) = if v = 0 ∧ y = 0 then 0 else 1 := by
  by_cases h : v = 0 ∧ y = 0
  · rw [decide_eq_true h, if_pos h]; rfl
  · rw [decide_eq_false h, if_neg h]; rfl
theorem vs_bn1 {v y : Int32} : vs_b (!(decide (v = 0 ∨ y = 0))) = if v = 0 ∨ y = 0 then 0 else 1 := by
  by_cases h : v = 0 ∨ y = 0
  · rw [decide_eq_true h, if_pos h]; rfl
  · rw [decide_eq_false h, if_neg h]; rfl
set_option maxRecDepth 20000 in
theorem c_X7_joined (g : vv_G) (S : vs_S) (v o y : Int32) : vs_FI g yX7_joined cX7_joined 3 (some .int) 2 [.int v, .int o, .int y] S (tkV o v y) S := by
  refine vs_ofI (lv := [_, _, _]) mb_X7_joined (Nat.le_of_ble_eq_true rfl) rfl (fun x C F => ?_)
  refine vv_iload_n C dX7_joined_0 rfl ?_
  rcases cs10 o with e | e | e | e | e | e | e | e | e | e | ⟨h37, h38, h42, h43, h45, h47, h60, h61, h62, h124⟩
  · subst e
    refine vv_lookup (tgt := 192) (off := 191) C dX7_joined_1 (by decide +kernel) (by decide +kernel) (by decide) ?_
    refine vv_iload_n C dX7_joined_192 rfl ?_
    refine vv_if_ne (tgt := 200) C dX7_joined_193 (by decide) (fun q193 => ?_) (fun q193 => ?_)
    · refine vv_iload_n C dX7_joined_200 rfl ?_
      refine vv_iload_n C dX7_joined_201 rfl ?_
      refine vv_irem C dX7_joined_202 q193 ?_
      first
      | exact vs_iret C F dX7_joined_203 rfl ⟨(if_neg q193).symm, rfl⟩
      | exact vs_iret C F dX7_joined_203 rfl ⟨(if_pos q193).symm, rfl⟩
    · refine vv_iconst C dX7_joined_196 ic_0 ?_
      refine vv_goto (tgt := 203) C dX7_joined_197 (by decide) ?_
      first
      | exact vs_iret C F dX7_joined_203 rfl ⟨(if_neg q193).symm, rfl⟩
      | exact vs_iret C F dX7_joined_203 rfl ⟨(if_pos q193).symm, rfl⟩
  · subst e
    refine vv_lookup (tgt := 109) (off := 108) C dX7_joined_1 (by decide +kernel) (by decide +kernel) (by decide) ?_
    refine vv_iload_n C dX7_joined_109 rfl ?_
    refine vv_if_eq (tgt := 121) C dX7_joined_110 (by decide) (fun q110 => ?_) (fun q110 => ?_)
    · refine vv_iconst C dX7_joined_121 ic_0 ?_
      refine vs_eqi (v9 := vs_b (!(decide (v = 0 ∨ y = 0)))) (by simp [*, vs_b]) ?_
      refine vs_calsiF C dX7_joined_122 (c_X7_oneIf g S _) mb_X7_oneIf ms_X7_oneIf lk_X7_75 rfl rfl ⟨Nat.le_of_ble_eq_true rfl, Nat.le_of_ble_eq_true rfl, Nat.le_of_ble_eq_true rfl⟩ ?_
      exact vs_iret C F dX7_joined_125 rfl ⟨(vs_bn1 (v := v) (y := y) : _), rfl⟩
    · refine vv_iload_n C dX7_joined_113 rfl ?_
      refine vv_if_eq (tgt := 121) C dX7_joined_114 (by decide) (fun q114 => ?_) (fun q114 => ?_)
      · refine vv_iconst C dX7_joined_121 ic_0 ?_
        refine vs_eqi (v9 := vs_b (!(decide (v = 0 ∨ y = 0)))) (by simp [*, vs_b]) ?_
        refine vs_calsiF C dX7_joined_122 (c_X7_oneIf g S _) mb_X7_oneIf ms_X7_oneIf lk_X7_75 rfl rfl ⟨Nat.le_of_ble_eq_true rfl, Nat.le_of_ble_eq_true rfl, Nat.le_of_ble_eq_true rfl⟩ ?_
        exact vs_iret C F dX7_joined_125 rfl ⟨(vs_bn1 (v := v) (y := y) : _), rfl⟩
      · refine vv_iconst C dX7_joined_117 ic_1 ?_
        refine vv_goto (tgt := 122) C dX7_joined_118 (by decide) ?_
        refine vs_eqi (v9 := vs_b (!(decide (v = 0 ∨ y = 0)))) (by simp [*, vs_b]) ?_
        refine vs_calsiF C dX7_joined_122 (c_X7_oneIf g S _) mb_X7_oneIf ms_X7_oneIf lk_X7_75 rfl rfl ⟨Nat.le_of_ble_eq_true rfl, Nat.le_of_ble_eq_true rfl, Nat.le_of_ble_eq_true rfl⟩ ?_
        exact vs_iret C F dX7_joined_125 rfl ⟨(vs_bn1 (v := v) (y := y) : _), rfl⟩
  · subst e
    refine vv_lookup (tgt := 176) (off := 175) C dX7_joined_1 (by decide +kernel) (by decide +kernel) (by decide) ?_
    refine vv_iload_n C dX7_joined_176 rfl ?_
    refine vv_iload_n C dX7_joined_177 rfl ?_
    refine vv_imul C dX7_joined_178 ?_
    exact vs_iret C F dX7_joined_179 rfl ⟨rfl, rfl⟩
  · subst e
    refine vv_lookup (tgt := 168) (off := 167) C dX7_joined_1 (by decide +kernel) (by decide +kernel) (by decide) ?_
    refine vv_iload_n C dX7_joined_168 rfl ?_
    refine vv_iload_n C dX7_joined_169 rfl ?_
    refine vv_iadd C dX7_joined_170 ?_
    exact vs_iret C F dX7_joined_171 rfl ⟨rfl, rfl⟩
  · subst e
    refine vv_lookup (tgt := 172) (off := 171) C dX7_joined_1 (by decide +kernel) (by decide +kernel) (by decide) ?_
    refine vv_iload_n C dX7_joined_172 rfl ?_
    refine vv_iload_n C dX7_joined_173 rfl ?_
    refine vv_isub C dX7_joined_174 ?_
    exact vs_iret C F dX7_joined_175 rfl ⟨rfl, rfl⟩
  · subst e
    refine vv_lookup (tgt := 180) (off := 179) C dX7_joined_1 (by decide +kernel) (by decide +kernel) (by decide) ?_
    refine vv_iload_n C dX7_joined_180 rfl ?_
    refine vv_if_ne (tgt := 188) C dX7_joined_181 (by decide) (fun q181 => ?_) (fun q181 => ?_)
    · refine vv_iload_n C dX7_joined_188 rfl ?_
      refine vv_iload_n C dX7_joined_189 rfl ?_
      refine vv_idiv C dX7_joined_190 q181 ?_
      first
      | exact vs_iret C F dX7_joined_191 rfl ⟨(if_neg q181).symm, rfl⟩
      | exact vs_iret C F dX7_joined_191 rfl ⟨(if_pos q181).symm, rfl⟩
    · refine vv_iconst C dX7_joined_184 ic_0 ?_
      refine vv_goto (tgt := 191) C dX7_joined_185 (by decide) ?_
      first
      | exact vs_iret C F dX7_joined_191 rfl ⟨(if_neg q181).symm, rfl⟩
      | exact vs_iret C F dX7_joined_191 rfl ⟨(if_pos q181).symm, rfl⟩
  · subst e
    refine vv_lookup (tgt := 126) (off := 125) C dX7_joined_1 (by decide +kernel) (by decide +kernel) (by decide) ?_
    refine vv_iload_n C dX7_joined_126 rfl ?_
    refine vv_iload_n C dX7_joined_127 rfl ?_
    refine vv_icmp_ge (tgt := 135) C dX7_joined_128 (by decide) (fun q128 => ?_) (fun q128 => ?_)
    · refine vv_iconst C dX7_joined_135 ic_0 ?_
      refine vs_eqi (v9 := vs_b (decide (v < y))) (by first | (rw [decide_eq_true (Int32.not_le.mp q128)]; rfl) | (rw [decide_eq_false (Int32.not_lt.mpr q128)]; rfl)) ?_
      refine vs_calsiF C dX7_joined_136 (c_X7_oneIf g S _) mb_X7_oneIf ms_X7_oneIf lk_X7_75 rfl rfl ⟨Nat.le_of_ble_eq_true rfl, Nat.le_of_ble_eq_true rfl, Nat.le_of_ble_eq_true rfl⟩ ?_
      exact vs_iret C F dX7_joined_139 rfl ⟨(vs_bd (P := v < y) : _), rfl⟩
    · refine vv_iconst C dX7_joined_131 ic_1 ?_
      refine vv_goto (tgt := 136) C dX7_joined_132 (by decide) ?_
      refine vs_eqi (v9 := vs_b (decide (v < y))) (by first | (rw [decide_eq_true (Int32.not_le.mp q128)]; rfl) | (rw [decide_eq_false (Int32.not_lt.mpr q128)]; rfl)) ?_
      refine vs_calsiF C dX7_joined_136 (c_X7_oneIf g S _) mb_X7_oneIf ms_X7_oneIf lk_X7_75 rfl rfl ⟨Nat.le_of_ble_eq_true rfl, Nat.le_of_ble_eq_true rfl, Nat.le_of_ble_eq_true rfl⟩ ?_
      exact vs_iret C F dX7_joined_139 rfl ⟨(vs_bd (P := v < y) : _), rfl⟩
  · subst e
    refine vv_lookup (tgt := 140) (off := 139) C dX7_joined_1 (by decide +kernel) (by decide +kernel) (by decide) ?_
    refine vv_iload_n C dX7_joined_140 rfl ?_
    refine vv_iload_n C dX7_joined_141 rfl ?_
    refine vv_icmp_ne (tgt := 149) C dX7_joined_142 (by decide) (fun q142 => ?_) (fun q142 => ?_)
    · refine vv_iconst C dX7_joined_149 ic_0 ?_
      refine vs_eqi (v9 := vs_b (decide (v = y))) (by first | (rw [decide_eq_true q142]; rfl) | (rw [decide_eq_false q142]; rfl)) ?_
      refine vs_calsiF C dX7_joined_150 (c_X7_oneIf g S _) mb_X7_oneIf ms_X7_oneIf lk_X7_75 rfl rfl ⟨Nat.le_of_ble_eq_true rfl, Nat.le_of_ble_eq_true rfl, Nat.le_of_ble_eq_true rfl⟩ ?_
      exact vs_iret C F dX7_joined_153 rfl ⟨(vs_bd (P := v = y) : _), rfl⟩
    · refine vv_iconst C dX7_joined_145 ic_1 ?_
      refine vv_goto (tgt := 150) C dX7_joined_146 (by decide) ?_
      refine vs_eqi (v9 := vs_b (decide (v = y))) (by first | (rw [decide_eq_true q142]; rfl) | (rw [decide_eq_false q142]; rfl)) ?_
      refine vs_calsiF C dX7_joined_150 (c_X7_oneIf g S _) mb_X7_oneIf ms_X7_oneIf lk_X7_75 rfl rfl ⟨Nat.le_of_ble_eq_true rfl, Nat.le_of_ble_eq_true rfl, Nat.le_of_ble_eq_true rfl⟩ ?_
      exact vs_iret C F dX7_joined_153 rfl ⟨(vs_bd (P := v = y) : _), rfl⟩
  · subst e
    refine vv_lookup (tgt := 154) (off := 153) C dX7_joined_1 (by decide +kernel) (by decide +kernel) (by decide) ?_
    refine vv_iload_n C dX7_joined_154 rfl ?_
    refine vv_iload_n C dX7_joined_155 rfl ?_
    refine vv_icmp_le (tgt := 163) C dX7_joined_156 (by decide) (fun q156 => ?_) (fun q156 => ?_)
    · refine vv_iconst C dX7_joined_163 ic_0 ?_
      refine vs_eqi (v9 := vs_b (decide (y < v))) (by first | (rw [decide_eq_true (Int32.not_le.mp q156)]; rfl) | (rw [decide_eq_false (Int32.not_lt.mpr q156)]; rfl)) ?_
      refine vs_calsiF C dX7_joined_164 (c_X7_oneIf g S _) mb_X7_oneIf ms_X7_oneIf lk_X7_75 rfl rfl ⟨Nat.le_of_ble_eq_true rfl, Nat.le_of_ble_eq_true rfl, Nat.le_of_ble_eq_true rfl⟩ ?_
      exact vs_iret C F dX7_joined_167 rfl ⟨(vs_bd (P := y < v) : _), rfl⟩
    · refine vv_iconst C dX7_joined_159 ic_1 ?_
      refine vv_goto (tgt := 164) C dX7_joined_160 (by decide) ?_
      refine vs_eqi (v9 := vs_b (decide (y < v))) (by first | (rw [decide_eq_true (Int32.not_le.mp q156)]; rfl) | (rw [decide_eq_false (Int32.not_lt.mpr q156)]; rfl)) ?_
      refine vs_calsiF C dX7_joined_164 (c_X7_oneIf g S _) mb_X7_oneIf ms_X7_oneIf lk_X7_75 rfl rfl ⟨Nat.le_of_ble_eq_true rfl, Nat.le_of_ble_eq_true rfl, Nat.le_of_ble_eq_true rfl⟩ ?_
      exact vs_iret C F dX7_joined_167 rfl ⟨(vs_bd (P := y < v) : _), rfl⟩
  · subst e
    refine vv_lookup (tgt := 92) (off := 91) C dX7_joined_1 (by decide +kernel) (by decide +kernel) (by decide) ?_
    refine vv_iload_n C dX7_joined_92 rfl ?_
    refine vv_if_ne (tgt := 100) C dX7_joined_93 (by decide) (fun q93 => ?_) (fun q93 => ?_)
    · refine vv_iconst C dX7_joined_100 ic_1 ?_
      refine vv_goto (tgt := 105) C dX7_joined_101 (by decide) ?_
      refine vs_eqi (v9 := vs_b (!(decide (v = 0 ∧ y = 0)))) (by simp [*, vs_b]) ?_
      refine vs_calsiF C dX7_joined_105 (c_X7_oneIf g S _) mb_X7_oneIf ms_X7_oneIf lk_X7_75 rfl rfl ⟨Nat.le_of_ble_eq_true rfl, Nat.le_of_ble_eq_true rfl, Nat.le_of_ble_eq_true rfl⟩ ?_
      exact vs_iret C F dX7_joined_108 rfl ⟨(vs_bn0 (v := v) (y := y) : _), rfl⟩
    · refine vv_iload_n C dX7_joined_96 rfl ?_
      refine vv_if_eq (tgt := 104) C dX7_joined_97 (by decide) (fun q97 => ?_) (fun q97 => ?_)
      · refine vv_iconst C dX7_joined_104 ic_0 ?_
        refine vs_eqi (v9 := vs_b (!(decide (v = 0 ∧ y = 0)))) (by simp [*, vs_b]) ?_
        refine vs_calsiF C dX7_joined_105 (c_X7_oneIf g S _) mb_X7_oneIf ms_X7_oneIf lk_X7_75 rfl rfl ⟨Nat.le_of_ble_eq_true rfl, Nat.le_of_ble_eq_true rfl, Nat.le_of_ble_eq_true rfl⟩ ?_
        exact vs_iret C F dX7_joined_108 rfl ⟨(vs_bn0 (v := v) (y := y) : _), rfl⟩
      · refine vv_iconst C dX7_joined_100 ic_1 ?_
        refine vv_goto (tgt := 105) C dX7_joined_101 (by decide) ?_
        refine vs_eqi (v9 := vs_b (!(decide (v = 0 ∧ y = 0)))) (by simp [*, vs_b]) ?_
        refine vs_calsiF C dX7_joined_105 (c_X7_oneIf g S _) mb_X7_oneIf ms_X7_oneIf lk_X7_75 rfl rfl ⟨Nat.le_of_ble_eq_true rfl, Nat.le_of_ble_eq_true rfl, Nat.le_of_ble_eq_true rfl⟩ ?_
        exact vs_iret C F dX7_joined_108 rfl ⟨(vs_bn0 (v := v) (y := y) : _), rfl⟩
  · refine vv_lookup (tgt := 204) (off := 203) C dX7_joined_1 (by decide +kernel) (by
        show Op.lookupswitch.offset [(37, 191), (38, 108), (42, 175), (43, 167), (45, 171), (47, 179), (60, 125), (61, 139), (62, 153), (124, 91)] 203 (o).toInt = 203
        rw [Op.lookupswitch.offset_cons, if_neg (show ¬ (37 : Int) = (o).toInt from lk_ne (c := 37) h37), Op.lookupswitch.offset_cons, if_neg (show ¬ (38 : Int) = (o).toInt from lk_ne (c := 38) h38), Op.lookupswitch.offset_cons, if_neg (show ¬ (42 : Int) = (o).toInt from lk_ne (c := 42) h42), Op.lookupswitch.offset_cons, if_neg (show ¬ (43 : Int) = (o).toInt from lk_ne (c := 43) h43), Op.lookupswitch.offset_cons, if_neg (show ¬ (45 : Int) = (o).toInt from lk_ne (c := 45) h45), Op.lookupswitch.offset_cons, if_neg (show ¬ (47 : Int) = (o).toInt from lk_ne (c := 47) h47), Op.lookupswitch.offset_cons, if_neg (show ¬ (60 : Int) = (o).toInt from lk_ne (c := 60) h60), Op.lookupswitch.offset_cons, if_neg (show ¬ (61 : Int) = (o).toInt from lk_ne (c := 61) h61), Op.lookupswitch.offset_cons, if_neg (show ¬ (62 : Int) = (o).toInt from lk_ne (c := 62) h62), Op.lookupswitch.offset_cons, if_neg (show ¬ (124 : Int) = (o).toInt from lk_ne (c := 124) h124), Op.lookupswitch.offset_nil]) (by decide) ?_
    refine vv_iconst C dX7_joined_204 ic_0 ?_
    exact vs_iret C F dX7_joined_205 rfl ⟨(tkV_d ⟨h37, h38, h42, h43, h45, h47, h60, h61, h62, h124⟩).symm, rfl⟩
set_option maxRecDepth 20000 in
theorem c_X7_takeStep (g : vv_G) (S : vs_S) (st : List Int32) (hk : kX S st) (hl : st.length < 121) (o x a c : Int32) : vs_KV g yX7_takeStep cX7_takeStep 7 none 3 [vv_r g 45, .int o, .int x, .int a, .int c] S (fun S1 => kX S1 (tks (nmF x a c) o st) ∧ vs_fr [11] [47] [] S S1) := by
  refine vs_ofV (lv := [_, _, _, _, _, _, _]) mb_X7_takeStep (Nat.le_of_ble_eq_true rfl) rfl (fun x C F => ?_)
  refine vv_iload_n C dX7_takeStep_0 rfl ?_
  rcases cs7 o with e | e | e | e | e | e | e | ⟨h33, h103, h104, h110, h112, h116, h126⟩
  · subst e
    refine vv_lookup (tgt := 115) (off := 114) C dX7_takeStep_1 (by decide +kernel) (by decide +kernel) (by decide) ?_
    refine vv_aload_n C dX7_takeStep_115 rfl ?_
    refine vv_aload_n C dX7_takeStep_116 rfl ?_
    refine vs_calli C dX7_takeStep_117 (c_X7_pop g S st hk (by omega)) mb_X7_pop mv_X7_pop lk_X7_68 ce_45 rfl rfl rfl rfl ⟨Nat.le_of_ble_eq_true rfl, Nat.le_of_ble_eq_true rfl, Nat.le_of_ble_eq_true rfl⟩ (fun r117 S117 p117 => ?_)
    refine vv_if_ne (tgt := 127) C dX7_takeStep_120 (by decide) (fun q120 => ?_) (fun q120 => ?_)
    · refine vv_iconst C dX7_takeStep_127 ic_0 ?_
      refine vs_eqi (v9 := vs_b (decide (r117 = 0))) (by first | (rw [decide_eq_true q120]; rfl) | (rw [decide_eq_false q120]; rfl)) ?_
      refine vs_calsiF C dX7_takeStep_128 (c_X7_oneIf g S117 _) mb_X7_oneIf ms_X7_oneIf lk_X7_75 rfl rfl ⟨Nat.le_of_ble_eq_true rfl, Nat.le_of_ble_eq_true rfl, Nat.le_of_ble_eq_true rfl⟩ ?_
      refine vs_callv C dX7_takeStep_131 (c_X7_push g S117 (tl0 st) p117.2.1 (by first | omega | (rw [tl_len]; omega) | (rw [tl_len, tl_len]; omega)) _) mb_X7_push mv_X7_push lk_X7_64 ce_45 rfl rfl rfl rfl ⟨Nat.le_of_ble_eq_true rfl, Nat.le_of_ble_eq_true rfl, Nat.le_of_ble_eq_true rfl⟩ (fun S131 p131 => ?_)
      refine vv_goto (tgt := 173) C dX7_takeStep_134 (by decide) ?_
      first
      | exact vs_vret C F dX7_takeStep_173 rfl p70
      | exact vs_vret C F dX7_takeStep_173 rfl p78
      | exact vs_vret C F dX7_takeStep_173 rfl p87
      | exact vs_vret C F dX7_takeStep_173 rfl p98
      | exact vs_vret C F dX7_takeStep_173 rfl p109
      | (refine vs_vret C F dX7_takeStep_173 rfl ⟨?_, p117.2.2.tr p131.2⟩; have z := p131.1; rw [p117.1, vs_bd] at z; exact z)
      | (refine vs_vret C F dX7_takeStep_173 rfl ⟨?_, p139.2.2.tr p143.2⟩; have z := p143.1; rw [p139.1] at z; exact z)
      | (refine vs_vret C F dX7_takeStep_173 rfl ⟨?_, (p150.2.2.tr p156.2.2).tr p170.2⟩; have z := p170.1; rw [p156.1, p150.1] at z; rw [tks_d ⟨h33, h103, h104, h110, h112, h116, h126⟩]; exact z)
    · refine vv_iconst C dX7_takeStep_123 ic_1 ?_
      refine vv_goto (tgt := 128) C dX7_takeStep_124 (by decide) ?_
      refine vs_eqi (v9 := vs_b (decide (r117 = 0))) (by first | (rw [decide_eq_true q120]; rfl) | (rw [decide_eq_false q120]; rfl)) ?_
      refine vs_calsiF C dX7_takeStep_128 (c_X7_oneIf g S117 _) mb_X7_oneIf ms_X7_oneIf lk_X7_75 rfl rfl ⟨Nat.le_of_ble_eq_true rfl, Nat.le_of_ble_eq_true rfl, Nat.le_of_ble_eq_true rfl⟩ ?_
      refine vs_callv C dX7_takeStep_131 (c_X7_push g S117 (tl0 st) p117.2.1 (by first | omega | (rw [tl_len]; omega) | (rw [tl_len, tl_len]; omega)) _) mb_X7_push mv_X7_push lk_X7_64 ce_45 rfl rfl rfl rfl ⟨Nat.le_of_ble_eq_true rfl, Nat.le_of_ble_eq_true rfl, Nat.le_of_ble_eq_true rfl⟩ (fun S131 p131 => ?_)
      refine vv_goto (tgt := 173) C dX7_takeStep_134 (by decide) ?_
      first
      | exact vs_vret C F dX7_takeStep_173 rfl p70
      | exact vs_vret C F dX7_takeStep_173 rfl p78
      | exact vs_vret C F dX7_takeStep_173 rfl p87
      | exact vs_vret C F dX7_takeStep_173 rfl p98
      | exact vs_vret C F dX7_takeStep_173 rfl p109
      | (refine vs_vret C F dX7_takeStep_173 rfl ⟨?_, p117.2.2.tr p131.2⟩; have z := p131.1; rw [p117.1, vs_bd] at z; exact z)
      | (refine vs_vret C F dX7_takeStep_173 rfl ⟨?_, p139.2.2.tr p143.2⟩; have z := p143.1; rw [p139.1] at z; exact z)
      | (refine vs_vret C F dX7_takeStep_173 rfl ⟨?_, (p150.2.2.tr p156.2.2).tr p170.2⟩; have z := p170.1; rw [p156.1, p150.1] at z; rw [tks_d ⟨h33, h103, h104, h110, h112, h116, h126⟩]; exact z)
  · subst e
    refine vv_lookup (tgt := 76) (off := 75) C dX7_takeStep_1 (by decide +kernel) (by decide +kernel) (by decide) ?_
    refine vv_aload_n C dX7_takeStep_76 rfl ?_
    refine vv_iload_n C dX7_takeStep_77 rfl ?_
    refine vs_callv C dX7_takeStep_78 (c_X7_push g S st hk (by first | omega | (rw [tl_len]; omega) | (rw [tl_len, tl_len]; omega)) _) mb_X7_push mv_X7_push lk_X7_64 ce_45 rfl rfl rfl rfl ⟨Nat.le_of_ble_eq_true rfl, Nat.le_of_ble_eq_true rfl, Nat.le_of_ble_eq_true rfl⟩ (fun S78 p78 => ?_)
    refine vv_goto (tgt := 173) C dX7_takeStep_81 (by decide) ?_
    first
    | exact vs_vret C F dX7_takeStep_173 rfl p70
    | exact vs_vret C F dX7_takeStep_173 rfl p78
    | exact vs_vret C F dX7_takeStep_173 rfl p87
    | exact vs_vret C F dX7_takeStep_173 rfl p98
    | exact vs_vret C F dX7_takeStep_173 rfl p109
    | (refine vs_vret C F dX7_takeStep_173 rfl ⟨?_, p117.2.2.tr p131.2⟩; have z := p131.1; rw [p117.1, vs_bd] at z; exact z)
    | (refine vs_vret C F dX7_takeStep_173 rfl ⟨?_, p139.2.2.tr p143.2⟩; have z := p143.1; rw [p139.1] at z; exact z)
    | (refine vs_vret C F dX7_takeStep_173 rfl ⟨?_, (p150.2.2.tr p156.2.2).tr p170.2⟩; have z := p170.1; rw [p156.1, p150.1] at z; rw [tks_d ⟨h33, h103, h104, h110, h112, h116, h126⟩]; exact z)
  · subst e
    refine vv_lookup (tgt := 104) (off := 103) C dX7_takeStep_1 (by decide +kernel) (by decide +kernel) (by decide) ?_
    refine vv_aload_n C dX7_takeStep_104 rfl ?_
    refine vv_iload_n C dX7_takeStep_105 rfl ?_
    refine vv_bipush C dX7_takeStep_106 bp_100 ?_
    refine vv_idiv C dX7_takeStep_108 (by decide) ?_
    refine vs_callv C dX7_takeStep_109 (c_X7_push g S st hk (by first | omega | (rw [tl_len]; omega) | (rw [tl_len, tl_len]; omega)) _) mb_X7_push mv_X7_push lk_X7_64 ce_45 rfl rfl rfl rfl ⟨Nat.le_of_ble_eq_true rfl, Nat.le_of_ble_eq_true rfl, Nat.le_of_ble_eq_true rfl⟩ (fun S109 p109 => ?_)
    refine vv_goto (tgt := 173) C dX7_takeStep_112 (by decide) ?_
    first
    | exact vs_vret C F dX7_takeStep_173 rfl p70
    | exact vs_vret C F dX7_takeStep_173 rfl p78
    | exact vs_vret C F dX7_takeStep_173 rfl p87
    | exact vs_vret C F dX7_takeStep_173 rfl p98
    | exact vs_vret C F dX7_takeStep_173 rfl p109
    | (refine vs_vret C F dX7_takeStep_173 rfl ⟨?_, p117.2.2.tr p131.2⟩; have z := p131.1; rw [p117.1, vs_bd] at z; exact z)
    | (refine vs_vret C F dX7_takeStep_173 rfl ⟨?_, p139.2.2.tr p143.2⟩; have z := p143.1; rw [p139.1] at z; exact z)
    | (refine vs_vret C F dX7_takeStep_173 rfl ⟨?_, (p150.2.2.tr p156.2.2).tr p170.2⟩; have z := p170.1; rw [p156.1, p150.1] at z; rw [tks_d ⟨h33, h103, h104, h110, h112, h116, h126⟩]; exact z)
  · subst e
    refine vv_lookup (tgt := 84) (off := 83) C dX7_takeStep_1 (by decide +kernel) (by decide +kernel) (by decide) ?_
    refine vv_aload_n C dX7_takeStep_84 rfl ?_
    refine vv_iload C dX7_takeStep_85 rfl ?_
    refine vs_callv C dX7_takeStep_87 (c_X7_push g S st hk (by first | omega | (rw [tl_len]; omega) | (rw [tl_len, tl_len]; omega)) _) mb_X7_push mv_X7_push lk_X7_64 ce_45 rfl rfl rfl rfl ⟨Nat.le_of_ble_eq_true rfl, Nat.le_of_ble_eq_true rfl, Nat.le_of_ble_eq_true rfl⟩ (fun S87 p87 => ?_)
    refine vv_goto (tgt := 173) C dX7_takeStep_90 (by decide) ?_
    first
    | exact vs_vret C F dX7_takeStep_173 rfl p70
    | exact vs_vret C F dX7_takeStep_173 rfl p78
    | exact vs_vret C F dX7_takeStep_173 rfl p87
    | exact vs_vret C F dX7_takeStep_173 rfl p98
    | exact vs_vret C F dX7_takeStep_173 rfl p109
    | (refine vs_vret C F dX7_takeStep_173 rfl ⟨?_, p117.2.2.tr p131.2⟩; have z := p131.1; rw [p117.1, vs_bd] at z; exact z)
    | (refine vs_vret C F dX7_takeStep_173 rfl ⟨?_, p139.2.2.tr p143.2⟩; have z := p143.1; rw [p139.1] at z; exact z)
    | (refine vs_vret C F dX7_takeStep_173 rfl ⟨?_, (p150.2.2.tr p156.2.2).tr p170.2⟩; have z := p170.1; rw [p156.1, p150.1] at z; rw [tks_d ⟨h33, h103, h104, h110, h112, h116, h126⟩]; exact z)
  · subst e
    refine vv_lookup (tgt := 68) (off := 67) C dX7_takeStep_1 (by decide +kernel) (by decide +kernel) (by decide) ?_
    refine vv_aload_n C dX7_takeStep_68 rfl ?_
    refine vv_iload_n C dX7_takeStep_69 rfl ?_
    refine vs_callv C dX7_takeStep_70 (c_X7_push g S st hk (by first | omega | (rw [tl_len]; omega) | (rw [tl_len, tl_len]; omega)) _) mb_X7_push mv_X7_push lk_X7_64 ce_45 rfl rfl rfl rfl ⟨Nat.le_of_ble_eq_true rfl, Nat.le_of_ble_eq_true rfl, Nat.le_of_ble_eq_true rfl⟩ (fun S70 p70 => ?_)
    refine vv_goto (tgt := 173) C dX7_takeStep_73 (by decide) ?_
    first
    | exact vs_vret C F dX7_takeStep_173 rfl p70
    | exact vs_vret C F dX7_takeStep_173 rfl p78
    | exact vs_vret C F dX7_takeStep_173 rfl p87
    | exact vs_vret C F dX7_takeStep_173 rfl p98
    | exact vs_vret C F dX7_takeStep_173 rfl p109
    | (refine vs_vret C F dX7_takeStep_173 rfl ⟨?_, p117.2.2.tr p131.2⟩; have z := p131.1; rw [p117.1, vs_bd] at z; exact z)
    | (refine vs_vret C F dX7_takeStep_173 rfl ⟨?_, p139.2.2.tr p143.2⟩; have z := p143.1; rw [p139.1] at z; exact z)
    | (refine vs_vret C F dX7_takeStep_173 rfl ⟨?_, (p150.2.2.tr p156.2.2).tr p170.2⟩; have z := p170.1; rw [p156.1, p150.1] at z; rw [tks_d ⟨h33, h103, h104, h110, h112, h116, h126⟩]; exact z)
  · subst e
    refine vv_lookup (tgt := 93) (off := 92) C dX7_takeStep_1 (by decide +kernel) (by decide +kernel) (by decide) ?_
    refine vv_aload_n C dX7_takeStep_93 rfl ?_
    refine vv_iload_n C dX7_takeStep_94 rfl ?_
    refine vv_bipush C dX7_takeStep_95 bp_10 ?_
    refine vv_irem C dX7_takeStep_97 (by decide) ?_
    refine vs_callv C dX7_takeStep_98 (c_X7_push g S st hk (by first | omega | (rw [tl_len]; omega) | (rw [tl_len, tl_len]; omega)) _) mb_X7_push mv_X7_push lk_X7_64 ce_45 rfl rfl rfl rfl ⟨Nat.le_of_ble_eq_true rfl, Nat.le_of_ble_eq_true rfl, Nat.le_of_ble_eq_true rfl⟩ (fun S98 p98 => ?_)
    refine vv_goto (tgt := 173) C dX7_takeStep_101 (by decide) ?_
    first
    | exact vs_vret C F dX7_takeStep_173 rfl p70
    | exact vs_vret C F dX7_takeStep_173 rfl p78
    | exact vs_vret C F dX7_takeStep_173 rfl p87
    | exact vs_vret C F dX7_takeStep_173 rfl p98
    | exact vs_vret C F dX7_takeStep_173 rfl p109
    | (refine vs_vret C F dX7_takeStep_173 rfl ⟨?_, p117.2.2.tr p131.2⟩; have z := p131.1; rw [p117.1, vs_bd] at z; exact z)
    | (refine vs_vret C F dX7_takeStep_173 rfl ⟨?_, p139.2.2.tr p143.2⟩; have z := p143.1; rw [p139.1] at z; exact z)
    | (refine vs_vret C F dX7_takeStep_173 rfl ⟨?_, (p150.2.2.tr p156.2.2).tr p170.2⟩; have z := p170.1; rw [p156.1, p150.1] at z; rw [tks_d ⟨h33, h103, h104, h110, h112, h116, h126⟩]; exact z)
  · subst e
    refine vv_lookup (tgt := 137) (off := 136) C dX7_takeStep_1 (by decide +kernel) (by decide +kernel) (by decide) ?_
    refine vv_aload_n C dX7_takeStep_137 rfl ?_
    refine vv_aload_n C dX7_takeStep_138 rfl ?_
    refine vs_calli C dX7_takeStep_139 (c_X7_pop g S st hk (by omega)) mb_X7_pop mv_X7_pop lk_X7_68 ce_45 rfl rfl rfl rfl ⟨Nat.le_of_ble_eq_true rfl, Nat.le_of_ble_eq_true rfl, Nat.le_of_ble_eq_true rfl⟩ (fun r139 S139 p139 => ?_)
    refine vv_ineg C dX7_takeStep_142 ?_
    refine vs_callv C dX7_takeStep_143 (c_X7_push g S139 (tl0 st) p139.2.1 (by first | omega | (rw [tl_len]; omega) | (rw [tl_len, tl_len]; omega)) _) mb_X7_push mv_X7_push lk_X7_64 ce_45 rfl rfl rfl rfl ⟨Nat.le_of_ble_eq_true rfl, Nat.le_of_ble_eq_true rfl, Nat.le_of_ble_eq_true rfl⟩ (fun S143 p143 => ?_)
    refine vv_goto (tgt := 173) C dX7_takeStep_146 (by decide) ?_
    first
    | exact vs_vret C F dX7_takeStep_173 rfl p70
    | exact vs_vret C F dX7_takeStep_173 rfl p78
    | exact vs_vret C F dX7_takeStep_173 rfl p87
    | exact vs_vret C F dX7_takeStep_173 rfl p98
    | exact vs_vret C F dX7_takeStep_173 rfl p109
    | (refine vs_vret C F dX7_takeStep_173 rfl ⟨?_, p117.2.2.tr p131.2⟩; have z := p131.1; rw [p117.1, vs_bd] at z; exact z)
    | (refine vs_vret C F dX7_takeStep_173 rfl ⟨?_, p139.2.2.tr p143.2⟩; have z := p143.1; rw [p139.1] at z; exact z)
    | (refine vs_vret C F dX7_takeStep_173 rfl ⟨?_, (p150.2.2.tr p156.2.2).tr p170.2⟩; have z := p170.1; rw [p156.1, p150.1] at z; rw [tks_d ⟨h33, h103, h104, h110, h112, h116, h126⟩]; exact z)
  · refine vv_lookup (tgt := 149) (off := 148) C dX7_takeStep_1 (by decide +kernel) (by
        show Op.lookupswitch.offset [(33, 114), (103, 75), (104, 103), (110, 83), (112, 67), (116, 92), (126, 136)] 148 (o).toInt = 148
        rw [Op.lookupswitch.offset_cons, if_neg (show ¬ (33 : Int) = (o).toInt from lk_ne (c := 33) h33), Op.lookupswitch.offset_cons, if_neg (show ¬ (103 : Int) = (o).toInt from lk_ne (c := 103) h103), Op.lookupswitch.offset_cons, if_neg (show ¬ (104 : Int) = (o).toInt from lk_ne (c := 104) h104), Op.lookupswitch.offset_cons, if_neg (show ¬ (110 : Int) = (o).toInt from lk_ne (c := 110) h110), Op.lookupswitch.offset_cons, if_neg (show ¬ (112 : Int) = (o).toInt from lk_ne (c := 112) h112), Op.lookupswitch.offset_cons, if_neg (show ¬ (116 : Int) = (o).toInt from lk_ne (c := 116) h116), Op.lookupswitch.offset_cons, if_neg (show ¬ (126 : Int) = (o).toInt from lk_ne (c := 126) h126), Op.lookupswitch.offset_nil]) (by decide) ?_
    refine vv_aload_n C dX7_takeStep_149 rfl ?_
    refine vs_calli C dX7_takeStep_150 (c_X7_pop g S st hk (by omega)) mb_X7_pop mv_X7_pop lk_X7_68 ce_45 rfl rfl rfl rfl ⟨Nat.le_of_ble_eq_true rfl, Nat.le_of_ble_eq_true rfl, Nat.le_of_ble_eq_true rfl⟩ (fun r150 S150 p150 => ?_)
    refine vw_istore (lv9 := [_, _, _, _, _, _, _]) C dX7_takeStep_153 (by decide) rfl rfl ?_
    refine vv_aload_n C dX7_takeStep_155 rfl ?_
    refine vs_calli C dX7_takeStep_156 (c_X7_pop g S150 (tl0 st) p150.2.1 (by rw [tl_len]; omega)) mb_X7_pop mv_X7_pop lk_X7_68 ce_45 rfl rfl rfl rfl ⟨Nat.le_of_ble_eq_true rfl, Nat.le_of_ble_eq_true rfl, Nat.le_of_ble_eq_true rfl⟩ (fun r156 S156 p156 => ?_)
    refine vw_istore (lv9 := [_, _, _, _, _, _, _]) C dX7_takeStep_159 (by decide) rfl rfl ?_
    refine vv_aload_n C dX7_takeStep_161 rfl ?_
    refine vv_iload C dX7_takeStep_162 rfl ?_
    refine vv_iload_n C dX7_takeStep_164 rfl ?_
    refine vv_iload C dX7_takeStep_165 rfl ?_
    refine vs_calsiF C dX7_takeStep_167 (c_X7_joined g S156 _ _ _) mb_X7_joined ms_X7_joined lk_X7_79 rfl rfl ⟨Nat.le_of_ble_eq_true rfl, Nat.le_of_ble_eq_true rfl, Nat.le_of_ble_eq_true rfl⟩ ?_
    refine vs_callv C dX7_takeStep_170 (c_X7_push g S156 (tl0 (tl0 st)) p156.2.1 (by first | omega | (rw [tl_len]; omega) | (rw [tl_len, tl_len]; omega)) _) mb_X7_push mv_X7_push lk_X7_64 ce_45 rfl rfl rfl rfl ⟨Nat.le_of_ble_eq_true rfl, Nat.le_of_ble_eq_true rfl, Nat.le_of_ble_eq_true rfl⟩ (fun S170 p170 => ?_)
    first
    | exact vs_vret C F dX7_takeStep_173 rfl p70
    | exact vs_vret C F dX7_takeStep_173 rfl p78
    | exact vs_vret C F dX7_takeStep_173 rfl p87
    | exact vs_vret C F dX7_takeStep_173 rfl p98
    | exact vs_vret C F dX7_takeStep_173 rfl p109
    | (refine vs_vret C F dX7_takeStep_173 rfl ⟨?_, p117.2.2.tr p131.2⟩; have z := p131.1; rw [p117.1, vs_bd] at z; exact z)
    | (refine vs_vret C F dX7_takeStep_173 rfl ⟨?_, p139.2.2.tr p143.2⟩; have z := p143.1; rw [p139.1] at z; exact z)
    | (refine vs_vret C F dX7_takeStep_173 rfl ⟨?_, (p150.2.2.tr p156.2.2).tr p170.2⟩; have z := p170.1; rw [p156.1, p150.1] at z; rw [tks_d ⟨h33, h103, h104, h110, h112, h116, h126⟩]; exact z)
