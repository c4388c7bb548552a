/-! READING, the class's -/
def ah (L : Nat) (B : Nat → Int32) (p : Nat) : Int32 := if p < L then B p else -1
def ab (L : Nat) (B : Nat → Int32) (p : Nat) : Int32 := if p < L then B p else 0
theorem ah_bl {L : Nat} {B : Nat → Int32} : ∀ p, L ≤ p → bl (ah L B p) := fun p h => by
  unfold ah
  rw [if_neg (by omega)]
  exact Or.inr rfl
theorem ab_bl {L : Nat} {B : Nat → Int32} : ∀ p, L ≤ p → bl (ab L B p) := fun p h => by
  unfold ab
  rw [if_neg (by omega)]
  exact Or.inl rfl
theorem ah_ab (L : Nat) (B : Nat → Int32) : tq (ah L B) (ab L B) := fun p => by
  by_cases h : p < L
  · refine Or.inl ?_
    unfold ah ab
    rw [if_pos h, if_pos h]
  · exact Or.inr ⟨ah_bl p (by omega), ab_bl p (by omega)⟩
def tp (S : vs_S) (L : Nat) (B : Nat → Int32) : Prop := S.1 14 = nI L ∧ L ≤ 120 ∧ ∀ i, i < L → S.2.1 49 i = B i
theorem tp.fr {S S1 : vs_S} {L : Nat} {B : Nat → Int32} {ks is js : List Nat} (h : tp S L B) (f : vs_fr ks is js S S1) (h1 : 14 ∉ ks) (h2 : 49 ∉ is) : tp S1 L B := ⟨(f.1 14 h1).trans h.1, h.2.1, fun i hi => by rw [f.2.1 49 h2]; exact h.2.2 i hi⟩
def hc0 (S : vs_S) (c : List Int32) : Prop := S.1 16 = nI c.length ∧ ∀ i, i < c.length → S.2.1 50 i = c.getD i 0
def rX (S : vs_S) (p : Nat) (c : List Int32) : Prop := S.1 15 = nI p ∧ S.1 17 = -1 ∧ hc0 S c ∧ c.length ≤ p
def pX (S S1 : vs_S) (c : List Int32) (t : pT) : Prop := vs_fr [15, 16, 17] [50] [] S S1 ∧ S1.1 15 = nI t.2.1 ∧ (t.1 = true → S1.1 17 = -1 ∧ hc0 S1 (c ++ t.2.2.1)) ∧ (¬ t.1 = true → S1.1 17 = nI t.2.1 ∧ ∃ w, w ≤ 121 ∧ S1.1 16 = nI w)
def wX (S : vs_S) (k : Nat) (s : Int32) : vs_S := vs_us (vs_ua S 50 (upd (S.2.1 50) (nI k).toNatClampNeg s)) 16 (nI (k + 1))
theorem hc_g {c : List Int32} {s : Int32} {i : Nat} (hi : i < c.length + 1) : (c ++ [s]).getD i 0 = if i = c.length then s else c.getD i 0 := by
  rw [List.getD_eq_getElem?_getD, List.getD_eq_getElem?_getD]
  by_cases h : i = c.length
  · subst h
    rw [if_pos rfl, List.getElem?_append_right (Nat.le_refl _), Nat.sub_self]
    rfl
  · rw [if_neg h, List.getElem?_append_left (by omega)]
theorem hc_w {S : vs_S} {c : List Int32} {s : Int32} (h : hc0 S c) (hl : c.length ≤ 120) : hc0 (wX S c.length s) (c ++ [s]) := by
  refine ⟨?_, fun i hi => ?_⟩
  · rw [List.length_append, List.length_singleton]
    rfl
  · show upd (S.2.1 50) (nI c.length).toNatClampNeg s i = _
    rw [List.length_append, List.length_singleton] at hi
    rw [xn_cl (by omega), xn_upd (α := Nat), hc_g hi]
    by_cases y : i = c.length
    · rw [if_pos y, if_pos y]
    · rw [if_neg y, if_neg y]
      exact h.2 i (by omega)
theorem wX_fr {S : vs_S} {k : Nat} {s : Int32} : vs_fr [15, 16, 17] [50] [] S (wX S k s) := (vs_fr.rf.ua (by decide)).us (by decide)
def OpX (g : vv_G) (r d : Nat) : Prop := ∀ (S : vs_S) (L : Nat) (B : Nat → Int32), tp S L B → ∀ (p : Nat), p ≤ L → ∀ (c : List Int32), rX S p c → vs_KV g yX6_readOperand cX6_readOperand 3 none d [vv_r g 48, .int (nI (6 - r))] S (fun S1 => pX S S1 c (pzO (ah L B) r p))
def RkX (g : vv_G) (r j d : Nat) : Prop := ∀ (S : vs_S) (L : Nat) (B : Nat → Int32), tp S L B → ∀ (p : Nat), p ≤ L → ∀ (c : List Int32), rX S p c → vs_KV g yX6_readRank cX6_readRank 6 none d [vv_r g 48, .int (nI (5 - j)), .int (nI (6 - r))] S (fun S1 => pX S S1 c (pzR (pzO (ah L B) r) (ah L B) j p))
theorem cs10 (b : Int32) : b = 37 ∨ b = 38 ∨ b = 42 ∨ b = 43 ∨ b = 45 ∨ b = 47 ∨ b = 60 ∨ b = 61 ∨ b = 62 ∨ b = 124 ∨ (¬ b = 37 ∧ ¬ b = 38 ∧ ¬ b = 42 ∧ ¬ b = 43 ∧ ¬ b = 45 ∧ ¬ b = 47 ∧ ¬ b = 60 ∧ ¬ b = 61 ∧ ¬ b = 62 ∧ ¬ b = 124) := by
  by_cases h1 : b = 37
  · exact Or.inl h1
  by_cases h2 : b = 38
  · exact Or.inr (Or.inl h2)
  by_cases h3 : b = 42
  · exact Or.inr (Or.inr (Or.inl h3))
  by_cases h4 : b = 43
  · exact Or.inr (Or.inr (Or.inr (Or.inl h4)))
  by_cases h5 : b = 45
  · exact Or.inr (Or.inr (Or.inr (Or.inr (Or.inl h5))))
  by_cases h6 : b = 47
  · exact Or.inr (Or.inr (Or.inr (Or.inr (Or.inr (Or.inl h6)))))
  by_cases h7 : b = 60
  · exact Or.inr (Or.inr (Or.inr (Or.inr (Or.inr (Or.inr (Or.inl h7))))))
  by_cases h8 : b = 61
  · exact Or.inr (Or.inr (Or.inr (Or.inr (Or.inr (Or.inr (Or.inr (Or.inl h8)))))))
  by_cases h9 : b = 62
  · exact Or.inr (Or.inr (Or.inr (Or.inr (Or.inr (Or.inr (Or.inr (Or.inr (Or.inl h9))))))))
  by_cases h10 : b = 124
  · exact Or.inr (Or.inr (Or.inr (Or.inr (Or.inr (Or.inr (Or.inr (Or.inr (Or.inr (Or.inl h10)))))))))
  exact Or.inr (Or.inr (Or.inr (Or.inr (Or.inr (Or.inr (Or.inr (Or.inr (Or.inr (Or.inr ⟨h1, h2, h3, h4, h5, h6, h7, h8, h9, h10⟩)))))))))
theorem lk_ne {v c : Int32} (h : ¬ v = c) : ¬ c.toInt = v.toInt := fun z => h (Int32.toInt_inj.mp z.symm)

set_option maxRecDepth 20000 in
theorem c_X6_ahead (g : vv_G) (S : vs_S) (L : Nat) (B : Nat → Int32) (hT : tp S L B) (p : Nat) (hp : p ≤ L) (h15 : S.1 15 = nI p) : vs_FI g yX6_ahead cX6_ahead 1 (some .int) 1 [vv_r g 48] S (ah L B p) S := by
  have hL := hT.2.1
  refine vs_ofI (lv := [_]) mb_X6_ahead (Nat.le_of_ble_eq_true rfl) rfl (fun x C F => ?_)
  refine vv_aload_n C dX6_ahead_0 rfl ?_
  refine gf_X6_at C dX6_ahead_1 fg_X6_25 ?_
  refine vs_eqi (v9 := nI p) (h15) ?_
  refine vv_aload_n C dX6_ahead_4 rfl ?_
  refine gf_X6_length C dX6_ahead_5 fg_X6_18 ?_
  refine vs_eqi (v9 := nI L) (hT.1) ?_
  refine vv_icmp_ge (tgt := 23) C dX6_ahead_8 (by decide) (fun q8 => ?_) (fun q8 => ?_)
  · have hlt : ¬ p < L := by rw [xn_le (by omega) (by omega)] at q8; omega
    refine vv_iconst C dX6_ahead_23 ic_m1 ?_
    first
    | exact vs_iret C F dX6_ahead_24 rfl ⟨rfl, rfl⟩
    | exact vs_iret C F dX6_ahead_24 rfl ⟨by unfold ah; rw [if_neg hlt], rfl⟩
  · have hlt : p < L := by rw [xn_le (by omega) (by omega)] at q8; omega
    refine vv_aload_n C dX6_ahead_11 rfl ?_
    refine gf_X6_tape C dX6_ahead_12 fg_X6_11 ?_
    refine vv_aload_n C dX6_ahead_15 rfl ?_
    refine gf_X6_at C dX6_ahead_16 fg_X6_25 ?_
    refine vs_eqi (v9 := nI p) (h15) ?_
    refine ld_49 C dX6_ahead_19 (xn_in (by omega) (by omega)) ?_
    refine vs_eqi (v9 := ah L B p) (by rw [xn_cl (by omega)]; unfold ah; rw [if_pos hlt]; exact hT.2.2 p hlt) ?_
    refine vv_goto (tgt := 24) C dX6_ahead_20 (by decide) ?_
    first
    | exact vs_iret C F dX6_ahead_24 rfl ⟨rfl, rfl⟩
    | exact vs_iret C F dX6_ahead_24 rfl ⟨by unfold ah; rw [if_neg hlt], rfl⟩
set_option maxRecDepth 20000 in
theorem c_X6_takesY (g : vv_G) (S : vs_S) (L : Nat) (B : Nat → Int32) (hT : tp S L B) (p : Nat) (hp : p ≤ L) (h15 : S.1 15 = nI p) (h17 : S.1 17 = -1) (k : Int32) (hk : ah L B p = k) : vs_FI g yX6_takes cX6_takes 2 (some .boolean) 2 [vv_r g 48, .int k] S (vs_b true) (vs_us S 15 (nI (p + 1))) := by
  have hL := hT.2.1
  refine vs_ofI (lv := [_, _]) mb_X6_takes (Nat.le_of_ble_eq_true rfl) rfl (fun x C F => ?_)
  refine vv_aload_n C dX6_takes_0 rfl ?_
  refine gf_X6_fault C dX6_takes_1 fg_X6_28 ?_
  refine vv_iconst C dX6_takes_4 ic_m1 ?_
  refine vv_icmp_ne (tgt := 16) C dX6_takes_5 (by decide) (fun q5 => ?_) (fun q5 => ?_)
  · exact absurd h17 q5
  · skip
    refine vv_aload_n C dX6_takes_8 rfl ?_
    refine vs_caliF C dX6_takes_9 (c_X6_ahead g S L B hT p hp h15) mb_X6_ahead mv_X6_ahead lk_X6_49 ce_48 rfl rfl rfl rfl ⟨Nat.le_of_ble_eq_true rfl, Nat.le_of_ble_eq_true rfl, Nat.le_of_ble_eq_true rfl⟩ ?_
    refine vv_iload_n C dX6_takes_12 rfl ?_
    refine vv_icmp_eq (tgt := 18) C dX6_takes_13 (by decide) (fun q13 => ?_) (fun q13 => ?_)
    · skip
      refine vv_aload_n C dX6_takes_18 rfl ?_
      refine vv_dup C dX6_takes_19 rfl ?_
      refine gf_X6_at C dX6_takes_20 fg_X6_25 ?_
      refine vs_eqi (v9 := nI p) (h15) ?_
      refine vv_iconst C dX6_takes_23 ic_1 ?_
      refine vv_iadd C dX6_takes_24 ?_
      refine vs_eqi (v9 := nI (p + 1)) (nI_1 _) ?_
      refine pf_X6_at C dX6_takes_25 fp_X6_25 ?_
      refine vv_iconst C dX6_takes_28 ic_1 ?_
      exact vs_zret C F dX6_takes_29 rfl rfl ⟨rfl, rfl⟩
    · exact absurd hk q13
set_option maxRecDepth 20000 in
theorem c_X6_takesN (g : vv_G) (S : vs_S) (L : Nat) (B : Nat → Int32) (hT : tp S L B) (p : Nat) (hp : p ≤ L) (h15 : S.1 15 = nI p) (k : Int32) (hk : ¬ (S.1 17 = -1 ∧ ah L B p = k)) : vs_FI g yX6_takes cX6_takes 2 (some .boolean) 2 [vv_r g 48, .int k] S (vs_b false) S := by
  have hL := hT.2.1
  refine vs_ofI (lv := [_, _]) mb_X6_takes (Nat.le_of_ble_eq_true rfl) rfl (fun x C F => ?_)
  refine vv_aload_n C dX6_takes_0 rfl ?_
  refine gf_X6_fault C dX6_takes_1 fg_X6_28 ?_
  refine vv_iconst C dX6_takes_4 ic_m1 ?_
  refine vv_icmp_ne (tgt := 16) C dX6_takes_5 (by decide) (fun q5 => ?_) (fun q5 => ?_)
  · skip
    refine vv_iconst C dX6_takes_16 ic_0 ?_
    exact vs_zret C F dX6_takes_17 rfl rfl ⟨rfl, rfl⟩
  · have h17 : S.1 17 = -1 := q5
    refine vv_aload_n C dX6_takes_8 rfl ?_
    refine vs_caliF C dX6_takes_9 (c_X6_ahead g S L B hT p hp h15) mb_X6_ahead mv_X6_ahead lk_X6_49 ce_48 rfl rfl rfl rfl ⟨Nat.le_of_ble_eq_true rfl, Nat.le_of_ble_eq_true rfl, Nat.le_of_ble_eq_true rfl⟩ ?_
    refine vv_iload_n C dX6_takes_12 rfl ?_
    refine vv_icmp_eq (tgt := 18) C dX6_takes_13 (by decide) (fun q13 => ?_) (fun q13 => ?_)
    · exact absurd ⟨h17, q13⟩ hk
    · skip
      refine vv_iconst C dX6_takes_16 ic_0 ?_
      exact vs_zret C F dX6_takes_17 rfl rfl ⟨rfl, rfl⟩
set_option maxRecDepth 20000 in
theorem c_X6_write (g : vv_G) (S : vs_S) (c : List Int32) (hc : hc0 S c) (hl : c.length ≤ 120) (s : Int32) : vs_FV g yX6_write cX6_write 2 none 1 [vv_r g 48, .int s] S (wX S c.length s) := by
  refine vs_ofV (lv := [_, _]) mb_X6_write (Nat.le_of_ble_eq_true rfl) rfl (fun x C F => ?_)
  refine vv_aload_n C dX6_write_0 rfl ?_
  refine gf_X6_written C dX6_write_1 fg_X6_22 ?_
  refine vs_eqi (v9 := nI c.length) (hc.1) ?_
  refine vv_aload_n C dX6_write_4 rfl ?_
  refine gf_X6_steps C dX6_write_5 fg_X6_15 ?_
  refine ln_50 C dX6_write_8 ?_
  refine vv_icmp_ge (tgt := 32) C dX6_write_9 (by decide) (fun q9 => ?_) (fun q9 => ?_)
  · exact absurd q9 (by rw [xn_lit, xn_le (by omega) (by omega)]; omega)
  · refine vv_aload_n C dX6_write_12 rfl ?_
    refine gf_X6_steps C dX6_write_13 fg_X6_15 ?_
    refine vv_aload_n C dX6_write_16 rfl ?_
    refine gf_X6_written C dX6_write_17 fg_X6_22 ?_
    refine vs_eqi (v9 := nI c.length) (hc.1) ?_
    refine vv_iload_n C dX6_write_20 rfl ?_
    refine st_50 C dX6_write_21 (xn_in (by omega) (by omega)) ?_
    refine vv_aload_n C dX6_write_22 rfl ?_
    refine vv_dup C dX6_write_23 rfl ?_
    refine gf_X6_written C dX6_write_24 fg_X6_22 ?_
    refine vs_eqi (v9 := nI c.length) (hc.1) ?_
    refine vv_iconst C dX6_write_27 ic_1 ?_
    refine vv_iadd C dX6_write_28 ?_
    refine vs_eqi (v9 := nI (c.length + 1)) (nI_1 _) ?_
    refine pf_X6_written C dX6_write_29 fp_X6_22 ?_
    exact vs_vret C F dX6_write_32 rfl rfl
set_option maxRecDepth 20000 in
theorem c_X6_writeA (g : vv_G) (S : vs_S) (w : Nat) (hw : w ≤ 121) (h16 : S.1 16 = nI w) (s : Int32) : vs_KV g yX6_write cX6_write 2 none 1 [vv_r g 48, .int s] S (fun S1 => vs_fr [16] [50] [] S S1 ∧ ∃ v, v ≤ 121 ∧ S1.1 16 = nI v) := by
  refine vs_ofV (lv := [_, _]) mb_X6_write (Nat.le_of_ble_eq_true rfl) rfl (fun x C F => ?_)
  refine vv_aload_n C dX6_write_0 rfl ?_
  refine gf_X6_written C dX6_write_1 fg_X6_22 ?_
  refine vs_eqi (v9 := nI w) (h16) ?_
  refine vv_aload_n C dX6_write_4 rfl ?_
  refine gf_X6_steps C dX6_write_5 fg_X6_15 ?_
  refine ln_50 C dX6_write_8 ?_
  refine vv_icmp_ge (tgt := 32) C dX6_write_9 (by decide) (fun q9 => ?_) (fun q9 => ?_)
  · skip
    first
    | exact vs_vret C F dX6_write_32 rfl ⟨vs_fr.rf, w, hw, h16⟩
    | exact vs_vret C F dX6_write_32 rfl ⟨(vs_fr.rf.ua (by decide)).us (by decide), w + 1, hw2, rfl⟩
  · have hw2 : w < 121 := by rw [xn_lit, xn_le (by omega) (by omega)] at q9; omega
    refine vv_aload_n C dX6_write_12 rfl ?_
    refine gf_X6_steps C dX6_write_13 fg_X6_15 ?_
    refine vv_aload_n C dX6_write_16 rfl ?_
    refine gf_X6_written C dX6_write_17 fg_X6_22 ?_
    refine vs_eqi (v9 := nI w) (h16) ?_
    refine vv_iload_n C dX6_write_20 rfl ?_
    refine st_50 C dX6_write_21 (xn_in (by omega) (by omega)) ?_
    refine vv_aload_n C dX6_write_22 rfl ?_
    refine vv_dup C dX6_write_23 rfl ?_
    refine gf_X6_written C dX6_write_24 fg_X6_22 ?_
    refine vs_eqi (v9 := nI w) (h16) ?_
    refine vv_iconst C dX6_write_27 ic_1 ?_
    refine vv_iadd C dX6_write_28 ?_
    refine vs_eqi (v9 := nI (w + 1)) (nI_1 _) ?_
    refine pf_X6_written C dX6_write_29 fp_X6_22 ?_
    first
    | exact vs_vret C F dX6_write_32 rfl ⟨vs_fr.rf, w, hw, h16⟩
    | exact vs_vret C F dX6_write_32 rfl ⟨(vs_fr.rf.ua (by decide)).us (by decide), w + 1, hw2, rfl⟩
set_option maxRecDepth 20000 in
theorem c_X6_isName (g : vv_G) (S : vs_S) (b : Int32) : vs_FI g yX6_isName cX6_isName 1 (some .boolean) 1 [.int b] S (vs_b (decide (tkN b < 5))) S := by
  refine vs_ofI (lv := [_]) mb_X6_isName (Nat.le_of_ble_eq_true rfl) rfl (fun x C F => ?_)
  refine vv_iload_n C dX6_isName_0 rfl ?_
  refine vv_bipush C dX6_isName_1 bp_112 ?_
  refine vv_icmp_eq (tgt := 30) C dX6_isName_3 (by decide) (fun q3 => ?_) (fun q3 => ?_)
  · refine vv_iconst C dX6_isName_30 ic_1 ?_
    refine vv_goto (tgt := 35) C dX6_isName_31 (by decide) ?_
    exact vs_zret C F dX6_isName_35 rfl rfl ⟨by unfold tkN; simp [*, vs_b], rfl⟩
  · refine vv_iload_n C dX6_isName_6 rfl ?_
    refine vv_bipush C dX6_isName_7 bp_103 ?_
    refine vv_icmp_eq (tgt := 30) C dX6_isName_9 (by decide) (fun q9 => ?_) (fun q9 => ?_)
    · refine vv_iconst C dX6_isName_30 ic_1 ?_
      refine vv_goto (tgt := 35) C dX6_isName_31 (by decide) ?_
      exact vs_zret C F dX6_isName_35 rfl rfl ⟨by unfold tkN; simp [*, vs_b], rfl⟩
    · refine vv_iload_n C dX6_isName_12 rfl ?_
      refine vv_bipush C dX6_isName_13 bp_110 ?_
      refine vv_icmp_eq (tgt := 30) C dX6_isName_15 (by decide) (fun q15 => ?_) (fun q15 => ?_)
      · refine vv_iconst C dX6_isName_30 ic_1 ?_
        refine vv_goto (tgt := 35) C dX6_isName_31 (by decide) ?_
        exact vs_zret C F dX6_isName_35 rfl rfl ⟨by unfold tkN; simp [*, vs_b], rfl⟩
      · refine vv_iload_n C dX6_isName_18 rfl ?_
        refine vv_bipush C dX6_isName_19 bp_116 ?_
        refine vv_icmp_eq (tgt := 30) C dX6_isName_21 (by decide) (fun q21 => ?_) (fun q21 => ?_)
        · refine vv_iconst C dX6_isName_30 ic_1 ?_
          refine vv_goto (tgt := 35) C dX6_isName_31 (by decide) ?_
          exact vs_zret C F dX6_isName_35 rfl rfl ⟨by unfold tkN; simp [*, vs_b], rfl⟩
        · refine vv_iload_n C dX6_isName_24 rfl ?_
          refine vv_bipush C dX6_isName_25 bp_104 ?_
          refine vv_icmp_ne (tgt := 34) C dX6_isName_27 (by decide) (fun q27 => ?_) (fun q27 => ?_)
          · skip
            refine vv_iconst C dX6_isName_34 ic_0 ?_
            exact vs_zret C F dX6_isName_35 rfl rfl ⟨by unfold tkN; simp [*, vs_b], rfl⟩
          · have q27 : b = 104 := q27
            refine vv_iconst C dX6_isName_30 ic_1 ?_
            refine vv_goto (tgt := 35) C dX6_isName_31 (by decide) ?_
            exact vs_zret C F dX6_isName_35 rfl rfl ⟨by unfold tkN; simp [*, vs_b], rfl⟩
set_option maxRecDepth 20000 in
theorem c_X6_rankOf (g : vv_G) (S : vs_S) (b : Int32) : vs_FI g yX6_rankOf cX6_rankOf 1 (some .int) 1 [.int b] S (nI (tkR b)) S := by
  refine vs_ofI (lv := [_]) mb_X6_rankOf (Nat.le_of_ble_eq_true rfl) rfl (fun x C F => ?_)
  refine vv_iload_n C dX6_rankOf_0 rfl ?_
  rcases cs10 b with e | e | e | e | e | e | e | e | e | e | ⟨h37, h38, h42, h43, h45, h47, h60, h61, h62, h124⟩
  · subst e
    refine vv_lookup (tgt := 100) (off := 99) C dX6_rankOf_1 (by decide +kernel) (by decide +kernel) (by decide) ?_
    refine vv_iconst C dX6_rankOf_100 ic_4 ?_
    exact vs_iret C F dX6_rankOf_101 rfl ⟨rfl, rfl⟩
  · subst e
    refine vv_lookup (tgt := 94) (off := 93) C dX6_rankOf_1 (by decide +kernel) (by decide +kernel) (by decide) ?_
    refine vv_iconst C dX6_rankOf_94 ic_1 ?_
    exact vs_iret C F dX6_rankOf_95 rfl ⟨rfl, rfl⟩
  · subst e
    refine vv_lookup (tgt := 100) (off := 99) C dX6_rankOf_1 (by decide +kernel) (by decide +kernel) (by decide) ?_
    refine vv_iconst C dX6_rankOf_100 ic_4 ?_
    exact vs_iret C F dX6_rankOf_101 rfl ⟨rfl, rfl⟩
  · subst e
    refine vv_lookup (tgt := 98) (off := 97) C dX6_rankOf_1 (by decide +kernel) (by decide +kernel) (by decide) ?_
    refine vv_iconst C dX6_rankOf_98 ic_3 ?_
    exact vs_iret C F dX6_rankOf_99 rfl ⟨rfl, rfl⟩
  · subst e
    refine vv_lookup (tgt := 98) (off := 97) C dX6_rankOf_1 (by decide +kernel) (by decide +kernel) (by decide) ?_
    refine vv_iconst C dX6_rankOf_98 ic_3 ?_
    exact vs_iret C F dX6_rankOf_99 rfl ⟨rfl, rfl⟩
  · subst e
    refine vv_lookup (tgt := 100) (off := 99) C dX6_rankOf_1 (by decide +kernel) (by decide +kernel) (by decide) ?_
    refine vv_iconst C dX6_rankOf_100 ic_4 ?_
    exact vs_iret C F dX6_rankOf_101 rfl ⟨rfl, rfl⟩
  · subst e
    refine vv_lookup (tgt := 96) (off := 95) C dX6_rankOf_1 (by decide +kernel) (by decide +kernel) (by decide) ?_
    refine vv_iconst C dX6_rankOf_96 ic_2 ?_
    exact vs_iret C F dX6_rankOf_97 rfl ⟨rfl, rfl⟩
  · subst e
    refine vv_lookup (tgt := 96) (off := 95) C dX6_rankOf_1 (by decide +kernel) (by decide +kernel) (by decide) ?_
    refine vv_iconst C dX6_rankOf_96 ic_2 ?_
    exact vs_iret C F dX6_rankOf_97 rfl ⟨rfl, rfl⟩
  · subst e
    refine vv_lookup (tgt := 96) (off := 95) C dX6_rankOf_1 (by decide +kernel) (by decide +kernel) (by decide) ?_
    refine vv_iconst C dX6_rankOf_96 ic_2 ?_
    exact vs_iret C F dX6_rankOf_97 rfl ⟨rfl, rfl⟩
  · subst e
    refine vv_lookup (tgt := 92) (off := 91) C dX6_rankOf_1 (by decide +kernel) (by decide +kernel) (by decide) ?_
    refine vv_iconst C dX6_rankOf_92 ic_0 ?_
    exact vs_iret C F dX6_rankOf_93 rfl ⟨rfl, rfl⟩
  · refine vv_lookup (tgt := 102) (off := 101) C dX6_rankOf_1 (by decide +kernel) (by
        show Op.lookupswitch.offset [(37, 99), (38, 93), (42, 99), (43, 97), (45, 97), (47, 99), (60, 95), (61, 95), (62, 95), (124, 91)] 101 (b).toInt = 101
        rw [Op.lookupswitch.offset_cons, if_neg (show ¬ (37 : Int) = (b).toInt from lk_ne (c := 37) h37), Op.lookupswitch.offset_cons, if_neg (show ¬ (38 : Int) = (b).toInt from lk_ne (c := 38) h38), Op.lookupswitch.offset_cons, if_neg (show ¬ (42 : Int) = (b).toInt from lk_ne (c := 42) h42), Op.lookupswitch.offset_cons, if_neg (show ¬ (43 : Int) = (b).toInt from lk_ne (c := 43) h43), Op.lookupswitch.offset_cons, if_neg (show ¬ (45 : Int) = (b).toInt from lk_ne (c := 45) h45), Op.lookupswitch.offset_cons, if_neg (show ¬ (47 : Int) = (b).toInt from lk_ne (c := 47) h47), Op.lookupswitch.offset_cons, if_neg (show ¬ (60 : Int) = (b).toInt from lk_ne (c := 60) h60), Op.lookupswitch.offset_cons, if_neg (show ¬ (61 : Int) = (b).toInt from lk_ne (c := 61) h61), Op.lookupswitch.offset_cons, if_neg (show ¬ (62 : Int) = (b).toInt from lk_ne (c := 62) h62), Op.lookupswitch.offset_cons, if_neg (show ¬ (124 : Int) = (b).toInt from lk_ne (c := 124) h124), Op.lookupswitch.offset_nil]) (by decide) ?_
    refine vv_iconst C dX6_rankOf_102 ic_5 ?_
    first
    | exact vs_iret C F dX6_rankOf_103 rfl ⟨by unfold tkR; simp [*]; rfl, rfl⟩
    | exact vs_iret C F dX6_rankOf_103 rfl ⟨rfl, rfl⟩
set_option maxRecDepth 20000 in
theorem c_X6_readNumber (g : vv_G) (S : vs_S) (L : Nat) (B : Nat → Int32) (hT : tp S L B) (p : Nat) (hp : p ≤ L) (c : List Int32) (hr : rX S p c) : vs_KV g yX6_readNumber cX6_readNumber 3 none 2 [vv_r g 48] S (fun S1 => pX S S1 c (true, (pzD (ah L B) 4 p 0).1, [(pzD (ah L B) 4 p 0).2], fun _ => (pzD (ah L B) 4 p 0).2)) := by
  have hL := hT.2.1
  have hcl := hr.2.2.2
  refine vs_ofV (lv := [_, _, _]) mb_X6_readNumber (Nat.le_of_ble_eq_true rfl) rfl (fun x C F => ?_)
  refine vv_iconst C dX6_readNumber_0 ic_0 ?_
  refine vw_istore_n (lv9 := [_, _, _]) C dX6_readNumber_1 (by decide) rfl rfl ?_
  refine vv_iconst C dX6_readNumber_2 ic_0 ?_
  refine vw_istore_n (lv9 := [_, _, _]) C dX6_readNumber_3 (by decide) rfl rfl ?_
  have loop : ∀ (f i y : Nat) (v : Int32) (S1 : vs_S), i + f = 4 → y ≤ L → vs_fr [15] [] [] S S1 → S1.1 15 = nI y → pzD (ah L B) f y v = pzD (ah L B) 4 p 0 → vv_V g x 3 0 0 4 [some (vv_r g 48), some (.int v), some (.int (nI i))] [] (vs_cells g S1) := by
    intro f
    induction f with
    | zero =>
      intro i y v S1 hi hy hf h15 he
      have e4 : i = 4 := by omega
      subst e4
      have hc1 : hc0 S1 c := ⟨(hf.1 16 (by decide)).trans hr.2.2.1.1, fun q hq => by rw [hf.2.1 50 (by decide)]; exact hr.2.2.1.2 q hq⟩
      refine vv_iload_n C dX6_readNumber_4 rfl ?_
      refine vv_iconst C dX6_readNumber_5 ic_4 ?_
      refine vv_icmp_ge (tgt := 56) C dX6_readNumber_6 (by decide) (fun q6 => ?_) (fun q6 => ?_)
      · skip
        refine vv_aload_n C dX6_readNumber_56 rfl ?_
        refine vv_iload_n C dX6_readNumber_57 rfl ?_
        refine vs_calvF C dX6_readNumber_58 (c_X6_write g S1 c hc1 (by omega) v) mb_X6_write mv_X6_write lk_X6_42 ce_48 rfl rfl rfl rfl ⟨Nat.le_of_ble_eq_true rfl, Nat.le_of_ble_eq_true rfl, Nat.le_of_ble_eq_true rfl⟩ ?_
        refine vs_vret C F dX6_readNumber_61 rfl ⟨(hf.wd (by decide) (by decide) (by decide)).tr wX_fr, ?_, fun _ => ⟨(hf.1 17 (by decide)).trans hr.2.1, ?_⟩, fun z => absurd rfl z⟩
        · show S1.1 15 = nI (pzD (ah L B) 4 p 0).1
          rw [← he]
          exact h15
        · show hc0 (wX S1 c.length v) (c ++ [(pzD (ah L B) 4 p 0).2])
          rw [← he]
          exact hc_w hc1 (by omega)
      · exact absurd (by decide +kernel : (4 : Int32) ≤ nI 4) q6
    | succ f ih =>
      intro i y v S1 hi hy hf h15 he
      rw [pzDS f] at he
      have hc1 : hc0 S1 c := ⟨(hf.1 16 (by decide)).trans hr.2.2.1.1, fun q hq => by rw [hf.2.1 50 (by decide)]; exact hr.2.2.1.2 q hq⟩
      refine vv_iload_n C dX6_readNumber_4 rfl ?_
      refine vv_iconst C dX6_readNumber_5 ic_4 ?_
      refine vv_icmp_ge (tgt := 56) C dX6_readNumber_6 (by decide) (fun q6 => ?_) (fun q6 => ?_)
      · exact absurd q6 (by rw [xn_lit, xn_le (by omega) (by omega)]; omega)
      · skip
        refine vv_aload_n C dX6_readNumber_9 rfl ?_
        refine vs_caliF C dX6_readNumber_10 (c_X6_ahead g S1 L B (hT.fr hf (by decide) (by decide)) y hy h15) mb_X6_ahead mv_X6_ahead lk_X6_49 ce_48 rfl rfl rfl rfl ⟨Nat.le_of_ble_eq_true rfl, Nat.le_of_ble_eq_true rfl, Nat.le_of_ble_eq_true rfl⟩ ?_
        refine vv_bipush C dX6_readNumber_13 bp_48 ?_
        refine vv_icmp_lt (tgt := 56) C dX6_readNumber_15 (by decide) (fun q15 => ?_) (fun q15 => ?_)
        · have no : ¬ (48 ≤ ah L B y ∧ ah L B y ≤ 57) := fun z => Int32.not_lt.mpr z.1 q15
          rw [if_neg no] at he
          refine vv_aload_n C dX6_readNumber_56 rfl ?_
          refine vv_iload_n C dX6_readNumber_57 rfl ?_
          refine vs_calvF C dX6_readNumber_58 (c_X6_write g S1 c hc1 (by omega) v) mb_X6_write mv_X6_write lk_X6_42 ce_48 rfl rfl rfl rfl ⟨Nat.le_of_ble_eq_true rfl, Nat.le_of_ble_eq_true rfl, Nat.le_of_ble_eq_true rfl⟩ ?_
          refine vs_vret C F dX6_readNumber_61 rfl ⟨(hf.wd (by decide) (by decide) (by decide)).tr wX_fr, ?_, fun _ => ⟨(hf.1 17 (by decide)).trans hr.2.1, ?_⟩, fun z => absurd rfl z⟩
          · show S1.1 15 = nI (pzD (ah L B) 4 p 0).1
            rw [← he]
            exact h15
          · show hc0 (wX S1 c.length v) (c ++ [(pzD (ah L B) 4 p 0).2])
            rw [← he]
            exact hc_w hc1 (by omega)
        · skip
          refine vv_aload_n C dX6_readNumber_18 rfl ?_
          refine vs_caliF C dX6_readNumber_19 (c_X6_ahead g S1 L B (hT.fr hf (by decide) (by decide)) y hy h15) mb_X6_ahead mv_X6_ahead lk_X6_49 ce_48 rfl rfl rfl rfl ⟨Nat.le_of_ble_eq_true rfl, Nat.le_of_ble_eq_true rfl, Nat.le_of_ble_eq_true rfl⟩ ?_
          refine vv_bipush C dX6_readNumber_22 bp_57 ?_
          refine vv_icmp_gt (tgt := 56) C dX6_readNumber_24 (by decide) (fun q24 => ?_) (fun q24 => ?_)
          · have no : ¬ (48 ≤ ah L B y ∧ ah L B y ≤ 57) := fun z => Int32.not_lt.mpr z.2 q24
            rw [if_neg no] at he
            refine vv_aload_n C dX6_readNumber_56 rfl ?_
            refine vv_iload_n C dX6_readNumber_57 rfl ?_
            refine vs_calvF C dX6_readNumber_58 (c_X6_write g S1 c hc1 (by omega) v) mb_X6_write mv_X6_write lk_X6_42 ce_48 rfl rfl rfl rfl ⟨Nat.le_of_ble_eq_true rfl, Nat.le_of_ble_eq_true rfl, Nat.le_of_ble_eq_true rfl⟩ ?_
            refine vs_vret C F dX6_readNumber_61 rfl ⟨(hf.wd (by decide) (by decide) (by decide)).tr wX_fr, ?_, fun _ => ⟨(hf.1 17 (by decide)).trans hr.2.1, ?_⟩, fun z => absurd rfl z⟩
            · show S1.1 15 = nI (pzD (ah L B) 4 p 0).1
              rw [← he]
              exact h15
            · show hc0 (wX S1 c.length v) (c ++ [(pzD (ah L B) 4 p 0).2])
              rw [← he]
              exact hc_w hc1 (by omega)
          · have yes : 48 ≤ ah L B y ∧ ah L B y ≤ 57 := ⟨Int32.not_lt.mp q15, Int32.not_lt.mp q24⟩
            rw [if_pos yes] at he
            have hyL : y < L := bl_nb ah_bl (fun z => bl_d z yes)
            refine vv_iload_n C dX6_readNumber_27 rfl ?_
            refine vv_bipush C dX6_readNumber_28 bp_10 ?_
            refine vv_imul C dX6_readNumber_30 ?_
            refine vv_aload_n C dX6_readNumber_31 rfl ?_
            refine vs_caliF C dX6_readNumber_32 (c_X6_ahead g S1 L B (hT.fr hf (by decide) (by decide)) y hy h15) mb_X6_ahead mv_X6_ahead lk_X6_49 ce_48 rfl rfl rfl rfl ⟨Nat.le_of_ble_eq_true rfl, Nat.le_of_ble_eq_true rfl, Nat.le_of_ble_eq_true rfl⟩ ?_
            refine vv_iadd C dX6_readNumber_35 ?_
            refine vv_bipush C dX6_readNumber_36 bp_48 ?_
            refine vv_isub C dX6_readNumber_38 ?_
            refine vw_istore_n (lv9 := [_, _, _]) C dX6_readNumber_39 (by decide) rfl rfl ?_
            refine vv_aload_n C dX6_readNumber_40 rfl ?_
            refine vv_dup C dX6_readNumber_41 rfl ?_
            refine gf_X6_at C dX6_readNumber_42 fg_X6_25 ?_
            refine vs_eqi (v9 := nI y) (h15) ?_
            refine vv_iconst C dX6_readNumber_45 ic_1 ?_
            refine vv_iadd C dX6_readNumber_46 ?_
            refine vs_eqi (v9 := nI (y + 1)) (nI_1 _) ?_
            refine pf_X6_at C dX6_readNumber_47 fp_X6_25 ?_
            refine vw_iinc (lv9 := [_, _, _]) C dX6_readNumber_50 rfl ic_1 (by decide) rfl rfl ?_
            refine vv_goto (tgt := 4) C dX6_readNumber_53 (by decide) ?_
            rw [nI_1]
            exact ih (i + 1) (y + 1) _ _ (by omega) (by omega) (hf.us (by decide)) rfl he
  exact loop 4 0 p 0 S (by omega) hp vs_fr.rf hr.1 rfl
