theorem vs_uaa {S : vs_S} {i : Nat} {f f' : Nat → Int32} : vs_ua (vs_ua S i f) i f' = vs_ua S i f' := by
  refine vs_ext (fun _ => rfl) (fun j => ?_) (fun _ => rfl)
  rw [vs_ua2, vs_ua2, vs_ua2]
  split <;> rfl
theorem vs_ua0 {S : vs_S} {i : Nat} : vs_ua S i (S.2.1 i) = S := by
  refine vs_ext (fun _ => rfl) (fun j => ?_) (fun _ => rfl)
  rw [vs_ua2]
  split
  · next h => rw [h]
  · rfl
theorem nm_st1 {a v : Nat} (h2 : 2 ≤ a) : nm_st (a + 1) v = true ↔ nm_st a v = true ∨ (a ∣ v ∧ a * a ≤ v) := by
  rw [nm_st_iff, nm_st_iff]
  constructor
  · rintro ⟨d, h1, h3, h4, h5⟩
    by_cases e : d = a
    · subst e
      exact Or.inr ⟨h5, h4⟩
    · exact Or.inl ⟨d, by omega, h3, h4, h5⟩
  · rintro (⟨d, h1, h3, h4, h5⟩ | ⟨h1, h3⟩)
    · exact ⟨d, by omega, h3, h4, h5⟩
    · exact ⟨a, by omega, h2, h3, h1⟩
/-- what has a part below it has all its multiples struck -/
theorem nm_st2 {a v : Nat} (h2 : 2 ≤ a) (h : nm_st a a = true) : nm_st (a + 1) v = true ↔ nm_st a v = true := by
  rw [nm_st1 h2]
  constructor
  · rintro (h1 | ⟨h1, h3⟩)
    · exact h1
    · obtain ⟨d, h4, h5, h6, h7⟩ := nm_st_iff.mp h
      have h8 := Nat.mul_le_mul_left a h2
      exact nm_st_iff.mpr ⟨d, h4, h5, by omega, Nat.dvd_trans h7 h1⟩
  · exact Or.inl
theorem nm_st0 {v : Nat} : nm_st 2 v = false := by
  cases h : nm_st 2 v with
  | false => rfl
  | true =>
    obtain ⟨d, h4, h5, h6, h7⟩ := nm_st_iff.mp h
    omega
def nm_ar (a : Nat) (f : Nat → Int32) : Prop := ∀ u, 2 ≤ u → u < 102100 → f u = if nm_st a u = true then 1 else 0
theorem nm_n1 : vp_nar .boolean 1 = 1 := by decide +kernel
theorem nm_dv {a v : Nat} (h : a ∣ v) : a ∣ v + a := by
  obtain ⟨c, hc⟩ := h
  exact ⟨c + 1, by rw [Nat.mul_add, hc, Nat.mul_one]⟩
theorem nm_dm {a v u : Nat} (h : a ∣ v) (h2 : a ∣ u) (h3 : v < u) : v + a ≤ u := by
  obtain ⟨c, hc⟩ := h
  obtain ⟨e, he⟩ := h2
  have h4 : c < e := by
    apply Nat.lt_of_not_le
    intro z
    have := Nat.mul_le_mul_left a z
    omega
  have h5 := Nat.mul_le_mul_left a (Nat.succ_le_of_lt h4)
  rw [Nat.succ_eq_add_one, Nat.mul_add] at h5
  omega
set_option maxRecDepth 20000 in
theorem c_X12_strikes (g : vv_G) (S : vs_S) (hfl : vv_fl g = false) (h0 : ∀ v, v < 102100 → S.2.1 70 v = 0) : vs_KV g yX12_strikes cX12_strikes 3 none 1 [vv_r g 65] S (fun S1 => nm_fr S S1 ∧ S1.1 24 = 1 ∧ ∀ v, 2 ≤ v → v < 102100 → S1.2.1 70 v = if np_pr v = true then 0 else 1) := by
  refine vs_ofV (lv := [_, _, _]) mb_X12_strikes (Nat.le_of_ble_eq_true rfl) rfl (fun x C F => ?_)
  have inner : ∀ (a : Nat), 2 ≤ a → a ≤ 319 → (∀ (f : Nat → Int32) (w : Option Value), nm_ar (a + 1) f → vv_V g x 3 0 0 43 [some (vv_r g 65), some (.int (nI a)), w] [] (vs_cells g (vs_ua S 70 f))) → ∀ (m v : Nat) (f : Nat → Int32), 102100 + a ≤ v + m → a * a ≤ v → v < 102100 + a → a ∣ v → f a = 0 → (∀ u, 2 ≤ u → u < 102100 → f u = if nm_st a u = true ∨ (a ∣ u ∧ a * a ≤ u ∧ u < v) then 1 else 0) → vv_V g x 3 0 0 14 [some (vv_r g 65), some (.int (nI a)), some (.int (nI v))] [] (vs_cells g (vs_ua S 70 f)) := by
    intro a h2 h319 hk m
    induction m with
    | zero => intro v f h1 h3 h4; omega
    | succ m ih =>
      intro v f h1 h3 h4 h5 h6 h7
      have haa := Nat.mul_le_mul_left a h2
      refine vv_iload_n C dX12_strikes_14 rfl ?_
      refine vv_ldc C dX12_strikes_15 kc_X12_22 ?_
      refine vv_icmp_ge (tgt := 43) C dX12_strikes_17 (by decide) (fun q17 => ?_) (fun q17 => ?_)
      · have hv : 102100 ≤ v := by rw [xn_lit, xn_le (by omega) (by omega)] at q17; exact q17
        refine hk f _ (fun u g1 g2 => ?_)
        rw [h7 u g1 g2]
        have e := nm_st1 (v := u) h2
        by_cases z : nm_st (a + 1) u = true
        · rw [if_pos z, if_pos]
          rcases e.mp z with y | y
          · exact Or.inl y
          · exact Or.inr ⟨y.1, y.2, by omega⟩
        · rw [if_neg z, if_neg]
          rintro (y | y)
          · exact z (e.mpr (Or.inl y))
          · exact z (e.mpr (Or.inr ⟨y.1, y.2.1⟩))
      · have hv : v < 102100 := by rw [xn_lit, xn_le (by omega) (by omega)] at q17; omega
        refine vv_aload_n C dX12_strikes_20 rfl ?_
        refine gf_X12_parts1 C dX12_strikes_21 fg_X12_23 ?_
        refine vv_iload_n C dX12_strikes_24 rfl ?_
        refine ld_70 C dX12_strikes_25 (xn_in (by omega) (by omega)) ?_
        refine vs_eqi (v9 := f a) (by rw [xn_cl (by omega)]; rfl) ?_
        refine vv_if_ne (tgt := 43) C dX12_strikes_26 (by decide) (fun q26 => ?_) (fun q26 => ?_)
        · exact absurd h6 q26
        · refine vv_aload_n C dX12_strikes_29 rfl ?_
          refine gf_X12_parts1 C dX12_strikes_30 fg_X12_23 ?_
          refine vv_iload_n C dX12_strikes_33 rfl ?_
          refine vv_iconst C dX12_strikes_34 ic_1 ?_
          refine st_70 hfl C dX12_strikes_35 (xn_in (by omega) (by omega)) ?_
          refine vs_eqS (S9 := vs_ua S 70 (upd f v 1)) (by rw [vs_uaa, xn_cl (by omega), nm_n1]; rfl) ?_
          refine vv_iload_n C dX12_strikes_36 rfl ?_
          refine vv_iload_n C dX12_strikes_37 rfl ?_
          refine vv_iadd C dX12_strikes_38 ?_
          refine vs_eqi (v9 := nI (v + a)) (nI_add v a) ?_
          refine vw_istore_n (lv9 := [_, _, _]) C dX12_strikes_39 (by decide) rfl rfl ?_
          refine vv_goto (tgt := 14) C dX12_strikes_40 (by decide) ?_
          refine ih (v + a) (upd f v 1) (by omega) (by omega) (by omega) (nm_dv h5) (by rw [pk_un (by omega)]; exact h6) (fun u g1 g2 => ?_)
          by_cases z : u = v
          · subst z
            rw [pk_us, if_pos (Or.inr ⟨h5, h3, by omega⟩)]
          · rw [pk_un z, h7 u g1 g2]
            by_cases y : nm_st a u = true ∨ (a ∣ u ∧ a * a ≤ u ∧ u < v)
            · rw [if_pos y, if_pos]
              rcases y with y | y
              · exact Or.inl y
              · exact Or.inr ⟨y.1, y.2.1, by omega⟩
            · rw [if_neg y, if_neg]
              rintro (t | t)
              · exact y (Or.inl t)
              · have t4 : ¬ u < v := fun t5 => y (Or.inr ⟨t.1, t.2.1, t5⟩)
                have t6 := nm_dm h5 t.1 (by omega)
                omega
  have outer : ∀ (m a : Nat) (f : Nat → Int32) (w : Option Value), a + m = 320 → 2 ≤ a → nm_ar a f → vv_V g x 3 0 0 2 [some (vv_r g 65), some (.int (nI a)), w] [] (vs_cells g (vs_ua S 70 f)) := by
    intro m
    induction m with
    | zero =>
      intro a f w h1 h2 hf
      have ha : a = 320 := by omega
      subst ha
      refine vv_iload_n C dX12_strikes_2 rfl ?_
      refine vv_iload_n C dX12_strikes_3 rfl ?_
      refine vv_imul C dX12_strikes_4 ?_
      refine vs_eqi (v9 := nI 102400) (rfl) ?_
      refine vv_ldc C dX12_strikes_5 kc_X12_22 ?_
      refine vv_icmp_ge (tgt := 49) C dX12_strikes_7 (by decide) (fun q7 => ?_) (fun q7 => ?_)
      · refine vv_aload_n C dX12_strikes_49 rfl ?_
        refine vv_iconst C dX12_strikes_50 ic_1 ?_
        refine pf_X12_isStruck C dX12_strikes_51 fp_X12_98 rfl rfl ?_
        exact vs_vret C F dX12_strikes_54 rfl ⟨(vs_fr.rf.ua (by decide)).us (by decide), rfl, fun v g1 g2 => by show f v = _; rw [hf v g1 g2, nm_st_pr g1 (by omega)]; cases np_pr v <;> rfl⟩
      · exact absurd (by decide +kernel) q7
    | succ m ih =>
      intro a f w h1 h2 hf
      have haa := Nat.mul_le_mul (show a ≤ 319 by omega) (show a ≤ 319 by omega)
      have hgo : ∀ (f : Nat → Int32) (w : Option Value), nm_ar (a + 1) f → vv_V g x 3 0 0 43 [some (vv_r g 65), some (.int (nI a)), w] [] (vs_cells g (vs_ua S 70 f)) := by
        intro f w hf
        refine vw_iinc (lv9 := [_, _, _]) C dX12_strikes_43 rfl ic_1 (by decide) rfl rfl ?_
        refine vv_goto (tgt := 2) C dX12_strikes_46 (by decide) ?_
        rw [nI_1]
        exact ih (a + 1) f w (by omega) (by omega) hf
      refine vv_iload_n C dX12_strikes_2 rfl ?_
      refine vv_iload_n C dX12_strikes_3 rfl ?_
      refine vv_imul C dX12_strikes_4 ?_
      refine vs_eqi (v9 := nI (a * a)) (xn_mul a a) ?_
      refine vv_ldc C dX12_strikes_5 kc_X12_22 ?_
      refine vv_icmp_ge (tgt := 49) C dX12_strikes_7 (by decide) (fun q7 => ?_) (fun q7 => ?_)
      · exact absurd q7 (by rw [xn_lit, xn_le (by omega) (by omega)]; omega)
      · refine vv_iload_n C dX12_strikes_10 rfl ?_
        refine vv_iload_n C dX12_strikes_11 rfl ?_
        refine vv_imul C dX12_strikes_12 ?_
        refine vs_eqi (v9 := nI (a * a)) (xn_mul a a) ?_
        refine vw_istore_n (lv9 := [_, _, _]) C dX12_strikes_13 (by decide) rfl rfl ?_
        have ha2 := Nat.mul_le_mul_left a h2
        by_cases z : nm_st a a = true
        · have h6 : f a = 1 := by rw [hf a h2 (by omega), if_pos z]
          refine vv_iload_n C dX12_strikes_14 rfl ?_
          refine vv_ldc C dX12_strikes_15 kc_X12_22 ?_
          refine vv_icmp_ge (tgt := 43) C dX12_strikes_17 (by decide) (fun q17 => ?_) (fun q17 => ?_)
          · exact absurd q17 (by rw [xn_lit, xn_le (by omega) (by omega)]; omega)
          · refine vv_aload_n C dX12_strikes_20 rfl ?_
            refine gf_X12_parts1 C dX12_strikes_21 fg_X12_23 ?_
            refine vv_iload_n C dX12_strikes_24 rfl ?_
            refine ld_70 C dX12_strikes_25 (xn_in (by omega) (by omega)) ?_
            refine vs_eqi (v9 := 1) (by rw [xn_cl (by omega)]; exact h6) ?_
            refine vv_if_ne (tgt := 43) C dX12_strikes_26 (by decide) (fun q26 => ?_) (fun q26 => ?_)
            · refine hgo f _ (fun u g1 g2 => ?_)
              rw [hf u g1 g2]
              have e := nm_st2 (v := u) h2 z
              by_cases y : nm_st a u = true
              · rw [if_pos y, if_pos (e.mpr y)]
              · rw [if_neg y, if_neg (fun t => y (e.mp t))]
            · exact absurd q26 (by decide)
        · refine inner a h2 (by omega) hgo 102100 (a * a) f (by omega) (Nat.le_refl _) (by omega) ⟨a, rfl⟩ (by rw [hf a h2 (by omega), if_neg z]) (fun u g1 g2 => ?_)
          rw [hf u g1 g2]
          by_cases y : nm_st a u = true
          · rw [if_pos y, if_pos (Or.inl y)]
          · rw [if_neg y, if_neg]
            rintro (t | t)
            · exact y t
            · omega
  refine vv_iconst C dX12_strikes_0 ic_2 ?_
  refine vw_istore_n (lv9 := [_, _, _]) C dX12_strikes_1 (by decide) rfl rfl ?_
  have := outer 318 2 (S.2.1 70) none rfl (by omega) (fun u g1 g2 => by rw [nm_st0, h0 u g2]; rfl)
  rw [vs_ua0] at this
  exact this
