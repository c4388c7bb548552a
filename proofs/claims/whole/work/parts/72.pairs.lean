/-! a call that changes nothing that is told -/
theorem mem_c {c : List Nat} {ks : List Nat} (h : ks.all (fun k => c.contains k) = true) {k : Nat} (d : c.contains k = false) : k ∉ ks := fun z => by
  have := List.all_eq_true.mp h k z
  rw [d] at this
  cases this
theorem RA_n {ks is js : List Nat} {S S1 : vs_S} {law : Nat} {L : lg_L} {cn m : Nat} {K : Nat → Nat} {l : List Nat} {h : hT} {t : Nat} {B : Nat → Int32} {q : qT} (r : RA S law L cn m K l h t B q) (f : vs_fr ks is js S S1) (hk : ks.all (fun k => [4, 5, 11, 12, 13, 15, 16, 17, 20].contains k) = true) (hi : is.all (fun k => [3, 16, 17, 25, 26, 27, 28, 29, 30, 31, 32, 33, 34, 35, 36, 37, 38, 39, 40, 41, 42, 44, 47, 50].contains k) = true) (hj : js.all (fun k => [24].contains k) = true) : RA S1 law L cn m K l h t B q := by
  obtain ⟨h1, h2, h3, h4, h5, h6, h7, h8, h9, h10, h11⟩ := r
  exact ⟨fr_s h1 f (mem_c hk rfl), nx_fr h2 f (mem_c hi rfl), fr_lX h3 f ⟨⟨mem_c hk rfl, mem_c hk rfl, mem_c hk rfl⟩, mem_c hi rfl, mem_c hi rfl, mem_c hi rfl, mem_c hi rfl⟩, fr_s h4 f (mem_c hk rfl), fr_fx h5 f ⟨⟨mem_c hk rfl, mem_c hk rfl⟩, mem_c hi rfl, mem_c hi rfl⟩, fr_cx h6 f ⟨mem_c hk rfl, mem_c hi rfl, mem_c hi rfl, mem_c hi rfl, mem_c hi rfl, mem_c hi rfl, mem_c hi rfl⟩, fr_pX h7 f ⟨mem_c hk rfl, mem_c hi rfl⟩, fr_tX h8 f ⟨mem_c hk rfl, mem_c hi rfl⟩, fr_sX h9 f ⟨⟨mem_c hi rfl, mem_c hi rfl, mem_c hi rfl⟩, mem_c hj rfl, mem_c hj rfl, mem_c hj rfl, mem_c hj rfl, mem_c hj rfl, mem_c hj rfl⟩, fr_tp h10 f ⟨mem_c hk rfl, mem_c hi rfl⟩, fr_lx h11 f ⟨mem_c hk rfl, mem_c hi rfl⟩⟩
theorem RB_n {ks is js : List Nat} {S S1 : vs_S} {law : Nat} {L : lg_L} {cn m : Nat} {K : Nat → Nat} {l : List Nat} {h : hT} {t : Nat} {B : Nat → Int32} {q : qT} (r : RB S law L cn m K l h t B q) (f : vs_fr ks is js S S1) (hn : nm_ok S1) (hk : ks.all (fun k => [24, 25, 29, 30, 31, 32, 33, 34, 35, 36, 39, 40].contains k) = true) (hi : is.all (fun k => [70, 71, 72, 73, 75, 78, 79, 80, 81].contains k) = true) (hj : js.all (fun k => [74, 87].contains k) = true) : RB S1 law L cn m K l h t B q := by
  obtain ⟨h1, h2, h3, h4, h5, h6, h7, h8, h9⟩ := r
  exact ⟨fr_s h1 f (mem_c hk rfl), hn, fr_lM h3 f ⟨⟨mem_c hk rfl, mem_c hk rfl⟩, mem_c hi rfl, mem_c hi rfl, mem_c hi rfl, mem_c hi rfl⟩, fr_s h4 f (mem_c hk rfl), fr_pM h5 f ⟨mem_c hk rfl, mem_c hi rfl⟩, fr_tM h6 f ⟨mem_c hk rfl, mem_c hi rfl⟩, fr_sM h7 f ⟨mem_c hi rfl, mem_c hi rfl, mem_c hj rfl⟩, fr_tq h8 f ⟨mem_c hk rfl, mem_c hi rfl⟩, fr_lm h9 f ⟨mem_c hk rfl, mem_c hi rfl⟩⟩
theorem lgX_H {S : vs_S} {L : lg_L} (h : lg_X S L) : S.2.1 19 = L.1 := by
  obtain ⟨H, A, B, C, d, n⟩ := L
  exact h.1.symm
theorem lgM_H {S : vs_S} {L : lg_L} (h : lg_M S L) : S.2.1 66 = L.1 := by
  obtain ⟨H, A, B, C, d, n⟩ := L
  exact h.1.symm
theorem lgX_d {S : vs_S} {L : lg_L} (h : lg_X S L) : S.1 7 = nI L.2.2.2.2.1 := by
  obtain ⟨H, A, B, C, d, n⟩ := L
  exact h.2.1
theorem lgM_d {S : vs_S} {L : lg_L} (h : lg_M S L) : S.1 22 = nI L.2.2.2.2.1 := by
  obtain ⟨H, A, B, C, d, n⟩ := L
  exact h.2.1

theorem pr_lawful (g : vv_G) (hfl : vv_fl g = false) (hN : NQ) (S : vs_S) (hR : RR S) (a : Int32) (b : Int32) : vs_KI g yX11_lawful cX11_lawful 3 (some .int) 5 [vv_r g 0, .int a, .int b] S (fun r S1 => vs_KI g yX12_lawful cX12_lawful 3 (some .int) 5 [vv_r g 65, .int a, .int b] S1 (fun r2 S2 => r2 = r ∧ RR S2)) := by
  obtain ⟨law, L, cn, m, K, l, h, t, B, q, ⟨c1, c2, c3, c4, c5⟩, hA, hB⟩ := hR
  have hA0 := hA
  have hB0 := hB
  obtain ⟨a1, a2, a3, a4, a5, a6, a7, a8, a9, a10, a11⟩ := hA
  refine vs_mono (c_X11_lawful g S a2 law c1 a1 a b) (fun r S1 p => ?_)
  obtain ⟨e, eS⟩ := p
  have F1 : vs_fr [] [] [] S S1 := by rw [eS]; exact vs_fr.rf
  have hA1 := RA_n hA0 F1 rfl rfl rfl
  have hB1 := fr_RB hB0 F1 rfl rfl rfl
  have hB3 := hB1
  obtain ⟨b1, b2, b3, b4, b5, b6, b7, b8, b9⟩ := hB1
  refine vs_mono (c_X12_lawful g S1 hfl b2 law c1 b1 a b) (fun r2 S2 p2 => ?_)
  obtain ⟨e2, t2⟩ := p2
  have F2 : vs_fr [24] [70] [] S1 S2 := t2.1
  have hB2 := RB_n hB3 F2 t2.2 rfl rfl rfl
  have hA2 := fr_RA hA1 F2 rfl rfl rfl
  refine ⟨?_, law, L, cn, m, K, l, h, t, B, q, ⟨c1, c2, c3, c4, c5⟩, hA2, hB2⟩
  rw [e2, e, np_eqf hN law c1]
theorem pr_change (g : vv_G) (hfl : vv_fl g = false) (hN : NQ) (S : vs_S) (hR : RR S) (a : Int32) : vs_KI g yX11_change cX11_change 3 (some .int) 5 [vv_r g 0, .int a] S (fun r S1 => vs_KI g yX12_change cX12_change 3 (some .int) 5 [vv_r g 65, .int a] S1 (fun r2 S2 => r2 = r ∧ RR S2)) := by
  obtain ⟨law, L, cn, m, K, l, h, t, B, q, ⟨c1, c2, c3, c4, c5⟩, hA, hB⟩ := hR
  have hA0 := hA
  have hB0 := hB
  obtain ⟨a1, a2, a3, a4, a5, a6, a7, a8, a9, a10, a11⟩ := hA
  refine vs_mono (c_X11_change g S a2 law c1 a1 a) (fun r S1 p => ?_)
  obtain ⟨e, eS⟩ := p
  have F1 : vs_fr [] [] [] S S1 := by rw [eS]; exact vs_fr.rf
  have hA1 := RA_n hA0 F1 rfl rfl rfl
  have hB1 := fr_RB hB0 F1 rfl rfl rfl
  have hB3 := hB1
  obtain ⟨b1, b2, b3, b4, b5, b6, b7, b8, b9⟩ := hB1
  refine vs_mono (c_X12_change g S1 hfl b2 law c1 b1 a) (fun r2 S2 p2 => ?_)
  obtain ⟨e2, t2⟩ := p2
  have F2 : vs_fr [24] [70] [] S1 S2 := t2.1
  have hB2 := RB_n hB3 F2 t2.2 rfl rfl rfl
  have hA2 := fr_RA hA1 F2 rfl rfl rfl
  refine ⟨?_, law, L, cn, m, K, l, h, t, B, q, ⟨c1, c2, c3, c4, c5⟩, hA2, hB2⟩
  rw [e2, e, np_eqf hN law c1]
theorem pr_third (g : vv_G) (hfl : vv_fl g = false) (hN : NQ) (S : vs_S) (hR : RR S) (a : Int32) : vs_KI g yX11_third cX11_third 3 (some .int) 5 [vv_r g 0, .int a] S (fun r S1 => vs_KI g yX12_third cX12_third 3 (some .int) 5 [vv_r g 65, .int a] S1 (fun r2 S2 => r2 = r ∧ RR S2)) := by
  obtain ⟨law, L, cn, m, K, l, h, t, B, q, ⟨c1, c2, c3, c4, c5⟩, hA, hB⟩ := hR
  have hA0 := hA
  have hB0 := hB
  obtain ⟨a1, a2, a3, a4, a5, a6, a7, a8, a9, a10, a11⟩ := hA
  refine vs_mono (c_X11_third g S a2 law c1 a1 a) (fun r S1 p => ?_)
  obtain ⟨e, eS⟩ := p
  have F1 : vs_fr [] [] [] S S1 := by rw [eS]; exact vs_fr.rf
  have hA1 := RA_n hA0 F1 rfl rfl rfl
  have hB1 := fr_RB hB0 F1 rfl rfl rfl
  have hB3 := hB1
  obtain ⟨b1, b2, b3, b4, b5, b6, b7, b8, b9⟩ := hB1
  refine vs_mono (c_X12_third g S1 hfl b2 law c1 b1 a) (fun r2 S2 p2 => ?_)
  obtain ⟨e2, t2⟩ := p2
  have F2 : vs_fr [24] [70] [] S1 S2 := t2.1
  have hB2 := RB_n hB3 F2 t2.2 rfl rfl rfl
  have hA2 := fr_RA hA1 F2 rfl rfl rfl
  refine ⟨?_, law, L, cn, m, K, l, h, t, B, q, ⟨c1, c2, c3, c4, c5⟩, hA2, hB2⟩
  rw [e2, e, np_eqf hN law c1]
theorem pr_next (g : vv_G) (hfl : vv_fl g = false) (hN : NQ) (S : vs_S) (hR : RR S) (a : Int32) (b : Int32) : vs_KI g yX11_next cX11_next 3 (some .int) 7 [vv_r g 0, .int a, .int b] S (fun r S1 => vs_KI g yX12_next cX12_next 5 (some .int) 7 [vv_r g 65, .int a, .int b] S1 (fun r2 S2 => r2 = r ∧ RR S2)) := by
  obtain ⟨law, L, cn, m, K, l, h, t, B, q, ⟨c1, c2, c3, c4, c5⟩, hA, hB⟩ := hR
  have hA0 := hA
  have hB0 := hB
  obtain ⟨a1, a2, a3, a4, a5, a6, a7, a8, a9, a10, a11⟩ := hA
  refine vs_mono (c_X11_next g S a2 law c1 a1 a b) (fun r S1 p => ?_)
  obtain ⟨e, eS⟩ := p
  have F1 : vs_fr [] [] [] S S1 := by rw [eS]; exact vs_fr.rf
  have hA1 := RA_n hA0 F1 rfl rfl rfl
  have hB1 := fr_RB hB0 F1 rfl rfl rfl
  have hB3 := hB1
  obtain ⟨b1, b2, b3, b4, b5, b6, b7, b8, b9⟩ := hB1
  refine vs_mono (c_X12_next g S1 hfl b2 law c1 b1 a b) (fun r2 S2 p2 => ?_)
  obtain ⟨e2, t2⟩ := p2
  have F2 : vs_fr [24] [70] [] S1 S2 := t2.1
  have hB2 := RB_n hB3 F2 t2.2 rfl rfl rfl
  have hA2 := fr_RA hA1 F2 rfl rfl rfl
  refine ⟨?_, law, L, cn, m, K, l, h, t, B, q, ⟨c1, c2, c3, c4, c5⟩, hA2, hB2⟩
  rw [e2, e, np_eqf hN law c1]
theorem pr_rent (g : vv_G) (hfl : vv_fl g = false) (hN : NQ) (S : vs_S) (hR : RR S) (a : Int32) (b : Int32) : vs_KI g yX11_rent cX11_rent 5 (some .int) 6 [vv_r g 0, .int a, .int b] S (fun r S1 => vs_KI g yX12_rent cX12_rent 5 (some .int) 6 [vv_r g 65, .int a, .int b] S1 (fun r2 S2 => r2 = r ∧ RR S2)) := by
  obtain ⟨law, L, cn, m, K, l, h, t, B, q, ⟨c1, c2, c3, c4, c5⟩, hA, hB⟩ := hR
  have hA0 := hA
  have hB0 := hB
  obtain ⟨a1, a2, a3, a4, a5, a6, a7, a8, a9, a10, a11⟩ := hA
  refine vs_mono (c_X11_rent g S a2 law c1 a1 a b) (fun r S1 p => ?_)
  obtain ⟨e, eS⟩ := p
  have F1 : vs_fr [] [] [] S S1 := by rw [eS]; exact vs_fr.rf
  have hA1 := RA_n hA0 F1 rfl rfl rfl
  have hB1 := fr_RB hB0 F1 rfl rfl rfl
  have hB3 := hB1
  obtain ⟨b1, b2, b3, b4, b5, b6, b7, b8, b9⟩ := hB1
  refine vs_mono (c_X12_rent g S1 hfl b2 law c1 b1 a b) (fun r2 S2 p2 => ?_)
  obtain ⟨e2, t2⟩ := p2
  have F2 : vs_fr [24] [70] [] S1 S2 := t2.1
  have hB2 := RB_n hB3 F2 t2.2 rfl rfl rfl
  have hA2 := fr_RA hA1 F2 rfl rfl rfl
  refine ⟨?_, law, L, cn, m, K, l, h, t, B, q, ⟨c1, c2, c3, c4, c5⟩, hA2, hB2⟩
  rw [e2, e, np_eqf hN law c1]
theorem pr_tax (g : vv_G) (hfl : vv_fl g = false) (hN : NQ) (S : vs_S) (hR : RR S) (a : Int32) : vs_KI g yX11_tax cX11_tax 2 (some .int) 6 [vv_r g 0, .int a] S (fun r S1 => vs_KI g yX12_tax cX12_tax 2 (some .int) 6 [vv_r g 65, .int a] S1 (fun r2 S2 => r2 = r ∧ RR S2)) := by
  obtain ⟨law, L, cn, m, K, l, h, t, B, q, ⟨c1, c2, c3, c4, c5⟩, hA, hB⟩ := hR
  have hA0 := hA
  have hB0 := hB
  obtain ⟨a1, a2, a3, a4, a5, a6, a7, a8, a9, a10, a11⟩ := hA
  refine vs_mono (c_X11_tax g S a2 law c1 a1 a) (fun r S1 p => ?_)
  obtain ⟨e, eS⟩ := p
  have F1 : vs_fr [] [] [] S S1 := by rw [eS]; exact vs_fr.rf
  have hA1 := RA_n hA0 F1 rfl rfl rfl
  have hB1 := fr_RB hB0 F1 rfl rfl rfl
  have hB3 := hB1
  obtain ⟨b1, b2, b3, b4, b5, b6, b7, b8, b9⟩ := hB1
  refine vs_mono (c_X12_tax g S1 hfl b2 law c1 b1 a) (fun r2 S2 p2 => ?_)
  obtain ⟨e2, t2⟩ := p2
  have F2 : vs_fr [24] [70] [] S1 S2 := t2.1
  have hB2 := RB_n hB3 F2 t2.2 rfl rfl rfl
  have hA2 := fr_RA hA1 F2 rfl rfl rfl
  refine ⟨?_, law, L, cn, m, K, l, h, t, B, q, ⟨c1, c2, c3, c4, c5⟩, hA2, hB2⟩
  rw [e2, e, np_eqf hN law c1]
theorem pr_rounded (g : vv_G) (hfl : vv_fl g = false) (hN : NQ) (S : vs_S) (hR : RR S) (a : Int32) (b : Int32) : vs_KI g yX11_rounded cX11_rounded 4 (some .int) 6 [vv_r g 0, .int a, .int b] S (fun r S1 => vs_KI g yX12_rounded cX12_rounded 4 (some .int) 6 [vv_r g 65, .int a, .int b] S1 (fun r2 S2 => r2 = r ∧ RR S2)) := by
  obtain ⟨law, L, cn, m, K, l, h, t, B, q, ⟨c1, c2, c3, c4, c5⟩, hA, hB⟩ := hR
  have hA0 := hA
  have hB0 := hB
  obtain ⟨a1, a2, a3, a4, a5, a6, a7, a8, a9, a10, a11⟩ := hA
  refine vs_mono (c_X11_rounded g S a2 law c1 a1 a b) (fun r S1 p => ?_)
  obtain ⟨e, eS⟩ := p
  have F1 : vs_fr [] [] [] S S1 := by rw [eS]; exact vs_fr.rf
  have hA1 := RA_n hA0 F1 rfl rfl rfl
  have hB1 := fr_RB hB0 F1 rfl rfl rfl
  have hB3 := hB1
  obtain ⟨b1, b2, b3, b4, b5, b6, b7, b8, b9⟩ := hB1
  refine vs_mono (c_X12_rounded g S1 hfl b2 law c1 b1 a b) (fun r2 S2 p2 => ?_)
  obtain ⟨e2, t2⟩ := p2
  have F2 : vs_fr [24] [70] [] S1 S2 := t2.1
  have hB2 := RB_n hB3 F2 t2.2 rfl rfl rfl
  have hA2 := fr_RA hA1 F2 rfl rfl rfl
  refine ⟨?_, law, L, cn, m, K, l, h, t, B, q, ⟨c1, c2, c3, c4, c5⟩, hA2, hB2⟩
  rw [e2, e, np_eqf hN law c1]
theorem pr_many (g : vv_G) (hfl : vv_fl g = false) (hN : NQ) (S : vs_S) (hR : RR S) (a : Int32) (b : Int32) : vs_KI g yX11_many cX11_many 5 (some .int) 5 [vv_r g 0, .int a, .int b] S (fun r S1 => vs_KI g yX12_many cX12_many 5 (some .int) 5 [vv_r g 65, .int a, .int b] S1 (fun r2 S2 => r2 = r ∧ RR S2)) := by
  obtain ⟨law, L, cn, m, K, l, h, t, B, q, ⟨c1, c2, c3, c4, c5⟩, hA, hB⟩ := hR
  have hA0 := hA
  have hB0 := hB
  obtain ⟨a1, a2, a3, a4, a5, a6, a7, a8, a9, a10, a11⟩ := hA
  refine vs_mono (c_X11_many g S a2 law c1 a1 a b) (fun r S1 p => ?_)
  obtain ⟨e, eS⟩ := p
  have F1 : vs_fr [] [] [] S S1 := by rw [eS]; exact vs_fr.rf
  have hA1 := RA_n hA0 F1 rfl rfl rfl
  have hB1 := fr_RB hB0 F1 rfl rfl rfl
  have hB3 := hB1
  obtain ⟨b1, b2, b3, b4, b5, b6, b7, b8, b9⟩ := hB1
  refine vs_mono (c_X12_many g S1 hfl b2 law c1 b1 a b) (fun r2 S2 p2 => ?_)
  obtain ⟨e2, t2⟩ := p2
  have F2 : vs_fr [24] [70] [] S1 S2 := t2.1
  have hB2 := RB_n hB3 F2 t2.2 rfl rfl rfl
  have hA2 := fr_RA hA1 F2 rfl rfl rfl
  refine ⟨?_, law, L, cn, m, K, l, h, t, B, q, ⟨c1, c2, c3, c4, c5⟩, hA2, hB2⟩
  rw [e2, e, np_eqf hN law c1, vs_ends]
theorem pr_gap (g : vv_G) (hfl : vv_fl g = false) (hN : NQ) (S : vs_S) (hR : RR S) (a : Int32) (b : Int32) (w : Int32) : vs_KI g yX11_gap cX11_gap 8 (some .int) 5 [vv_r g 0, .int a, .int b, .int w] S (fun r S1 => vs_KI g yX12_gap cX12_gap 8 (some .int) 5 [vv_r g 65, .int a, .int b, .int w] S1 (fun r2 S2 => r2 = r ∧ RR S2)) := by
  obtain ⟨law, L, cn, m, K, l, h, t, B, q, ⟨c1, c2, c3, c4, c5⟩, hA, hB⟩ := hR
  have hA0 := hA
  have hB0 := hB
  obtain ⟨a1, a2, a3, a4, a5, a6, a7, a8, a9, a10, a11⟩ := hA
  refine vs_mono (c_X11_gap g S a2 law c1 a1 a b w) (fun r S1 p => ?_)
  obtain ⟨e, eS⟩ := p
  have F1 : vs_fr [] [] [] S S1 := by rw [eS]; exact vs_fr.rf
  have hA1 := RA_n hA0 F1 rfl rfl rfl
  have hB1 := fr_RB hB0 F1 rfl rfl rfl
  have hB3 := hB1
  obtain ⟨b1, b2, b3, b4, b5, b6, b7, b8, b9⟩ := hB1
  refine vs_mono (c_X12_gap g S1 hfl b2 law c1 b1 a b w) (fun r2 S2 p2 => ?_)
  obtain ⟨e2, t2⟩ := p2
  have F2 : vs_fr [24] [70] [] S1 S2 := t2.1
  have hB2 := RB_n hB3 F2 t2.2 rfl rfl rfl
  have hA2 := fr_RA hA1 F2 rfl rfl rfl
  refine ⟨?_, law, L, cn, m, K, l, h, t, B, q, ⟨c1, c2, c3, c4, c5⟩, hA2, hB2⟩
  rw [e2, e, np_eqf hN law c1, vs_ends]
theorem pr_judge (g : vv_G) (hfl : vv_fl g = false) (hN : NQ) (S : vs_S) (hR : RR S) : vs_KI g yX11_judge cX11_judge 1 (some .int) 7 [vv_r g 0] S (fun r S1 => vs_KI g yX12_judge cX12_judge 3 (some .int) 5 [vv_r g 65] S1 (fun r2 S2 => r2 = r ∧ RR S2)) := by
  obtain ⟨law, L, cn, m, K, l, h, t, B, q, ⟨c1, c2, c3, c4, c5⟩, hA, hB⟩ := hR
  have hA0 := hA
  have hB0 := hB
  obtain ⟨a1, a2, a3, a4, a5, a6, a7, a8, a9, a10, a11⟩ := hA
  refine vs_mono (c_X11_judge g S a2 law c1 a1 ) (fun r S1 p => ?_)
  obtain ⟨e, eS⟩ := p
  have F1 : vs_fr [] [] [] S S1 := by rw [eS]; exact vs_fr.rf
  have hA1 := RA_n hA0 F1 rfl rfl rfl
  have hB1 := fr_RB hB0 F1 rfl rfl rfl
  have hB3 := hB1
  obtain ⟨b1, b2, b3, b4, b5, b6, b7, b8, b9⟩ := hB1
  refine vs_mono (c_X12_judge g S1 hfl b2 law c1 b1 ) (fun r2 S2 p2 => ?_)
  obtain ⟨e2, t2⟩ := p2
  have F2 : vs_fr [24] [70] [] S1 S2 := t2.1
  have hB2 := RB_n hB3 F2 t2.2 rfl rfl rfl
  have hA2 := fr_RA hA1 F2 rfl rfl rfl
  refine ⟨?_, law, L, cn, m, K, l, h, t, B, q, ⟨c1, c2, c3, c4, c5⟩, hA2, hB2⟩
  rw [e2, e, np_eqf hN law c1, lgM_H b3, lgX_H a3]
theorem pr_struck (g : vv_G) (hfl : vv_fl g = false) (hN : NQ) (S : vs_S) (hR : RR S) : vs_KI g yX11_struck cX11_struck 1 (some .int) 7 [vv_r g 0] S (fun r S1 => vs_KI g yX12_struck cX12_struck 4 (some .int) 6 [vv_r g 65] S1 (fun r2 S2 => r2 = r ∧ RR S2)) := by
  obtain ⟨law, L, cn, m, K, l, h, t, B, q, ⟨c1, c2, c3, c4, c5⟩, hA, hB⟩ := hR
  have hA0 := hA
  have hB0 := hB
  obtain ⟨a1, a2, a3, a4, a5, a6, a7, a8, a9, a10, a11⟩ := hA
  refine vs_mono (c_X11_struck g S a2 law c1 a1 ) (fun r S1 p => ?_)
  obtain ⟨e, eS⟩ := p
  have F1 : vs_fr [] [] [] S S1 := by rw [eS]; exact vs_fr.rf
  have hA1 := RA_n hA0 F1 rfl rfl rfl
  have hB1 := fr_RB hB0 F1 rfl rfl rfl
  have hB3 := hB1
  obtain ⟨b1, b2, b3, b4, b5, b6, b7, b8, b9⟩ := hB1
  refine vs_mono (c_X12_struck g S1 hfl b2 law c1 b1 ) (fun r2 S2 p2 => ?_)
  obtain ⟨e2, t2⟩ := p2
  have F2 : vs_fr [24] [70] [] S1 S2 := t2.1
  have hB2 := RB_n hB3 F2 t2.2 rfl rfl rfl
  have hA2 := fr_RA hA1 F2 rfl rfl rfl
  refine ⟨?_, law, L, cn, m, K, l, h, t, B, q, ⟨c1, c2, c3, c4, c5⟩, hA2, hB2⟩
  rw [e2, e, np_eqf hN law c1, lgM_H b3, lgX_H a3]
theorem pr_part (g : vv_G) (hfl : vv_fl g = false) (hN : NQ) (S : vs_S) (hR : RR S) (a : Int32) (b : Int32) : vs_KL g yX11_part cX11_part 3 (some .long) 5 [vv_r g 0, .int a, .int b] S (fun r S1 => vs_KL g yX12_part cX12_part 3 (some .long) 5 [vv_r g 65, .int a, .int b] S1 (fun r2 S2 => r2 = r ∧ RR S2)) := by
  obtain ⟨law, L, cn, m, K, l, h, t, B, q, ⟨c1, c2, c3, c4, c5⟩, hA, hB⟩ := hR
  have hA0 := hA
  have hB0 := hB
  obtain ⟨a1, a2, a3, a4, a5, a6, a7, a8, a9, a10, a11⟩ := hA
  refine vs_monoL (c_X11_part g S a2 law c1 a1 a b) (fun r S1 p => ?_)
  obtain ⟨e, eS⟩ := p
  have F1 : vs_fr [] [] [] S S1 := by rw [eS]; exact vs_fr.rf
  have hA1 := RA_n hA0 F1 rfl rfl rfl
  have hB1 := fr_RB hB0 F1 rfl rfl rfl
  have hB3 := hB1
  obtain ⟨b1, b2, b3, b4, b5, b6, b7, b8, b9⟩ := hB1
  refine vs_monoL (c_X12_part g S1 a b) (fun r2 S2 p2 => ?_)
  obtain ⟨e2, eS2⟩ := p2
  have F2 : vs_fr [] [] [] S1 S2 := by rw [eS2]; exact vs_fr.rf
  have hB2 := RB_n hB3 F2 (by rw [eS2]; exact b2) rfl rfl rfl
  have hA2 := fr_RA hA1 F2 rfl rfl rfl
  refine ⟨?_, law, L, cn, m, K, l, h, t, B, q, ⟨c1, c2, c3, c4, c5⟩, hA2, hB2⟩
  rw [e2, e, np_xlf hN]
theorem pr_parts (g : vv_G) (hfl : vv_fl g = false) (hN : NQ) (S : vs_S) (hR : RR S) (a : Int32) (b : Int32) : vs_KI g yX11_parts cX11_parts 4 (some .int) 6 [vv_r g 0, .int a, .int b] S (fun r S1 => vs_KI g yX12_parts cX12_parts 3 (some .int) 4 [vv_r g 65, .int a, .int b] S1 (fun r2 S2 => r2 = r ∧ RR S2)) := by
  obtain ⟨law, L, cn, m, K, l, h, t, B, q, ⟨c1, c2, c3, c4, c5⟩, hA, hB⟩ := hR
  have hA0 := hA
  have hB0 := hB
  obtain ⟨a1, a2, a3, a4, a5, a6, a7, a8, a9, a10, a11⟩ := hA
  refine vs_mono (c_X11_parts g S a2 a b) (fun r S1 p => ?_)
  obtain ⟨e, f1⟩ := p
  have F1 : vs_fr [] [3] [] S S1 := f1
  have hA1 := RA_n hA0 F1 rfl rfl rfl
  have hB1 := fr_RB hB0 F1 rfl rfl rfl
  have hB3 := hB1
  obtain ⟨b1, b2, b3, b4, b5, b6, b7, b8, b9⟩ := hB1
  refine vs_mono (c_X12_parts g S1 a b) (fun r2 S2 p2 => ?_)
  obtain ⟨e2, f2⟩ := p2
  have F2 : vs_fr [25] [71] [] S1 S2 := f2
  have hB2 := RB_n hB3 F2 (nm_ok_of b2 (f2.1 24 (by decide)) (f2.2.1 70 (by decide))) rfl rfl rfl
  have hA2 := fr_RA hA1 F2 rfl rfl rfl
  refine ⟨?_, law, L, cn, m, K, l, h, t, B, q, ⟨c1, c2, c3, c4, c5⟩, hA2, hB2⟩
  rw [e2, e, np_xlf hN]
theorem pr_look (g : vv_G) (hfl : vv_fl g = false) (hN : NQ) (S : vs_S) (hR : RR S) (a : Int32) (b : Int32) : vs_KI g yX11_look cX11_look 3 (some .int) 6 [vv_r g 0, .int a, .int b] S (fun r S1 => vs_KI g yX12_look cX12_look 3 (some .int) 4 [vv_r g 65, .int a, .int b] S1 (fun r2 S2 => r2 = r ∧ RR S2)) := by
  obtain ⟨law, L, cn, m, K, l, h, t, B, q, ⟨c1, c2, c3, c4, c5⟩, hA, hB⟩ := hR
  have hA0 := hA
  have hB0 := hB
  obtain ⟨a1, a2, a3, a4, a5, a6, a7, a8, a9, a10, a11⟩ := hA
  refine vs_mono (c_X11_look g S a2 a b) (fun r S1 p => ?_)
  obtain ⟨e, f1⟩ := p
  have F1 : vs_fr [] [3] [] S S1 := f1
  have hA1 := RA_n hA0 F1 rfl rfl rfl
  have hB1 := fr_RB hB0 F1 rfl rfl rfl
  have hB3 := hB1
  obtain ⟨b1, b2, b3, b4, b5, b6, b7, b8, b9⟩ := hB1
  refine vs_mono (c_X12_look g S1 a b) (fun r2 S2 p2 => ?_)
  obtain ⟨e2, f2⟩ := p2
  have F2 : vs_fr [25] [71] [] S1 S2 := f2
  have hB2 := RB_n hB3 F2 (nm_ok_of b2 (f2.1 24 (by decide)) (f2.2.1 70 (by decide))) rfl rfl rfl
  have hA2 := fr_RA hA1 F2 rfl rfl rfl
  refine ⟨?_, law, L, cn, m, K, l, h, t, B, q, ⟨c1, c2, c3, c4, c5⟩, hA2, hB2⟩
  rw [e2, e, np_xlf hN]
theorem pr_proof (g : vv_G) (hfl : vv_fl g = false) (hN : NQ) (S : vs_S) (hR : RR S) (a : Int32) : vs_KI g yX11_proof cX11_proof 2 (some .int) 7 [vv_r g 0, .int a] S (fun r S1 => vs_KI g yX12_proof cX12_proof 3 (some .int) 4 [vv_r g 65, .int a] S1 (fun r2 S2 => r2 = r ∧ RR S2)) := by
  obtain ⟨law, L, cn, m, K, l, h, t, B, q, ⟨c1, c2, c3, c4, c5⟩, hA, hB⟩ := hR
  have hA0 := hA
  have hB0 := hB
  obtain ⟨a1, a2, a3, a4, a5, a6, a7, a8, a9, a10, a11⟩ := hA
  refine vs_mono (c_X11_proof g S a2 a) (fun r S1 p => ?_)
  obtain ⟨e, f1⟩ := p
  have F1 : vs_fr [] [3] [] S S1 := f1
  have hA1 := RA_n hA0 F1 rfl rfl rfl
  have hB1 := fr_RB hB0 F1 rfl rfl rfl
  have hB3 := hB1
  obtain ⟨b1, b2, b3, b4, b5, b6, b7, b8, b9⟩ := hB1
  refine vs_mono (c_X12_proof g S1 hfl b2 hN.2.2 a) (fun r2 S2 p2 => ?_)
  obtain ⟨e2, f2, n2⟩ := p2
  have F2 : vs_fr [24, 25] [70, 71] [] S1 S2 := f2
  have hB2 := RB_n hB3 F2 n2 rfl rfl rfl
  have hA2 := fr_RA hA1 F2 rfl rfl rfl
  refine ⟨?_, law, L, cn, m, K, l, h, t, B, q, ⟨c1, c2, c3, c4, c5⟩, hA2, hB2⟩
  rw [e2, e, np_xlf hN, hN.1]
theorem pr_fewest (g : vv_G) (hfl : vv_fl g = false) (hN : NQ) (S : vs_S) (hR : RR S) (a : Int32) (b : Int32) : vs_KI g yX11_fewest cX11_fewest 4 (some .int) 7 [vv_r g 0, .int a, .int b] S (fun r S1 => vs_KI g yX12_fewest cX12_fewest 6 (some .int) 7 [vv_r g 65, .int a, .int b] S1 (fun r2 S2 => r2 = r ∧ RR S2)) := by
  obtain ⟨law, L, cn, m, K, l, h, t, B, q, ⟨c1, c2, c3, c4, c5⟩, hA, hB⟩ := hR
  have hA0 := hA
  have hB0 := hB
  obtain ⟨a1, a2, a3, a4, a5, a6, a7, a8, a9, a10, a11⟩ := hA
  refine vs_mono (c_X11_fewest g S a2 law c1 a1 a5 a b) (fun r S1 p => ?_)
  obtain ⟨Y, t1, e, x1, f1⟩ := p
  have F1 : vs_fr [1, 2] [6, 7] [] S S1 := f1
  have hA1 : RA S1 law L cn m K l h t B q := ⟨fr_s a1 F1 (by decide), nx_fr a2 F1 (by decide), fr_lX a3 F1 (by decide), fr_s a4 F1 (by decide), x1, fr_cx a6 F1 (by decide), fr_pX a7 F1 (by decide), fr_tX a8 F1 (by decide), fr_sX a9 F1 (by decide), fr_tp a10 F1 (by decide), fr_lx a11 F1 (by decide)⟩
  have hB1 := fr_RB hB0 F1 rfl rfl rfl
  have hB3 := hB1
  obtain ⟨b1, b2, b3, b4, b5, b6, b7, b8, b9⟩ := hB1
  refine vs_mono (c_X12_fewest g S1 hfl b2 law c1 b1 a b) (fun r2 S2 p2 => ?_)
  obtain ⟨Y2, t2, e2, f2, n2, _⟩ := p2
  have F2 : vs_fr [24] [70, 72, 73] [] S1 S2 := f2
  have hB2 := RB_n hB3 F2 n2 rfl rfl rfl
  have hA2 := fr_RA hA1 F2 rfl rfl rfl
  refine ⟨?_, law, L, cn, m, K, l, h, t, B, q, ⟨c1, c2, c3, c4, c5⟩, hA2, hB2⟩
  rw [e2, e]
  by_cases w : (vs_w a 1 2000 && decide (-1 ≤ b)) = true
  · rw [if_pos w, if_pos w]
    have t3 := t1 w
    have t4 := t2 w
    have hle : a.toNatClampNeg ≤ 2000 := by
      rw [Bool.and_eq_true] at w
      obtain ⟨k, _, hk, ek⟩ := vs_wN (a := 1) (b := 2000) (by omega) (by omega) w.1
      rw [ek, xn_cl (by omega)]
      exact hk
    exact fwv_c t4 ⟨t3.1, fun v h1 h2 => t3.2 v h1 (Nat.le_trans h2 hle)⟩ (fun z _ => by rw [np_eqf hN law c1])
  · rw [if_neg w, if_neg w]
theorem pr_counted (g : vv_G) (hfl : vv_fl g = false) (hN : NQ) (S : vs_S) (hR : RR S) (a : Int32) (b : Int32) : vs_KI g yX11_counted cX11_counted 3 (some .int) 7 [vv_r g 0, .int a, .int b] S (fun r S1 => vs_KI g yX12_counted cX12_counted 6 (some .int) 5 [vv_r g 65, .int a, .int b] S1 (fun r2 S2 => r2 = r ∧ RR S2)) := by
  obtain ⟨law, L, cn, m, K, l, h, t, B, q, ⟨c1, c2, c3, c4, c5⟩, hA, hB⟩ := hR
  have hA0 := hA
  have hB0 := hB
  obtain ⟨a1, a2, a3, a4, a5, a6, a7, a8, a9, a10, a11⟩ := hA
  refine vs_mono (c_X11_counted g S a2 law c1 a1 a6 a b) (fun r S1 p => ?_)
  obtain ⟨e, x1, f1⟩ := p
  have F1 : vs_fr [3] [9, 10, 11, 12, 13, 14] [] S S1 := f1
  have hA1 : RA S1 law L cn m K l h t B q := ⟨fr_s a1 F1 (by decide), nx_fr a2 F1 (by decide), fr_lX a3 F1 (by decide), fr_s a4 F1 (by decide), fr_fx a5 F1 (by decide), x1, fr_pX a7 F1 (by decide), fr_tX a8 F1 (by decide), fr_sX a9 F1 (by decide), fr_tp a10 F1 (by decide), fr_lx a11 F1 (by decide)⟩
  have hB1 := fr_RB hB0 F1 rfl rfl rfl
  have hB3 := hB1
  obtain ⟨b1, b2, b3, b4, b5, b6, b7, b8, b9⟩ := hB1
  refine vs_mono (c_X12_counted g S1 hfl b2 law c1 b1 a b) (fun r2 S2 p2 => ?_)
  obtain ⟨e2, f2, n2, _⟩ := p2
  have F2 : vs_fr [24] [70] [74] S1 S2 := f2
  have hB2 := RB_n hB3 F2 n2 rfl rfl rfl
  have hA2 := fr_RA hA1 F2 rfl rfl rfl
  refine ⟨?_, law, L, cn, m, K, l, h, t, B, q, ⟨c1, c2, c3, c4, c5⟩, hA2, hB2⟩
  rw [e2, e, np_eqf hN law c1]
theorem pr_coins (g : vv_G) (hfl : vv_fl g = false) (hN : NQ) (S : vs_S) (hR : RR S) (a : Int32) (b : Int32) : vs_KI g yX11_coins cX11_coins 4 (some .int) 6 [vv_r g 0, .int a, .int b] S (fun r S1 => vs_KI g yX12_coins cX12_coins 7 (some .int) 7 [vv_r g 65, .int a, .int b] S1 (fun r2 S2 => r2 = r ∧ RR S2)) := by
  obtain ⟨law, L, cn, m, K, l, h, t, B, q, ⟨c1, c2, c3, c4, c5⟩, hA, hB⟩ := hR
  have hA0 := hA
  have hB0 := hB
  obtain ⟨a1, a2, a3, a4, a5, a6, a7, a8, a9, a10, a11⟩ := hA
  refine vs_mono (c_X11_coins g S hfl a2 law c1 a1 L a3 c3 cn c4 a4 a b) (fun r S1 p => ?_)
  obtain ⟨e, f1⟩ := p
  have F1 : vs_fr [] [] [24] S S1 := f1
  have hA1 := RA_n hA0 F1 rfl rfl rfl
  have hB1 := fr_RB hB0 F1 rfl rfl rfl
  have hB3 := hB1
  obtain ⟨b1, b2, b3, b4, b5, b6, b7, b8, b9⟩ := hB1
  refine vs_mono (c_X12_coins g S1 hfl b2 law c1 b1 L b3 c3 cn c4 b4 a b) (fun r2 S2 p2 => ?_)
  obtain ⟨e2, f2, n2, _⟩ := p2
  have F2 : vs_fr [24] [70, 75] [] S1 S2 := f2
  have hB2 := RB_n hB3 F2 n2 rfl rfl rfl
  have hA2 := fr_RA hA1 F2 rfl rfl rfl
  refine ⟨?_, law, L, cn, m, K, l, h, t, B, q, ⟨c1, c2, c3, c4, c5⟩, hA2, hB2⟩
  rw [e2, e, np_eqf hN law c1]
theorem pr_shares (g : vv_G) (hfl : vv_fl g = false) (hN : NQ) (S : vs_S) (hR : RR S) (a : Int32) (b : Int32) (w : Int32) : vs_KI g yX11_shares cX11_shares 5 (some .int) 11 [vv_r g 0, .int a, .int b, .int w] S (fun r S1 => vs_KI g yX12_shares cX12_shares 4 (some .int) 6 [vv_r g 65, .int a, .int b, .int w] S1 (fun r2 S2 => r2 = r ∧ RR S2)) := by
  obtain ⟨law, L, cn, m, K, l, h, t, B, q, ⟨c1, c2, c3, c4, c5⟩, hA, hB⟩ := hR
  have hA0 := hA
  have hB0 := hB
  obtain ⟨a1, a2, a3, a4, a5, a6, a7, a8, a9, a10, a11⟩ := hA
  refine vs_mono (c_X11_shares g S hfl a2 law c1 a1 a b w) (fun r S1 p => ?_)
  obtain ⟨e, f1⟩ := p
  have F1 : vs_fr [4, 5] [16, 17] [] S S1 := f1
  have hA1 := RA_n hA0 F1 rfl rfl rfl
  have hB1 := fr_RB hB0 F1 rfl rfl rfl
  have hB3 := hB1
  obtain ⟨b1, b2, b3, b4, b5, b6, b7, b8, b9⟩ := hB1
  refine vs_mono (c_X12_shares g S1 hfl b2 law c1 b1 a b w) (fun r2 S2 p2 => ?_)
  obtain ⟨e2, f2, n2⟩ := p2
  have F2 : vs_fr [24, 34] [70, 72, 73, 79, 80] [] S1 S2 := f2
  have hB2 := RB_n hB3 F2 n2 rfl rfl rfl
  have hA2 := fr_RA hA1 F2 rfl rfl rfl
  refine ⟨?_, law, L, cn, m, K, l, h, t, B, q, ⟨c1, c2, c3, c4, c5⟩, hA2, hB2⟩
  rw [e2, e, np_eqf hN law c1]
theorem pr_settle (g : vv_G) (hfl : vv_fl g = false) (hN : NQ) (S : vs_S) (hR : RR S) (a : Int32) : vs_KI g yX11_settle cX11_settle 2 (some .int) 6 [vv_r g 0, .int a] S (fun r S1 => vs_KI g yX12_settle cX12_settle 8 (some .int) 6 [vv_r g 65, .int a] S1 (fun r2 S2 => r2 = r ∧ RR S2)) := by
  obtain ⟨law, L, cn, m, K, l, h, t, B, q, ⟨c1, c2, c3, c4, c5⟩, hA, hB⟩ := hR
  have hA0 := hA
  have hB0 := hB
  obtain ⟨a1, a2, a3, a4, a5, a6, a7, a8, a9, a10, a11⟩ := hA
  refine vs_mono (c_X11_settle g S a2 law c1 a1 L a3 c3 a) (fun r S1 p => ?_)
  obtain ⟨e, f1⟩ := p
  have F1 : vs_fr [] [44] [] S S1 := f1
  have hA1 := RA_n hA0 F1 rfl rfl rfl
  have hB1 := fr_RB hB0 F1 rfl rfl rfl
  have hB3 := hB1
  obtain ⟨b1, b2, b3, b4, b5, b6, b7, b8, b9⟩ := hB1
  refine vs_mono (c_X12_settle g S1 hfl b2 law c1 b1 L b3 c3 a) (fun r2 S2 p2 => ?_)
  obtain ⟨e2, f2, n2, _⟩ := p2
  have F2 : vs_fr [24] [70, 81] [] S1 S2 := f2
  have hB2 := RB_n hB3 F2 n2 rfl rfl rfl
  have hA2 := fr_RA hA1 F2 rfl rfl rfl
  refine ⟨?_, law, L, cn, m, K, l, h, t, B, q, ⟨c1, c2, c3, c4, c5⟩, hA2, hB2⟩
  rw [e2, e, np_eqf hN law c1]
theorem pr_owes (g : vv_G) (hfl : vv_fl g = false) (hN : NQ) (S : vs_S) (hR : RR S) (a : Int32) : vs_KI g yX11_owes cX11_owes 2 (some .int) 4 [vv_r g 0, .int a] S (fun r S1 => vs_KI g yX12_owes cX12_owes 2 (some .int) 4 [vv_r g 65, .int a] S1 (fun r2 S2 => r2 = r ∧ RR S2)) := by
  obtain ⟨law, L, cn, m, K, l, h, t, B, q, ⟨c1, c2, c3, c4, c5⟩, hA, hB⟩ := hR
  have hA0 := hA
  have hB0 := hB
  obtain ⟨a1, a2, a3, a4, a5, a6, a7, a8, a9, a10, a11⟩ := hA
  refine vs_mono (c_X11_owes g S a) (fun r S1 p => ?_)
  obtain ⟨e, eS⟩ := p
  have F1 : vs_fr [] [] [] S S1 := by rw [eS]; exact vs_fr.rf
  have hA1 := RA_n hA0 F1 rfl rfl rfl
  have hB1 := fr_RB hB0 F1 rfl rfl rfl
  have hB3 := hB1
  obtain ⟨b1, b2, b3, b4, b5, b6, b7, b8, b9⟩ := hB1
  refine vs_mono (c_X12_owes g S1 a) (fun r2 S2 p2 => ?_)
  obtain ⟨e2, eS2⟩ := p2
  have F2 : vs_fr [] [] [] S1 S2 := by rw [eS2]; exact vs_fr.rf
  have hB2 := RB_n hB3 F2 (by rw [eS2]; exact b2) rfl rfl rfl
  have hA2 := fr_RA hA1 F2 rfl rfl rfl
  refine ⟨?_, law, L, cn, m, K, l, h, t, B, q, ⟨c1, c2, c3, c4, c5⟩, hA2, hB2⟩
  rw [e2, e, lgM_H b3, lgX_H a3]
