theorem RB_sh {ks is js : List Nat} {S S1 : vs_S} {law : Nat} {L : lg_L} {cn m : Nat} {K : Nat → Nat} {l : List Nat} {h h2 : hT} {t : Nat} {B : Nat → Int32} {q : qT} (r : RB S law L cn m K l h t B q) (f : vs_fr ks is js S S1) (x : sM S1 m h2) (hk : ks.all (fun k => [].contains k) = true) (hi : is.all (fun k => [84, 85].contains k) = true) : RB S1 law L cn m K l h2 t B q := by
  obtain ⟨h1, h2, h3, h4, h5, h6, h7, h8, h9⟩ := r
  exact ⟨fr_s h1 f (mem_c hk rfl), fr_nm h2 f ⟨mem_c hk rfl, mem_c hi rfl⟩, fr_lM h3 f ⟨⟨mem_c hk rfl, mem_c hk rfl⟩, mem_c hi rfl, mem_c hi rfl, mem_c hi rfl, mem_c hi rfl⟩, fr_s h4 f (mem_c hk rfl), fr_pM h5 f ⟨mem_c hk rfl, mem_c hi rfl⟩, fr_tM h6 f ⟨mem_c hk rfl, mem_c hi rfl⟩, x, fr_tq h8 f ⟨mem_c hk rfl, mem_c hi rfl⟩, fr_lm h9 f ⟨mem_c hk rfl, mem_c hi rfl⟩⟩
theorem RA_sh {ks is js : List Nat} {S S1 : vs_S} {law : Nat} {L : lg_L} {cn m : Nat} {K : Nat → Nat} {l : List Nat} {h h2 : hT} {t : Nat} {B : Nat → Int32} {q : qT} (r : RA S law L cn m K l h t B q) (f : vs_fr ks is js S S1) (x : sX S1 m h2) (hk : ks.all (fun k => [].contains k) = true) (hi : is.all (fun k => [55, 56, 57].contains k) = true) : RA S1 law L cn m K l h2 t B q := by
  obtain ⟨h1, h2, h3, h4, h5, h6, h7, h8, h9, h10, h11⟩ := r
  exact ⟨fr_s h1 f (mem_c hk rfl), nx_fr h2 f (mem_c hi rfl), fr_lX h3 f ⟨⟨mem_c hk rfl, mem_c hk rfl, mem_c hk rfl⟩, mem_c hi rfl, mem_c hi rfl, mem_c hi rfl, mem_c hi rfl⟩, fr_s h4 f (mem_c hk rfl), fr_fx h5 f ⟨⟨mem_c hk rfl, mem_c hk rfl⟩, mem_c hi rfl, mem_c hi rfl⟩, fr_cx h6 f ⟨mem_c hk rfl, mem_c hi rfl, mem_c hi rfl, mem_c hi rfl, mem_c hi rfl, mem_c hi rfl, mem_c hi rfl⟩, fr_pX h7 f ⟨mem_c hk rfl, mem_c hi rfl⟩, fr_tX h8 f ⟨mem_c hk rfl, mem_c hi rfl⟩, x, fr_tp h10 f ⟨mem_c hk rfl, mem_c hi rfl⟩, fr_lx h11 f ⟨mem_c hk rfl, mem_c hi rfl⟩⟩
theorem pr_body (g : vv_G) (hfl : vv_fl g = false) (hN : NQ) (S : vs_S) (hR : RR S) (a : Int32) : vs_KI g yX11_body cX11_body 2 (some .int) 3 [vv_r g 0, .int a] S (fun r S1 => vs_KI g yX12_body cX12_body 2 (some .int) 3 [vv_r g 65, .int a] S1 (fun r2 S2 => r2 = r ∧ RR S2)) := by
  obtain ⟨law, L, cn, m, K, l, h, t, B, q, ⟨c1, c2, c3, c4, c5⟩, hA, hB⟩ := hR
  have hA0 := hA
  have hB0 := hB
  obtain ⟨a1, a2, a3, a4, a5, a6, a7, a8, a9, a10, a11⟩ := hA
  refine vs_mono (c_X11_body g S m K a7 a) (fun r S1 p => ?_)
  obtain ⟨e, pX9, f1⟩ := p
  have F1 : vs_fr [18] [52] [] S S1 := f1
  have hA1 : RA S1 law (L) (cn) (if vs_w a 0 7 = true ∧ ¬ m = 50 then m + 1 else m) (if vs_w a 0 7 = true ∧ ¬ m = 50 then va_up K m a.toNatClampNeg else K) (l) (h) (t) (B) (q) := ⟨fr_s a1 F1 (by decide), nx_fr a2 F1 (by decide), fr_lX a3 F1 (by decide), fr_s a4 F1 (by decide), fr_fx a5 F1 (by decide), fr_cx a6 F1 (by decide), pX9, fr_tX a8 F1 (by decide), sX_m (fr_sX a9 F1 (by decide)) (by split <;> omega), fr_tp a10 F1 (by decide), fr_lx a11 F1 (by decide)⟩
  have hB1 := fr_RB hB0 F1 rfl rfl rfl
  have hB3 := hB1
  obtain ⟨b1, b2, b3, b4, b5, b6, b7, b8, b9⟩ := hB1
  refine vs_mono (c_X12_body g S1 m K b5 a) (fun r2 S2 p2 => ?_)
  obtain ⟨e2, pM9, f2⟩ := p2
  have F2 : vs_fr [37] [82] [] S1 S2 := f2
  have hB2 : RB S2 law (L) (cn) (if vs_w a 0 7 = true ∧ ¬ m = 50 then m + 1 else m) (if vs_w a 0 7 = true ∧ ¬ m = 50 then va_up K m a.toNatClampNeg else K) (l) (h) (t) (B) (q) := ⟨fr_s b1 F2 (by decide), fr_nm b2 F2 (by decide), fr_lM b3 F2 (by decide), fr_s b4 F2 (by decide), pM9, fr_tM b6 F2 (by decide), sM_m (fr_sM b7 F2 (by decide)) (by split <;> omega), fr_tq b8 F2 (by decide), fr_lm b9 F2 (by decide)⟩
  have hA2 := fr_RA hA1 F2 rfl rfl rfl
  refine ⟨?_, law, L, cn, if vs_w a 0 7 = true ∧ ¬ m = 50 then m + 1 else m, if vs_w a 0 7 = true ∧ ¬ m = 50 then va_up K m a.toNatClampNeg else K, l, h, t, B, q, ⟨c1, c2, c3, c4, c5⟩, hA2, hB2⟩
  rw [e2, e]
theorem pr_act (g : vv_G) (hfl : vv_fl g = false) (hN : NQ) (S : vs_S) (hR : RR S) (a : Int32) (b : Int32) (w : Int32) : vs_KI g yX11_act cX11_act 4 (some .int) 26 [vv_r g 0, .int a, .int b, .int w] S (fun r S1 => vs_KI g yX12_act cX12_act 4 (some .int) 9 [vv_r g 65, .int a, .int b, .int w] S1 (fun r2 S2 => r2 = r ∧ RR S2)) := by
  obtain ⟨law, L, cn, m, K, l, h, t, B, q, ⟨c1, c2, c3, c4, c5⟩, hA, hB⟩ := hR
  have hA0 := hA
  have hB0 := hB
  obtain ⟨a1, a2, a3, a4, a5, a6, a7, a8, a9, a10, a11⟩ := hA
  refine vs_mono (c_X11_act g S m K a7 a b w) (fun r S1 p => ?_)
  obtain ⟨e, tX9, f1⟩ := p
  have F1 : vs_fr [19, 20] [53] [] S S1 := f1
  have hA1 : RA S1 law (L) (cn) (m) (K) ((aV m K a b w).2) (h) (t) (B) (q) := ⟨fr_s a1 F1 (by decide), nx_fr a2 F1 (by decide), fr_lX a3 F1 (by decide), fr_s a4 F1 (by decide), fr_fx a5 F1 (by decide), fr_cx a6 F1 (by decide), fr_pX a7 F1 (by decide), tX9, fr_sX a9 F1 (by decide), fr_tp a10 F1 (by decide), fr_lx a11 F1 (by decide)⟩
  have hB1 := fr_RB hB0 F1 rfl rfl rfl
  have hB3 := hB1
  obtain ⟨b1, b2, b3, b4, b5, b6, b7, b8, b9⟩ := hB1
  refine vs_mono (c_X12_act g S1 m K b5 a b w) (fun r2 S2 p2 => ?_)
  obtain ⟨e2, tM9, f2⟩ := p2
  have F2 : vs_fr [38, 39, 40] [83] [] S1 S2 := f2
  have hB2 : RB S2 law (L) (cn) (m) (K) ((aV m K a b w).2) (h) (t) (B) (q) := ⟨fr_s b1 F2 (by decide), fr_nm b2 F2 (by decide), fr_lM b3 F2 (by decide), fr_s b4 F2 (by decide), fr_pM b5 F2 (by decide), tM9, fr_sM b7 F2 (by decide), fr_tq b8 F2 (by decide), fr_lm b9 F2 (by decide)⟩
  have hA2 := fr_RA hA1 F2 rfl rfl rfl
  refine ⟨?_, law, L, cn, m, K, (aV m K a b w).2, h, t, B, q, ⟨c1, c2, c3, c4, Nat.lt_of_le_of_lt aV_len (by omega)⟩, hA2, hB2⟩
  rw [e2, e]
theorem pr_trace (g : vv_G) (hfl : vv_fl g = false) (hN : NQ) (S : vs_S) (hR : RR S) (a : Int32) : vs_KI g yX11_trace cX11_trace 2 (some .int) 2 [vv_r g 0, .int a] S (fun r S1 => vs_KI g yX12_trace cX12_trace 2 (some .int) 1 [vv_r g 65, .int a] S1 (fun r2 S2 => r2 = r ∧ RR S2)) := by
  obtain ⟨law, L, cn, m, K, l, h, t, B, q, ⟨c1, c2, c3, c4, c5⟩, hA, hB⟩ := hR
  have hA0 := hA
  have hB0 := hB
  obtain ⟨a1, a2, a3, a4, a5, a6, a7, a8, a9, a10, a11⟩ := hA
  refine vs_mono (c_X11_trace g S l a8 c5 a) (fun r S1 p => ?_)
  obtain ⟨e, eS⟩ := p
  have F1 : vs_fr [] [] [] S S1 := by rw [eS]; exact vs_fr.rf
  have hA1 := RA_n hA0 F1 rfl rfl rfl
  have hB1 := fr_RB hB0 F1 rfl rfl rfl
  have hB3 := hB1
  obtain ⟨b1, b2, b3, b4, b5, b6, b7, b8, b9⟩ := hB1
  refine vs_mono (c_X12_trace g S1 l b6 c5 a) (fun r2 S2 p2 => ?_)
  obtain ⟨e2, eS2⟩ := p2
  have F2 : vs_fr [] [] [] S1 S2 := by rw [eS2]; exact vs_fr.rf
  have hB2 := RB_n hB3 F2 (by rw [eS2]; exact b2) rfl rfl rfl
  have hA2 := fr_RA hA1 F2 rfl rfl rfl
  refine ⟨?_, law, L, cn, m, K, l, h, t, B, q, ⟨c1, c2, c3, c4, c5⟩, hA2, hB2⟩
  rw [e2, e]
theorem pr_keep (g : vv_G) (hfl : vv_fl g = false) (hN : NQ) (S : vs_S) (hR : RR S) (a : Int32) (b : Int32) : vs_KI g yX11_keep cX11_keep 3 (some .int) 3 [vv_r g 0, .int a, .int b] S (fun r S1 => vs_KI g yX12_keep cX12_keep 3 (some .int) 3 [vv_r g 65, .int a, .int b] S1 (fun r2 S2 => r2 = r ∧ RR S2)) := by
  obtain ⟨law, L, cn, m, K, l, h, t, B, q, ⟨c1, c2, c3, c4, c5⟩, hA, hB⟩ := hR
  have hA0 := hA
  have hB0 := hB
  obtain ⟨a1, a2, a3, a4, a5, a6, a7, a8, a9, a10, a11⟩ := hA
  refine vs_mono (c_X11_keep g S m h a9 a7.1 a7.2.1 a b) (fun r S1 p => ?_)
  obtain ⟨e, x9, f1⟩ := p
  have F1 : vs_fr [] [55, 56] [] S S1 := f1
  have hA1 := RA_sh hA0 F1 x9 rfl rfl
  have hB1 := fr_RB hB0 F1 rfl rfl rfl
  have hB3 := hB1
  obtain ⟨b1, b2, b3, b4, b5, b6, b7, b8, b9⟩ := hB1
  refine vs_mono (c_X12_keep g S1 m h b7 b5.2.1 b5.1 a b) (fun r2 S2 p2 => ?_)
  obtain ⟨e2, x92, f2⟩ := p2
  have F2 : vs_fr [] [84, 85] [] S1 S2 := f2
  have hB2 := RB_sh hB3 F2 x92 rfl rfl
  have hA2 := fr_RA hA1 F2 rfl rfl rfl
  refine ⟨?_, law, L, cn, m, K, l, (k_keep m h a b).2, t, B, q, ⟨c1, c2, c3, c4, c5⟩, hA2, hB2⟩
  rw [e2, e]
theorem pr_row (g : vv_G) (hfl : vv_fl g = false) (hN : NQ) (S : vs_S) (hR : RR S) (a : Int32) (b : Int32) (w : Int32) : vs_KI g yX11_row cX11_row 4 (some .int) 3 [vv_r g 0, .int a, .int b, .int w] S (fun r S1 => vs_KI g yX12_row cX12_row 5 (some .int) 3 [vv_r g 65, .int a, .int b, .int w] S1 (fun r2 S2 => r2 = r ∧ RR S2)) := by
  obtain ⟨law, L, cn, m, K, l, h, t, B, q, ⟨c1, c2, c3, c4, c5⟩, hA, hB⟩ := hR
  have hA0 := hA
  have hB0 := hB
  obtain ⟨a1, a2, a3, a4, a5, a6, a7, a8, a9, a10, a11⟩ := hA
  refine vs_mono (c_X11_row g S m h a9 hfl a b w) (fun r S1 p => ?_)
  obtain ⟨e, x9, f1⟩ := p
  have F1 : vs_fr [] [55, 57] [59, 60, 61, 62, 63, 64] S S1 := f1
  have hA1 := RA_sh hA0 F1 x9 rfl rfl
  have hB1 := fr_RB hB0 F1 rfl rfl rfl
  have hB3 := hB1
  obtain ⟨b1, b2, b3, b4, b5, b6, b7, b8, b9⟩ := hB1
  refine vs_mono (c_X12_row g S1 m h b7 b5.2.1 hfl a b w) (fun r2 S2 p2 => ?_)
  obtain ⟨e2, x92, f2⟩ := p2
  have F2 : vs_fr [] [84, 85] [86] S1 S2 := f2
  have hB2 := RB_sh hB3 F2 x92 rfl rfl
  have hA2 := fr_RA hA1 F2 rfl rfl rfl
  refine ⟨?_, law, L, cn, m, K, l, (k_row h a b w).2, t, B, q, ⟨c1, c2, c3, c4, c5⟩, hA2, hB2⟩
  rw [e2, e]
theorem pr_put (g : vv_G) (hfl : vv_fl g = false) (hN : NQ) (S : vs_S) (hR : RR S) (a : Int32) (b : Int32) (w : Int64) : vs_KI g yX11_put cX11_put 5 (some .int) 4 [vv_r g 0, .int a, .int b, .long w] S (fun r S1 => vs_KI g yX12_put cX12_put 6 (some .int) 4 [vv_r g 65, .int a, .int b, .long w] S1 (fun r2 S2 => r2 = r ∧ RR S2)) := by
  obtain ⟨law, L, cn, m, K, l, h, t, B, q, ⟨c1, c2, c3, c4, c5⟩, hA, hB⟩ := hR
  have hA0 := hA
  have hB0 := hB
  obtain ⟨a1, a2, a3, a4, a5, a6, a7, a8, a9, a10, a11⟩ := hA
  refine vs_mono (c_X11_put g S m h a9 hfl a b w) (fun r S1 p => ?_)
  obtain ⟨e, x9, f1⟩ := p
  have F1 : vs_fr [] [] [59, 60, 61, 62, 63, 64] S S1 := f1
  have hA1 := RA_sh hA0 F1 x9 rfl rfl
  have hB1 := fr_RB hB0 F1 rfl rfl rfl
  have hB3 := hB1
  obtain ⟨b1, b2, b3, b4, b5, b6, b7, b8, b9⟩ := hB1
  refine vs_mono (c_X12_put g S1 m h b7 b5.2.1 hfl a b w) (fun r2 S2 p2 => ?_)
  obtain ⟨e2, x92, f2⟩ := p2
  have F2 : vs_fr [] [] [86] S1 S2 := f2
  have hB2 := RB_sh hB3 F2 x92 rfl rfl
  have hA2 := fr_RA hA1 F2 rfl rfl rfl
  refine ⟨?_, law, L, cn, m, K, l, (k_put h a b w).2, t, B, q, ⟨c1, c2, c3, c4, c5⟩, hA2, hB2⟩
  rw [e2, e]
theorem pr_shift (g : vv_G) (hfl : vv_fl g = false) (hN : NQ) (S : vs_S) (hR : RR S) (a : Int32) (b : Int32) (c : Int32) (d : Int32) (w : Int32) : vs_KI g yX11_shift cX11_shift 6 (some .int) 3 [vv_r g 0, .int a, .int b, .int c, .int d, .int w] S (fun r S1 => vs_KI g yX12_shift cX12_shift 7 (some .int) 3 [vv_r g 65, .int a, .int b, .int c, .int d, .int w] S1 (fun r2 S2 => r2 = r ∧ RR S2)) := by
  obtain ⟨law, L, cn, m, K, l, h, t, B, q, ⟨c1, c2, c3, c4, c5⟩, hA, hB⟩ := hR
  have hA0 := hA
  have hB0 := hB
  obtain ⟨a1, a2, a3, a4, a5, a6, a7, a8, a9, a10, a11⟩ := hA
  refine vs_mono (c_X11_shift g S m h a9 hfl a b c d w) (fun r S1 p => ?_)
  obtain ⟨e, x9, f1⟩ := p
  have F1 : vs_fr [] [] [59, 60, 61, 62, 63, 64] S S1 := f1
  have hA1 := RA_sh hA0 F1 x9 rfl rfl
  have hB1 := fr_RB hB0 F1 rfl rfl rfl
  have hB3 := hB1
  obtain ⟨b1, b2, b3, b4, b5, b6, b7, b8, b9⟩ := hB1
  refine vs_mono (c_X12_shift g S1 m h b7 b5.2.1 hfl a b c d w) (fun r2 S2 p2 => ?_)
  obtain ⟨e2, x92, f2⟩ := p2
  have F2 : vs_fr [] [] [86, 87] S1 S2 := f2
  have hB2 := RB_sh hB3 F2 x92 rfl rfl
  have hA2 := fr_RA hA1 F2 rfl rfl rfl
  refine ⟨?_, law, L, cn, m, K, l, (k_sh h a b c d w).2, t, B, q, ⟨c1, c2, c3, c4, c5⟩, hA2, hB2⟩
  rw [e2, e]
theorem pr_element (g : vv_G) (hfl : vv_fl g = false) (hN : NQ) (S : vs_S) (hR : RR S) (a : Int32) (b : Int32) : vs_KL g yX11_element cX11_element 3 (some .long) 4 [vv_r g 0, .int a, .int b] S (fun r S1 => vs_KL g yX12_element cX12_element 3 (some .long) 4 [vv_r g 65, .int a, .int b] S1 (fun r2 S2 => r2 = r ∧ RR S2)) := by
  obtain ⟨law, L, cn, m, K, l, h, t, B, q, ⟨c1, c2, c3, c4, c5⟩, hA, hB⟩ := hR
  have hA0 := hA
  have hB0 := hB
  obtain ⟨a1, a2, a3, a4, a5, a6, a7, a8, a9, a10, a11⟩ := hA
  refine vs_monoL (c_X11_element g S m h a9 a b) (fun r S1 p => ?_)
  obtain ⟨e, eS⟩ := p
  have F1 : vs_fr [] [] [] S S1 := by rw [eS]; exact vs_fr.rf
  have hA1 := RA_n hA0 F1 rfl rfl rfl
  have hB1 := fr_RB hB0 F1 rfl rfl rfl
  have hB3 := hB1
  obtain ⟨b1, b2, b3, b4, b5, b6, b7, b8, b9⟩ := hB1
  refine vs_monoL (c_X12_element g S1 m h b7 b5.2.1 a b) (fun r2 S2 p2 => ?_)
  obtain ⟨e2, eS2⟩ := p2
  have F2 : vs_fr [] [] [] S1 S2 := by rw [eS2]; exact vs_fr.rf
  have hB2 := RB_n hB3 F2 (by rw [eS2]; exact b2) rfl rfl rfl
  have hA2 := fr_RA hA1 F2 rfl rfl rfl
  refine ⟨?_, law, L, cn, m, K, l, h, t, B, q, ⟨c1, c2, c3, c4, c5⟩, hA2, hB2⟩
  rw [e2, e]
theorem pr_taken (g : vv_G) (hfl : vv_fl g = false) (hN : NQ) (S : vs_S) (hR : RR S) (a : Int32) (b : Int32) : vs_KI g yX11_taken cX11_taken 3 (some .int) 3 [vv_r g 0, .int a, .int b] S (fun r S1 => vs_KI g yX12_taken cX12_taken 4 (some .int) 3 [vv_r g 65, .int a, .int b] S1 (fun r2 S2 => r2 = r ∧ RR S2)) := by
  obtain ⟨law, L, cn, m, K, l, h, t, B, q, ⟨c1, c2, c3, c4, c5⟩, hA, hB⟩ := hR
  have hA0 := hA
  have hB0 := hB
  obtain ⟨a1, a2, a3, a4, a5, a6, a7, a8, a9, a10, a11⟩ := hA
  refine vs_mono (c_X11_taken g S m h a9 K a7 a b) (fun r S1 p => ?_)
  obtain ⟨e, eS⟩ := p
  have F1 : vs_fr [] [] [] S S1 := by rw [eS]; exact vs_fr.rf
  have hA1 := RA_n hA0 F1 rfl rfl rfl
  have hB1 := fr_RB hB0 F1 rfl rfl rfl
  have hB3 := hB1
  obtain ⟨b1, b2, b3, b4, b5, b6, b7, b8, b9⟩ := hB1
  refine vs_mono (c_X12_taken g S1 m h b7 b5.2.1 K b5 a b) (fun r2 S2 p2 => ?_)
  obtain ⟨e2, eS2⟩ := p2
  have F2 : vs_fr [] [] [] S1 S2 := by rw [eS2]; exact vs_fr.rf
  have hB2 := RB_n hB3 F2 (by rw [eS2]; exact b2) rfl rfl rfl
  have hA2 := fr_RA hA1 F2 rfl rfl rfl
  refine ⟨?_, law, L, cn, m, K, l, h, t, B, q, ⟨c1, c2, c3, c4, c5⟩, hA2, hB2⟩
  rw [e2, e]
theorem pr_looked (g : vv_G) (hfl : vv_fl g = false) (hN : NQ) (S : vs_S) (hR : RR S) (a : Int32) (b : Int32) (w : Int32) : vs_KI g yX11_looked cX11_looked 4 (some .int) 6 [vv_r g 0, .int a, .int b, .int w] S (fun r S1 => vs_KI g yX12_looked cX12_looked 7 (some .int) 6 [vv_r g 65, .int a, .int b, .int w] S1 (fun r2 S2 => r2 = r ∧ RR S2)) := by
  obtain ⟨law, L, cn, m, K, l, h, t, B, q, ⟨c1, c2, c3, c4, c5⟩, hA, hB⟩ := hR
  have hA0 := hA
  have hB0 := hB
  obtain ⟨a1, a2, a3, a4, a5, a6, a7, a8, a9, a10, a11⟩ := hA
  refine vs_mono (c_X11_looked g S m h a9 a2 law c1 a1 a b w) (fun r S1 p => ?_)
  obtain ⟨e, eS⟩ := p
  have F1 : vs_fr [] [] [] S S1 := by rw [eS]; exact vs_fr.rf
  have hA1 := RA_n hA0 F1 rfl rfl rfl
  have hB1 := fr_RB hB0 F1 rfl rfl rfl
  have hB3 := hB1
  obtain ⟨b1, b2, b3, b4, b5, b6, b7, b8, b9⟩ := hB1
  refine vs_mono (c_X12_looked g S1 m h b7 b5.2.1 hfl law c1 ⟨nm_to.rf b2, b1⟩ a b w) (fun r2 S2 p2 => ?_)
  obtain ⟨e2, t2⟩ := p2
  have F2 : vs_fr [24] [70] [] S1 S2 := t2.1.1
  have hB2 := RB_n hB3 F2 t2.1.2 rfl rfl rfl
  have hA2 := fr_RA hA1 F2 rfl rfl rfl
  refine ⟨?_, law, L, cn, m, K, l, h, t, B, q, ⟨c1, c2, c3, c4, c5⟩, hA2, hB2⟩
  rw [e2, e, np_eqf hN law c1]
theorem pr_feed (g : vv_G) (hfl : vv_fl g = false) (hN : NQ) (S : vs_S) (hR : RR S) (a : Int32) (b : Int32) : vs_KI g yX11_feed cX11_feed 3 (some .int) 2 [vv_r g 0, .int a, .int b] S (fun r S1 => vs_KI g yX12_feed cX12_feed 4 (some .int) 2 [vv_r g 65, .int a, .int b] S1 (fun r2 S2 => r2 = r ∧ RR S2)) := by
  obtain ⟨law, L, cn, m, K, l, h, t, B, q, ⟨c1, c2, c3, c4, c5⟩, hA, hB⟩ := hR
  have hA0 := hA
  have hB0 := hB
  obtain ⟨a1, a2, a3, a4, a5, a6, a7, a8, a9, a10, a11⟩ := hA
  refine vs_mono (c_X11_feed g S t B a10 a b) (fun r S1 p => ?_)
  obtain ⟨e, x9, f1⟩ := p
  have F1 : vs_fr [14] [49] [] S S1 := f1
  have hA1 : RA S1 law (L) (cn) (m) (K) (l) (h) ((k_fd t B a b).2.1) ((k_fd t B a b).2.2) (q) := ⟨fr_s a1 F1 (by decide), nx_fr a2 F1 (by decide), fr_lX a3 F1 (by decide), fr_s a4 F1 (by decide), fr_fx a5 F1 (by decide), fr_cx a6 F1 (by decide), fr_pX a7 F1 (by decide), fr_tX a8 F1 (by decide), fr_sX a9 F1 (by decide), x9, fr_lx a11 F1 (by decide)⟩
  have hB1 := fr_RB hB0 F1 rfl rfl rfl
  have hB3 := hB1
  obtain ⟨b1, b2, b3, b4, b5, b6, b7, b8, b9⟩ := hB1
  refine vs_mono (c_X12_feed g S1 t B b8 a b) (fun r2 S2 p2 => ?_)
  obtain ⟨e2, x92, f2⟩ := p2
  have F2 : vs_fr [27] [76] [] S1 S2 := f2
  have hB2 : RB S2 law (L) (cn) (m) (K) (l) (h) ((k_fd t B a b).2.1) ((k_fd t B a b).2.2) (q) := ⟨fr_s b1 F2 (by decide), fr_nm b2 F2 (by decide), fr_lM b3 F2 (by decide), fr_s b4 F2 (by decide), fr_pM b5 F2 (by decide), fr_tM b6 F2 (by decide), fr_sM b7 F2 (by decide), x92, fr_lm b9 F2 (by decide)⟩
  have hA2 := fr_RA hA1 F2 rfl rfl rfl
  refine ⟨?_, law, L, cn, m, K, l, h, (k_fd t B a b).2.1, (k_fd t B a b).2.2, q, ⟨c1, c2, c3, c4, c5⟩, hA2, hB2⟩
  rw [e2, e]
theorem pr_seller (g : vv_G) (hfl : vv_fl g = false) (hN : NQ) (S : vs_S) (hR : RR S) : vs_KI g yX11_seller cX11_seller 2 (some .int) 60 [vv_r g 0] S (fun r S1 => vs_KI g yX12_seller cX12_seller 4 (some .int) 46 [vv_r g 65] S1 (fun r2 S2 => r2 = r ∧ RR S2)) := by
  obtain ⟨law, L, cn, m, K, l, h, t, B, q, ⟨c1, c2, c3, c4, c5⟩, hA, hB⟩ := hR
  have hA0 := hA
  have hB0 := hB
  obtain ⟨a1, a2, a3, a4, a5, a6, a7, a8, a9, a10, a11⟩ := hA
  refine vs_mono (c_X11_seller g S t B a10) (fun r S1 p => ?_)
  obtain ⟨e, f1, z14, y1, n1⟩ := p
  rw [tq_X (ah_ab t B)] at e y1 n1
  have F1 : vs_fr [10, 14, 15, 16, 17] [46, 50] [] S S1 := f1
  have sl : slX S1 (cdq (if (pzX (ab t B) t).1 = true then some (t, B) else q)) := by
    by_cases z : (pzX (ab t B) t).1 = true
    · rw [if_pos z]
      exact y1 z
    · rw [if_neg z]
      obtain ⟨n2, n3⟩ := n1 z
      exact ⟨n2.trans a11.1, a11.2.1, fun i hi => by rw [n3]; exact a11.2.2 i hi⟩
  have hA1 : RA S1 law (L) (cn) (m) (K) (l) (h) (0) (B) ((if (pzX (ab t B) t).1 = true then some (t, B) else q)) := ⟨fr_s a1 F1 (by decide), nx_fr a2 F1 (by decide), fr_lX a3 F1 (by decide), fr_s a4 F1 (by decide), fr_fx a5 F1 (by decide), fr_cx a6 F1 (by decide), fr_pX a7 F1 (by decide), fr_tX a8 F1 (by decide), fr_sX a9 F1 (by decide), ⟨z14, by omega, fun i hi => absurd hi (Nat.not_lt_zero i)⟩, sl⟩
  have hB1 := fr_RB hB0 F1 rfl rfl rfl
  have hB3 := hB1
  obtain ⟨b1, b2, b3, b4, b5, b6, b7, b8, b9⟩ := hB1
  refine vs_mono (c_X12_seller g S1 t B b8) (fun r2 S2 p2 => ?_)
  obtain ⟨e2, f2, z27, y2, n2⟩ := p2
  have F2 : vs_fr [27, 28, 29, 30, 31, 32, 33] [77] [] S1 S2 := f2
  have sm : slM S2 (if (pzX (ab t B) t).1 = true then some (t, B) else q) := by
    by_cases z : (pzX (ab t B) t).1 = true
    · rw [if_pos z]
      exact ⟨(y2 z).1, b8.2.1, (y2 z).2, z⟩
    · rw [if_neg z]
      obtain ⟨n3, n4⟩ := n2 z
      cases q with
      | none => exact n3.trans b9
      | some q9 => exact ⟨n3.trans b9.1, b9.2.1, fun i hi => by rw [n4]; exact b9.2.2.1 i hi, b9.2.2.2⟩
  have hB2 : RB S2 law (L) (cn) (m) (K) (l) (h) (0) (B) ((if (pzX (ab t B) t).1 = true then some (t, B) else q)) := ⟨fr_s b1 F2 (by decide), fr_nm b2 F2 (by decide), fr_lM b3 F2 (by decide), fr_s b4 F2 (by decide), fr_pM b5 F2 (by decide), fr_tM b6 F2 (by decide), fr_sM b7 F2 (by decide), ⟨z27, by omega, fun i hi => absurd hi (Nat.not_lt_zero i)⟩, sm⟩
  have hA2 := fr_RA hA1 F2 rfl rfl rfl
  refine ⟨?_, law, L, cn, m, K, l, h, 0, B, (if (pzX (ab t B) t).1 = true then some (t, B) else q), ⟨c1, c2, c3, c4, c5⟩, hA2, hB2⟩
  rw [e2, e]
theorem pr_chosen (g : vv_G) (hfl : vv_fl g = false) (hN : NQ) (S : vs_S) (hR : RR S) (a : Int32) (b : Int32) (w : Int32) : vs_KI g yX11_chosen cX11_chosen 4 (some .int) 7 [vv_r g 0, .int a, .int b, .int w] S (fun r S1 => vs_KI g yX12_chosen cX12_chosen 10 (some .int) 46 [vv_r g 65, .int a, .int b, .int w] S1 (fun r2 S2 => r2 = r ∧ RR S2)) := by
  obtain ⟨law, L, cn, m, K, l, h, t, B, q, ⟨c1, c2, c3, c4, c5⟩, hA, hB⟩ := hR
  have hA0 := hA
  have hB0 := hB
  obtain ⟨a1, a2, a3, a4, a5, a6, a7, a8, a9, a10, a11⟩ := hA
  refine vs_mono (c_X11_chosen g S a2 law c1 a1 (cdq q) a11 a b w) (fun r S1 p => ?_)
  obtain ⟨e, f1⟩ := p
  have F1 : vs_fr [11, 12, 13] [47] [] S S1 := f1
  have hA1 := RA_n hA0 F1 rfl rfl rfl
  have hB1 := fr_RB hB0 F1 rfl rfl rfl
  have hB3 := hB1
  obtain ⟨b1, b2, b3, b4, b5, b6, b7, b8, b9⟩ := hB1
  refine vs_mono (c_X12_chosen g S1 hfl b2 law c1 b1 q b9 a b w) (fun r2 S2 p2 => ?_)
  obtain ⟨e2, f2, n2⟩ := p2
  have F2 : vs_fr [24, 29, 30, 31, 32, 33] [70, 78] [] S1 S2 := f2
  have hB2 := RB_n hB3 F2 n2 rfl rfl rfl
  have hA2 := fr_RA hA1 F2 rfl rfl rfl
  refine ⟨?_, law, L, cn, m, K, l, h, t, B, q, ⟨c1, c2, c3, c4, c5⟩, hA2, hB2⟩
  have es : (fun N => mch N (cdq q) true []) = sv q := funext (fun N => mch_sv b9.ok N)
  rw [e2, e, np_eqf hN law c1, es]
theorem pr_count (g : vv_G) (hfl : vv_fl g = false) (hN : NQ) (S : vs_S) (hR : RR S) (a : Int32) : vs_KI g yX11_count cX11_count 2 (some .int) 3 [vv_r g 0, .int a] S (fun r S1 => vs_KI g yX12_count cX12_count 4 (some .int) 1 [vv_r g 65, .int a] S1 (fun r2 S2 => r2 = r ∧ RR S2)) := by
  obtain ⟨law, L, cn, m, K, l, h, t, B, q, ⟨c1, c2, c3, c4, c5⟩, hA, hB⟩ := hR
  have hA0 := hA
  have hB0 := hB
  obtain ⟨a1, a2, a3, a4, a5, a6, a7, a8, a9, a10, a11⟩ := hA
  refine vs_mono (c_X11_count g S a) (fun r S1 p => ?_)
  obtain ⟨e, eS⟩ := p
  have F1 : vs_fr [] [] [] S S1 := by rw [eS]; exact vs_fr.rf
  have hA1 := RA_n hA0 F1 rfl rfl rfl
  have hB1 := fr_RB hB0 F1 rfl rfl rfl
  have hB3 := hB1
  obtain ⟨b1, b2, b3, b4, b5, b6, b7, b8, b9⟩ := hB1
  refine vs_mono (c_X12_count g S1 a) (fun r2 S2 p2 => ?_)
  obtain ⟨e2, eS2⟩ := p2
  have F2 : vs_fr [] [] [] S1 S2 := by rw [eS2]; exact vs_fr.rf
  have hB2 := RB_n hB3 F2 (by rw [eS2]; exact b2) rfl rfl rfl
  have hA2 := fr_RA hA1 F2 rfl rfl rfl
  refine ⟨?_, law, L, cn, m, K, l, h, t, B, q, ⟨c1, c2, c3, c4, c5⟩, hA2, hB2⟩
  rw [e2, e, a1, a4, lgX_H a3, a10.1, lgX_d a3, a7.1, a8.1, b1, b4, lgM_H b3, b8.1, lgM_d b3, b5.1, b6.1]
