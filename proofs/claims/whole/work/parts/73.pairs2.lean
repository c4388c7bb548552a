theorem cdq_len {q : qT} (h : okq q) : (cdq q).length ≤ 121 := by
  cases q with
  | none => decide
  | some p =>
    obtain ⟨L, B⟩ := p
    have e := pzX_ok h.2
    have h1 := pOk_T (ab_bl (L := L) (B := B)) 120 0 (Nat.zero_le _)
    have h2 := h1.2 (by rw [← e]; exact h.2)
    have h3 := h.1
    show (pzX (ab L B) L).2.2.1.length ≤ 121
    rw [e]
    omega
theorem lg_coin_ok {L : lg_L} {c : Nat} {w m : Int32} (h : lg_ok L) : lg_ok (lg_coin L c w m) := by
  obtain ⟨H, A, B, C, d, n⟩ := L
  exact h
theorem lg_coin_in {L : lg_L} {c : Nat} {w m : Int32} (h : lg_in L) (hc : c < 16) (hw : vs_w w 1 999 = true) (hm : vs_w m 0 9 = true) : lg_in (lg_coin L c w m) := by
  obtain ⟨H, A, B, C, d, n⟩ := L
  obtain ⟨h1, h2⟩ := h
  obtain ⟨x, _, hx, ex⟩ := vs_wN (a := 1) (b := 999) (by omega) (by omega) hw
  obtain ⟨y, _, hy, ey⟩ := vs_wN (a := 0) (b := 9) (by omega) (by omega) hm
  exact ⟨lg_updin (lg_updin h1 ⟨x, ex, by omega, fun z => by omega, fun _ => hx, fun z => by omega⟩) ⟨y, ey, by omega, fun z => by omega, fun _ => by omega, fun _ => hy⟩, h2⟩
theorem lg_db {a : Int32} (h : db_c a = true) : db_pp a < 64 ∧ ¬ db_pp a % 9 = 0 := by
  obtain ⟨k, k0, k1, k2, k3, k4⟩ := db_p h
  subst k1
  unfold db_pp
  rw [xn_cl (by omega)]
  omega
theorem lg_dbv {a v : Int32} (h : db_c a = true) (hv : vs_w v 0 9999 = true) : lg_vr (db_pp a) v := by
  obtain ⟨x, _, hx, ex⟩ := vs_wN (a := 0) (b := 9999) (by omega) (by omega) hv
  have h1 := lg_db h
  exact ⟨x, ex, hx, fun _ z => absurd z h1.2, fun z => by omega, fun z => by omega⟩
theorem lg_mcv {cn : Nat} {c w v : Int32} (hcn : cn ≤ 16) (h : lg_mc cn c w v = true) : lg_mp c w < 96 ∧ lg_vr (lg_mp c w) v := by
  unfold lg_mc at h
  rw [Bool.and_eq_true, Bool.and_eq_true] at h
  obtain ⟨⟨h1, h2⟩, h3⟩ := h
  have hc : c.toNatClampNeg < 16 := by
    cases cn with
    | zero =>
      have := vs_wT h1
      exact absurd (Int32.le_trans this.1 this.2) (by decide)
    | succ k =>
      rw [nI_pred] at h1
      obtain ⟨x, _, hx, ex⟩ := vs_wN (a := 0) (b := k) (by omega) (by omega) h1
      rw [ex, xn_cl (by omega)]
      omega
  unfold lg_mp
  by_cases z : w = 0
  · rw [if_pos z] at h3 ⊢
    obtain ⟨x, _, hx, ex⟩ := vs_wN (a := 1) (b := 999) (by omega) (by omega) h3
    exact ⟨by omega, x, ex, by omega, fun y => by omega, fun _ => hx, fun y => by omega⟩
  · rw [if_neg z] at h3 ⊢
    obtain ⟨x, _, hx, ex⟩ := vs_wN (a := 0) (b := 9) (by omega) (by omega) h3
    exact ⟨by omega, x, ex, by omega, fun y => by omega, fun _ => by omega, fun _ => hx⟩
theorem pr_force (g : vv_G) (hfl : vv_fl g = false) (hN : NQ) (S : vs_S) (hR : RR S) (a : Int32) : vs_KI g yX11_force cX11_force 3 (some .int) 2 [vv_r g 0, .int a] S (fun r S1 => vs_KI g yX12_force cX12_force 3 (some .int) 2 [vv_r g 65, .int a] S1 (fun r2 S2 => r2 = r ∧ RR S2)) := by
  obtain ⟨law, L, cn, m, K, l, h, t, B, q, ⟨c1, c2, c3, c4, c5⟩, hA, hB⟩ := hR
  have hA0 := hA
  have hB0 := hB
  obtain ⟨a1, a2, a3, a4, a5, a6, a7, a8, a9, a10, a11⟩ := hA
  refine vs_mono (c_X11_force g S a) (fun r S1 p => ?_)
  obtain ⟨e, eS⟩ := p
  have F1 : vs_fr [0] [] [] S S1 := by
    rw [eS]
    split
    · exact vs_fr.rf.us (by decide)
    · exact vs_fr.rf
  obtain ⟨law2, hlaw, hl2⟩ : ∃ law2, law2 ≤ 3 ∧ nI law2 = if vs_w a 0 3 = true then a else nI law := by
    by_cases w : vs_w a 0 3 = true
    · obtain ⟨x, _, hx, ex⟩ := vs_wN (a := 0) (b := 3) (by omega) (by omega) w
      exact ⟨x, hx, by rw [if_pos w, ex]⟩
    · exact ⟨law, c1, by rw [if_neg w]⟩
  have hA1 : RA S1 law2 L cn m K l h t B q := ⟨by
    rw [hl2, eS]
    split
    · rfl
    · exact a1, nx_fr a2 F1 (by decide), fr_lX a3 F1 (by decide), fr_s a4 F1 (by decide), fr_fx a5 F1 (by decide), fr_cx a6 F1 (by decide), fr_pX a7 F1 (by decide), fr_tX a8 F1 (by decide), fr_sX a9 F1 (by decide), fr_tp a10 F1 (by decide), fr_lx a11 F1 (by decide)⟩
  have hB1 := fr_RB hB0 F1 rfl rfl rfl
  have hB3 := hB1
  obtain ⟨b1, b2, b3, b4, b5, b6, b7, b8, b9⟩ := hB1
  refine vs_mono (c_X12_force g S1 a) (fun r2 S2 p2 => ?_)
  obtain ⟨e2, eS2⟩ := p2
  have F2 : vs_fr [23] [] [] S1 S2 := by
    rw [eS2]
    split
    · exact vs_fr.rf.us (by decide)
    · exact vs_fr.rf
  have hB2 : RB S2 law2 L cn m K l h t B q := ⟨by
    rw [hl2, eS2]
    split
    · rfl
    · exact b1, fr_nm b2 F2 (by decide), fr_lM b3 F2 (by decide), fr_s b4 F2 (by decide), fr_pM b5 F2 (by decide), fr_tM b6 F2 (by decide), fr_sM b7 F2 (by decide), fr_tq b8 F2 (by decide), fr_lm b9 F2 (by decide)⟩
  have hA2 := fr_RA hA1 F2 rfl rfl rfl
  refine ⟨?_, law2, L, cn, m, K, l, h, t, B, q, ⟨hlaw, c2, c3, c4, c5⟩, hA2, hB2⟩
  rw [e2, e, a1, b1]
theorem pr_debt (g : vv_G) (hfl : vv_fl g = false) (hN : NQ) (S : vs_S) (hR : RR S) (a : Int32) (b : Int32) : vs_KI g yX11_debt cX11_debt 3 (some .int) 3 [vv_r g 0, .int a, .int b] S (fun r S1 => vs_KI g yX12_debt cX12_debt 3 (some .int) 4 [vv_r g 65, .int a, .int b] S1 (fun r2 S2 => r2 = r ∧ RR S2)) := by
  obtain ⟨law, L, cn, m, K, l, h, t, B, q, ⟨c1, c2, c3, c4, c5⟩, hA, hB⟩ := hR
  have hA0 := hA
  have hB0 := hB
  obtain ⟨a1, a2, a3, a4, a5, a6, a7, a8, a9, a10, a11⟩ := hA
  refine vs_mono (c_X11_debt g S L a3 c2 a b) (fun r S1 p => ?_)
  obtain ⟨e, lX, f1⟩ := p
  have F1 : vs_fr [6, 7, 8] [19, 20, 21, 22] [] S S1 := f1
  have hA1 : RA S1 law (if (db_c a && vs_w b 0 9999) = true then lg_bec L (db_pp a) b else L) cn m K l h t B q := ⟨fr_s a1 F1 (by decide), nx_fr a2 F1 (by decide), lX, fr_s a4 F1 (by decide), fr_fx a5 F1 (by decide), fr_cx a6 F1 (by decide), fr_pX a7 F1 (by decide), fr_tX a8 F1 (by decide), fr_sX a9 F1 (by decide), fr_tp a10 F1 (by decide), fr_lx a11 F1 (by decide)⟩
  have hB1 := fr_RB hB0 F1 rfl rfl rfl
  have hB3 := hB1
  obtain ⟨b1, b2, b3, b4, b5, b6, b7, b8, b9⟩ := hB1
  refine vs_mono (c_X12_debt g S1 L b3 c2 a b) (fun r2 S2 p2 => ?_)
  obtain ⟨e2, lM, f2⟩ := p2
  have F2 : vs_fr [21, 22] [66, 67, 68, 69] [] S1 S2 := f2
  have hB2 : RB S2 law (if (db_c a && vs_w b 0 9999) = true then lg_bec L (db_pp a) b else L) cn m K l h t B q := ⟨fr_s b1 F2 (by decide), fr_nm b2 F2 (by decide), lM, fr_s b4 F2 (by decide), fr_pM b5 F2 (by decide), fr_tM b6 F2 (by decide), fr_sM b7 F2 (by decide), fr_tq b8 F2 (by decide), fr_lm b9 F2 (by decide)⟩
  have hA2 := fr_RA hA1 F2 rfl rfl rfl
  refine ⟨?_, law, if (db_c a && vs_w b 0 9999) = true then lg_bec L (db_pp a) b else L, cn, m, K, l, h, t, B, q, ⟨c1, (by
    split
    · rename_i w
      rw [Bool.and_eq_true] at w
      exact lg_bec_ok c2 (by have := (lg_db w.1).1; omega)
    · exact c2), (by
    split
    · rename_i w
      rw [Bool.and_eq_true] at w
      exact lg_bec_in c3 c2 (by have := (lg_db w.1).1; omega) (lg_dbv w.1 w.2)
    · exact c3), c4, c5⟩, hA2, hB2⟩
  rw [e2, e]
theorem pr_mint (g : vv_G) (hfl : vv_fl g = false) (hN : NQ) (S : vs_S) (hR : RR S) (a : Int32) (b : Int32) (w : Int32) : vs_KI g yX11_mint cX11_mint 4 (some .int) 3 [vv_r g 0, .int a, .int b, .int w] S (fun r S1 => vs_KI g yX12_mint cX12_mint 4 (some .int) 4 [vv_r g 65, .int a, .int b, .int w] S1 (fun r2 S2 => r2 = r ∧ RR S2)) := by
  obtain ⟨law, L, cn, m, K, l, h, t, B, q, ⟨c1, c2, c3, c4, c5⟩, hA, hB⟩ := hR
  have hA0 := hA
  have hB0 := hB
  obtain ⟨a1, a2, a3, a4, a5, a6, a7, a8, a9, a10, a11⟩ := hA
  refine vs_mono (c_X11_mint g S L a3 c2 cn c4 a4 a b w) (fun r S1 p => ?_)
  obtain ⟨e, lX, f1⟩ := p
  have F1 : vs_fr [6, 7, 8] [19, 20, 21, 22] [] S S1 := f1
  have hA1 : RA S1 law (if lg_mc cn a b w = true then lg_bec L (lg_mp a b) w else L) cn m K l h t B q := ⟨fr_s a1 F1 (by decide), nx_fr a2 F1 (by decide), lX, fr_s a4 F1 (by decide), fr_fx a5 F1 (by decide), fr_cx a6 F1 (by decide), fr_pX a7 F1 (by decide), fr_tX a8 F1 (by decide), fr_sX a9 F1 (by decide), fr_tp a10 F1 (by decide), fr_lx a11 F1 (by decide)⟩
  have hB1 := fr_RB hB0 F1 rfl rfl rfl
  have hB3 := hB1
  obtain ⟨b1, b2, b3, b4, b5, b6, b7, b8, b9⟩ := hB1
  refine vs_mono (c_X12_mint g S1 L b3 c2 cn c4 b4 a b w) (fun r2 S2 p2 => ?_)
  obtain ⟨e2, lM, f2⟩ := p2
  have F2 : vs_fr [21, 22] [66, 67, 68, 69] [] S1 S2 := f2
  have hB2 : RB S2 law (if lg_mc cn a b w = true then lg_bec L (lg_mp a b) w else L) cn m K l h t B q := ⟨fr_s b1 F2 (by decide), fr_nm b2 F2 (by decide), lM, fr_s b4 F2 (by decide), fr_pM b5 F2 (by decide), fr_tM b6 F2 (by decide), fr_sM b7 F2 (by decide), fr_tq b8 F2 (by decide), fr_lm b9 F2 (by decide)⟩
  have hA2 := fr_RA hA1 F2 rfl rfl rfl
  refine ⟨?_, law, if lg_mc cn a b w = true then lg_bec L (lg_mp a b) w else L, cn, m, K, l, h, t, B, q, ⟨c1, (by
    split
    · rename_i w9
      exact lg_bec_ok c2 (lg_mcv c4 w9).1
    · exact c2), (by
    split
    · rename_i w9
      exact lg_bec_in c3 c2 (lg_mcv c4 w9).1 (lg_mcv c4 w9).2
    · exact c3), c4, c5⟩, hA2, hB2⟩
  rw [e2, e]
theorem pr_undo (g : vv_G) (hfl : vv_fl g = false) (hN : NQ) (S : vs_S) (hR : RR S) : vs_KI g yX11_undo cX11_undo 1 (some .int) 3 [vv_r g 0] S (fun r S1 => vs_KI g yX12_undo cX12_undo 1 (some .int) 1 [vv_r g 65] S1 (fun r2 S2 => r2 = r ∧ RR S2)) := by
  obtain ⟨law, L, cn, m, K, l, h, t, B, q, ⟨c1, c2, c3, c4, c5⟩, hA, hB⟩ := hR
  have hA0 := hA
  have hB0 := hB
  obtain ⟨a1, a2, a3, a4, a5, a6, a7, a8, a9, a10, a11⟩ := hA
  refine vs_mono (c_X11_undo g S L a3 c2) (fun r S1 p => ?_)
  obtain ⟨e, lX, f1⟩ := p
  have F1 : vs_fr [6, 7, 8] [19, 20, 21, 22] [] S S1 := f1
  have hA1 : RA S1 law (if L.2.2.2.2.1 = 0 then L else lg_und L) cn m K l h t B q := ⟨fr_s a1 F1 (by decide), nx_fr a2 F1 (by decide), lX, fr_s a4 F1 (by decide), fr_fx a5 F1 (by decide), fr_cx a6 F1 (by decide), fr_pX a7 F1 (by decide), fr_tX a8 F1 (by decide), fr_sX a9 F1 (by decide), fr_tp a10 F1 (by decide), fr_lx a11 F1 (by decide)⟩
  have hB1 := fr_RB hB0 F1 rfl rfl rfl
  have hB3 := hB1
  obtain ⟨b1, b2, b3, b4, b5, b6, b7, b8, b9⟩ := hB1
  refine vs_mono (c_X12_undo g S1 L.1 L.2.1 L.2.2.1 L.2.2.2.1 L.2.2.2.2.1 L.2.2.2.2.2 b3 c2) (fun r2 S2 p2 => ?_)
  obtain ⟨e2, lM, f2⟩ := p2
  have F2 : vs_fr [21, 22] [66, 67, 68, 69] [] S1 S2 := f2
  have hB2 : RB S2 law (if L.2.2.2.2.1 = 0 then L else lg_und L) cn m K l h t B q := ⟨fr_s b1 F2 (by decide), fr_nm b2 F2 (by decide), lM, fr_s b4 F2 (by decide), fr_pM b5 F2 (by decide), fr_tM b6 F2 (by decide), fr_sM b7 F2 (by decide), fr_tq b8 F2 (by decide), fr_lm b9 F2 (by decide)⟩
  have hA2 := fr_RA hA1 F2 rfl rfl rfl
  refine ⟨?_, law, if L.2.2.2.2.1 = 0 then L else lg_und L, cn, m, K, l, h, t, B, q, ⟨c1, (by
    split
    · exact c2
    · exact lg_und_ok c2), (by
    split
    · exact c3
    · rename_i z
      exact lg_und_in c3 c2 z), c4, c5⟩, hA2, hB2⟩
  rw [e2, e]
theorem pr_redo (g : vv_G) (hfl : vv_fl g = false) (hN : NQ) (S : vs_S) (hR : RR S) : vs_KI g yX11_redo cX11_redo 1 (some .int) 3 [vv_r g 0] S (fun r S1 => vs_KI g yX12_redo cX12_redo 1 (some .int) 1 [vv_r g 65] S1 (fun r2 S2 => r2 = r ∧ RR S2)) := by
  obtain ⟨law, L, cn, m, K, l, h, t, B, q, ⟨c1, c2, c3, c4, c5⟩, hA, hB⟩ := hR
  have hA0 := hA
  have hB0 := hB
  obtain ⟨a1, a2, a3, a4, a5, a6, a7, a8, a9, a10, a11⟩ := hA
  refine vs_mono (c_X11_redo g S L a3 c2) (fun r S1 p => ?_)
  obtain ⟨e, lX, f1⟩ := p
  have F1 : vs_fr [6, 7, 8] [19, 20, 21, 22] [] S S1 := f1
  have hA1 : RA S1 law (if L.2.2.2.2.2 = L.2.2.2.2.1 then L else lg_red L) cn m K l h t B q := ⟨fr_s a1 F1 (by decide), nx_fr a2 F1 (by decide), lX, fr_s a4 F1 (by decide), fr_fx a5 F1 (by decide), fr_cx a6 F1 (by decide), fr_pX a7 F1 (by decide), fr_tX a8 F1 (by decide), fr_sX a9 F1 (by decide), fr_tp a10 F1 (by decide), fr_lx a11 F1 (by decide)⟩
  have hB1 := fr_RB hB0 F1 rfl rfl rfl
  have hB3 := hB1
  obtain ⟨b1, b2, b3, b4, b5, b6, b7, b8, b9⟩ := hB1
  refine vs_mono (c_X12_redo g S1 L.1 L.2.1 L.2.2.1 L.2.2.2.1 L.2.2.2.2.1 L.2.2.2.2.2 b3 c2) (fun r2 S2 p2 => ?_)
  obtain ⟨e2, lM, f2⟩ := p2
  have F2 : vs_fr [21, 22] [66, 67, 68, 69] [] S1 S2 := f2
  have hB2 : RB S2 law (if L.2.2.2.2.2 = L.2.2.2.2.1 then L else lg_red L) cn m K l h t B q := ⟨fr_s b1 F2 (by decide), fr_nm b2 F2 (by decide), lM, fr_s b4 F2 (by decide), fr_pM b5 F2 (by decide), fr_tM b6 F2 (by decide), fr_sM b7 F2 (by decide), fr_tq b8 F2 (by decide), fr_lm b9 F2 (by decide)⟩
  have hA2 := fr_RA hA1 F2 rfl rfl rfl
  refine ⟨?_, law, if L.2.2.2.2.2 = L.2.2.2.2.1 then L else lg_red L, cn, m, K, l, h, t, B, q, ⟨c1, (by
    split
    · exact c2
    · rename_i z
      exact lg_red_ok c2 (by have : L.2.2.2.2.1 ≤ L.2.2.2.2.2 := c2.1; omega)), (by
    split
    · exact c3
    · rename_i z
      exact lg_red_in c3 c2 (by have : L.2.2.2.2.1 ≤ L.2.2.2.2.2 := c2.1; omega)), c4, c5⟩, hA2, hB2⟩
  rw [e2, e]
theorem pr_round (g : vv_G) (hfl : vv_fl g = false) (hN : NQ) (S : vs_S) (hR : RR S) : vs_KI g yX11_round cX11_round 1 (some .int) 6 [vv_r g 0] S (fun r S1 => vs_KI g yX12_round cX12_round 5 (some .int) 3 [vv_r g 65] S1 (fun r2 S2 => r2 = r ∧ RR S2)) := by
  obtain ⟨law, L, cn, m, K, l, h, t, B, q, ⟨c1, c2, c3, c4, c5⟩, hA, hB⟩ := hR
  have hA0 := hA
  have hB0 := hB
  obtain ⟨a1, a2, a3, a4, a5, a6, a7, a8, a9, a10, a11⟩ := hA
  refine vs_mono (c_X11_round g S L a3 c2 c3) (fun r S1 p => ?_)
  obtain ⟨e, lX, f1⟩ := p
  have F1 : vs_fr [6, 7, 8] [19, 20, 21, 22] [] S S1 := f1
  have hA1 : RA S1 law ((rd_r 64 L).2) cn m K l h t B q := ⟨fr_s a1 F1 (by decide), nx_fr a2 F1 (by decide), lX, fr_s a4 F1 (by decide), fr_fx a5 F1 (by decide), fr_cx a6 F1 (by decide), fr_pX a7 F1 (by decide), fr_tX a8 F1 (by decide), fr_sX a9 F1 (by decide), fr_tp a10 F1 (by decide), fr_lx a11 F1 (by decide)⟩
  have hB1 := fr_RB hB0 F1 rfl rfl rfl
  have hB3 := hB1
  obtain ⟨b1, b2, b3, b4, b5, b6, b7, b8, b9⟩ := hB1
  refine vs_mono (c_X12_round g S1 L b3 c2 c3) (fun r2 S2 p2 => ?_)
  obtain ⟨e2, lM, f2⟩ := p2
  have F2 : vs_fr [21, 22, 35, 36] [66, 67, 68, 69] [] S1 S2 := f2
  have hB2 : RB S2 law ((rd_r 64 L).2) cn m K l h t B q := ⟨fr_s b1 F2 (by decide), fr_nm b2 F2 (by decide), lM, fr_s b4 F2 (by decide), fr_pM b5 F2 (by decide), fr_tM b6 F2 (by decide), fr_sM b7 F2 (by decide), fr_tq b8 F2 (by decide), fr_lm b9 F2 (by decide)⟩
  have hA2 := fr_RA hA1 F2 rfl rfl rfl
  refine ⟨?_, law, (rd_r 64 L).2, cn, m, K, l, h, t, B, q, ⟨c1, (rd_rI 64 L c3 c2).2.1, (rd_rI 64 L c3 c2).1, c4, c5⟩, hA2, hB2⟩
  rw [e2, e]
theorem pr_coin (g : vv_G) (hfl : vv_fl g = false) (hN : NQ) (S : vs_S) (hR : RR S) (a : Int32) (b : Int32) : vs_KI g yX11_coin cX11_coin 3 (some .int) 3 [vv_r g 0, .int a, .int b] S (fun r S1 => vs_KI g yX12_coin cX12_coin 3 (some .int) 3 [vv_r g 65, .int a, .int b] S1 (fun r2 S2 => r2 = r ∧ RR S2)) := by
  obtain ⟨law, L, cn, m, K, l, h, t, B, q, ⟨c1, c2, c3, c4, c5⟩, hA, hB⟩ := hR
  have hA0 := hA
  have hB0 := hB
  obtain ⟨a1, a2, a3, a4, a5, a6, a7, a8, a9, a10, a11⟩ := hA
  refine vs_mono (c_X11_coin g S L a3 c2 cn c4 a4 a b) (fun r S1 p => ?_)
  obtain ⟨e, z9, lX, f1⟩ := p
  have F1 : vs_fr [9] [19] [] S S1 := f1
  have hA1 : RA S1 law (if (vs_w a 1 999 && vs_w b 0 9) = true ∧ ¬ cn = 16 then lg_coin L cn a b else L) (if (vs_w a 1 999 && vs_w b 0 9) = true ∧ ¬ cn = 16 then cn + 1 else cn) m K l h t B q := ⟨fr_s a1 F1 (by decide), nx_fr a2 F1 (by decide), lX, z9, fr_fx a5 F1 (by decide), fr_cx a6 F1 (by decide), fr_pX a7 F1 (by decide), fr_tX a8 F1 (by decide), fr_sX a9 F1 (by decide), fr_tp a10 F1 (by decide), fr_lx a11 F1 (by decide)⟩
  have hB1 := fr_RB hB0 F1 rfl rfl rfl
  have hB3 := hB1
  obtain ⟨b1, b2, b3, b4, b5, b6, b7, b8, b9⟩ := hB1
  refine vs_mono (c_X12_coin g S1 L b3 c2 cn c4 b4 a b) (fun r2 S2 p2 => ?_)
  obtain ⟨e2, z26, lM, f2⟩ := p2
  have F2 : vs_fr [26] [66] [] S1 S2 := f2
  have hB2 : RB S2 law (if (vs_w a 1 999 && vs_w b 0 9) = true ∧ ¬ cn = 16 then lg_coin L cn a b else L) (if (vs_w a 1 999 && vs_w b 0 9) = true ∧ ¬ cn = 16 then cn + 1 else cn) m K l h t B q := ⟨fr_s b1 F2 (by decide), fr_nm b2 F2 (by decide), lM, z26, fr_pM b5 F2 (by decide), fr_tM b6 F2 (by decide), fr_sM b7 F2 (by decide), fr_tq b8 F2 (by decide), fr_lm b9 F2 (by decide)⟩
  have hA2 := fr_RA hA1 F2 rfl rfl rfl
  refine ⟨?_, law, if (vs_w a 1 999 && vs_w b 0 9) = true ∧ ¬ cn = 16 then lg_coin L cn a b else L, if (vs_w a 1 999 && vs_w b 0 9) = true ∧ ¬ cn = 16 then cn + 1 else cn, m, K, l, h, t, B, q, ⟨c1, (by
    split
    · exact lg_coin_ok c2
    · exact c2), (by
    split
    · rename_i w
      have w2 := w.1
      rw [Bool.and_eq_true] at w2
      exact lg_coin_in c3 (by have := w.2; omega) w2.1 w2.2
    · exact c3), (by
    split
    · rename_i w
      have := w.2
      omega
    · exact c4), c5⟩, hA2, hB2⟩
  rw [e2, e]
