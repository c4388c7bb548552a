set_option maxRecDepth 20000 in
theorem c_X4_run (g : vv_G) (own b : Nat) (self : Int32) (hown : own < 8) (hb : b < 50) (hsb : self = nI b) : ∀ (f : Nat) (S : vs_S) (l : List Nat) (act kind : Nat) (v : Int32) (d : Nat), d + f = 21 → tX S l → l.length + 2 ^ f ≤ 2 ^ 29 → act < 4 → kind < 8 → S.1 20 = self → S.2.1 52 b = nI own → vs_KI g yX4_run cX4_run 10 (some .int) (3 + f) [vv_r g 51, .int (nI act), .int (nI kind), .int v, .int (nI d)] S (fun r S1 => r = (ar own self (f) act kind v).1 ∧ tX S1 (l ++ (ar own self (f) act kind v).2) ∧ vs_fr [19] [53] [] S S1) := by
  intro f
  induction f with
  | zero =>
    intro S l act kind v d hd0 ht hlen ha hk8 hself hkind
    have hd : d = 21 := by omega
    subst hd
    refine vs_ofI (lv := [_, _, _, _, _, _, _, _, _, _]) mb_X4_run (Nat.le_of_ble_eq_true rfl) rfl (fun x C F => ?_)
    refine vv_iload C dX4_run_0 rfl ?_
    refine vv_bipush C dX4_run_2 bp_20 ?_
    refine vv_icmp_le (tgt := 9) C dX4_run_4 (by decide) (fun q4 => ?_) (fun q4 => ?_)
    · exact absurd q4 (by decide +kernel)
    · refine vv_iconst C dX4_run_7 ic_0 ?_
      exact vs_iret C F dX4_run_8 rfl ⟨rfl, by rw [show (ar own self 0 act kind v).2 = [] from rfl, List.append_nil]; exact ht, vs_fr.rf⟩
  | succ f ih =>
    intro S l act kind v d hd0 ht hlen ha hk8 hself hkind
    have hh8 := hd_lt (act := act) 8 kind hk8
    have hpw : 2 ^ (f + 1) = 2 ^ f + 2 ^ f := by rw [Nat.pow_succ]; omega
    have hp1 : 1 ≤ 2 ^ f := Nat.one_le_two_pow
    refine vs_ofI (lv := [_, _, _, _, _, _, _, _, _, _]) mb_X4_run (Nat.le_of_ble_eq_true rfl) rfl (fun x C F => ?_)
    refine vv_iload C dX4_run_0 rfl ?_
    refine vv_bipush C dX4_run_2 bp_20 ?_
    refine vv_icmp_le (tgt := 9) C dX4_run_4 (by decide) (fun q4 => ?_) (fun q4 => ?_)
    · refine vv_iload_n C dX4_run_9 rfl ?_
      refine vv_iload_n C dX4_run_10 rfl ?_
      refine vs_calsiF C dX4_run_11 (c_X4_holder g S act kind ha hk8) mb_X4_holder ms_X4_holder lk_X4_39 rfl rfl ⟨by omega, by omega, Nat.le_of_ble_eq_true rfl⟩ ?_
      refine vw_istore (lv9 := [_, _, _, _, _, _, _, _, _, _]) C dX4_run_14 (by decide) rfl rfl ?_
      refine vv_aload_n C dX4_run_16 rfl ?_
      refine gf_X4_kinds C dX4_run_17 fg_X4_11 ?_
      refine vv_aload_n C dX4_run_20 rfl ?_
      refine gf_X4_self C dX4_run_21 fg_X4_32 ?_
      refine ld_52 C dX4_run_24 (by rw [hself, hsb]; exact xn_in (by omega) (by omega)) ?_
      refine vs_eqi (v9 := nI own) (by rw [hself, hsb, xn_cl (by omega)]; exact hkind) ?_
      refine vw_istore (lv9 := [_, _, _, _, _, _, _, _, _, _]) C dX4_run_25 (by decide) rfl rfl ?_
      refine vv_getsA C dX4_run_27 gs_X4_25 ?_
      refine vv_iload C dX4_run_30 rfl ?_
      refine vv_ildsA C dX4_run_32 (xn_in (by omega) (by omega)) ?_
      refine vs_eqi (v9 := vv_fA (hd act 8 kind)) (by rw [xn_cl (by omega)]) ?_
      refine vw_istore (lv9 := [_, _, _, _, _, _, _, _, _, _]) C dX4_run_33 (by decide) rfl rfl ?_
      refine vv_iload C dX4_run_35 rfl ?_
      refine vv_iconst C dX4_run_37 ic_1 ?_
      refine vv_iadd C dX4_run_38 ?_
      refine vs_eqi (v9 := nI (d + 1)) (nI_1 _) ?_
      refine vw_istore (lv9 := [_, _, _, _, _, _, _, _, _, _]) C dX4_run_39 (by decide) rfl rfl ?_
      refine vv_getsO C dX4_run_41 gs_X4_43 ?_
      refine vv_iload C dX4_run_44 rfl ?_
      refine vv_iconst C dX4_run_46 ic_4 ?_
      refine vv_imul C dX4_run_47 ?_
      refine vs_eqi (v9 := nI (hd act 8 kind * 4)) (by rw [xn_lit, xn_mul]) ?_
      refine vv_iload_n C dX4_run_48 rfl ?_
      refine vv_iadd C dX4_run_49 ?_
      refine vs_eqi (v9 := nI (hd act 8 kind * 4 + act)) (nI_add _ _) ?_
      refine vv_ildsO C dX4_run_50 (xn_in (by omega) (by omega)) ?_
      refine vs_eqi (v9 := nI (pO (hd act 8 kind * 4 + act))) (by rw [xn_cl (by omega)]; exact pO_i _ (by omega)) ?_
      refine vw_istore (lv9 := [_, _, _, _, _, _, _, _, _, _]) C dX4_run_51 (by decide) rfl rfl ?_
      refine vv_aload_n C dX4_run_53 rfl ?_
      refine vv_iload C dX4_run_54 rfl ?_
      refine vs_callv C dX4_run_56 (c_X4_note g S l ht (by omega) (pO (hd act 8 kind * 4 + act))) mb_X4_note mv_X4_note lk_X4_46 ce_51 rfl rfl rfl rfl ⟨by omega, by omega, Nat.le_of_ble_eq_true rfl⟩ (fun S56 p56 => ?_)
      have f56 := p56.2
      have hl1 : (∀ q : Nat, (l ++ [q]).length + 2 ^ f ≤ 2 ^ 29) := fun q => by rw [List.length_append]; show l.length + 1 + 2 ^ f ≤ _; omega
      refine vv_iload C dX4_run_59 rfl ?_
      have hnn := hd_n act ha kind hk8
      rcases hnn with (hn | hn | hn | hn) | ⟨hpos, hn | hn | hn | hn | hn | hn | hn | hn | hn⟩
      · rw [hn] at p56 ⊢
        have har : ar own self (f + 1) act kind v = (v + self, [1]) := by
          rw [ar1, hn]
          rw [if_pos rfl]
        refine vv_lookup (tgt := 176) (off := 115) C dX4_run_61 (by decide +kernel) (by decide +kernel) (by decide) ?_
        refine vv_iload_n C dX4_run_176 rfl ?_
        refine vv_aload_n C dX4_run_177 rfl ?_
        refine gf_X4_self C dX4_run_178 fg_X4_32 ?_
        refine vs_eqi (v9 := self) (f56.1 20 (by decide) |>.trans hself) ?_
        refine vv_iadd C dX4_run_181 ?_
        refine vs_iret C F dX4_run_182 rfl ⟨?_, ?_, f56⟩
        · rw [har]
          --
        · rw [har]
          have t9 := p56.1
          try simp only [List.append_assoc, List.singleton_append] at t9
          exact t9
      · rw [hn] at p56 ⊢
        have har : ar own self (f + 1) act kind v = ((ar own self f 1 own v).1 - (ar own self f 2 own 1).1, 2 :: ((ar own self f 1 own v).2 ++ (ar own self f 2 own 1).2)) := by
          rw [ar1, hn]
          rw [if_neg (show ¬ (2 : Nat) = 1 by decide)]; rw [if_pos rfl]
        refine vv_lookup (tgt := 183) (off := 122) C dX4_run_61 (by decide +kernel) (by decide +kernel) (by decide) ?_
        refine vv_aload_n C dX4_run_183 rfl ?_
        refine vv_iconst C dX4_run_184 ic_1 ?_
        refine vv_iload C dX4_run_185 rfl ?_
        refine vv_iload_n C dX4_run_187 rfl ?_
        refine vv_iload C dX4_run_188 rfl ?_
        refine vs_calli C dX4_run_190 (ih S56 (l ++ [2]) 1 own v (d + 1) (by omega) p56.1 ((hl1 _)) (by omega) hown (f56.1 20 (by decide) |>.trans hself) (by rw [f56.2.1 52 (by decide)]; exact hkind)) mb_X4_run mv_X4_run lk_X4_35 ce_51 rfl rfl rfl rfl ⟨by omega, by omega, Nat.le_of_ble_eq_true rfl⟩ (fun r190 S190 p190 => ?_)
        obtain ⟨e190, t190, g190⟩ := p190
        have f190 := f56.tr g190
        refine vv_aload_n C dX4_run_193 rfl ?_
        refine vv_iconst C dX4_run_194 ic_2 ?_
        refine vv_iload C dX4_run_195 rfl ?_
        refine vv_iconst C dX4_run_197 ic_1 ?_
        refine vv_iload C dX4_run_198 rfl ?_
        refine vs_calli C dX4_run_200 (ih S190 ((l ++ [2]) ++ (ar own self f 1 own v).2) 2 own 1 (d + 1) (by omega) t190 (by rw [List.length_append, List.length_append, List.length_singleton]; have := ar_len (own := own) (self := self) f 1 own v; omega) (by omega) hown (f190.1 20 (by decide) |>.trans hself) (by rw [f190.2.1 52 (by decide)]; exact hkind)) mb_X4_run mv_X4_run lk_X4_35 ce_51 rfl rfl rfl rfl ⟨by omega, by omega, Nat.le_of_ble_eq_true rfl⟩ (fun r200 S200 p200 => ?_)
        obtain ⟨e200, t200, g200⟩ := p200
        have f200 := f190.tr g200
        refine vv_isub C dX4_run_203 ?_
        refine vs_iret C F dX4_run_204 rfl ⟨?_, ?_, f200⟩
        · rw [har]
          rw [e190, e200]
        · rw [har]
          have t9 := t200
          try simp only [List.append_assoc, List.singleton_append] at t9
          exact t9
      · rw [hn] at p56 ⊢
        have har : ar own self (f + 1) act kind v = ((ar own self f 0 own v).1 * 2, 10 :: (ar own self f 0 own v).2) := by
          rw [ar1, hn]
          rw [if_neg (show ¬ (10 : Nat) = 1 by decide)]; rw [if_neg (show ¬ (10 : Nat) = 2 by decide)]; rw [if_pos rfl]
        refine vv_lookup (tgt := 205) (off := 144) C dX4_run_61 (by decide +kernel) (by decide +kernel) (by decide) ?_
        refine vv_aload_n C dX4_run_205 rfl ?_
        refine vv_iconst C dX4_run_206 ic_0 ?_
        refine vv_iload C dX4_run_207 rfl ?_
        refine vv_iload_n C dX4_run_209 rfl ?_
        refine vv_iload C dX4_run_210 rfl ?_
        refine vs_calli C dX4_run_212 (ih S56 (l ++ [10]) 0 own v (d + 1) (by omega) p56.1 ((hl1 _)) (by omega) hown (f56.1 20 (by decide) |>.trans hself) (by rw [f56.2.1 52 (by decide)]; exact hkind)) mb_X4_run mv_X4_run lk_X4_35 ce_51 rfl rfl rfl rfl ⟨by omega, by omega, Nat.le_of_ble_eq_true rfl⟩ (fun r212 S212 p212 => ?_)
        obtain ⟨e212, t212, g212⟩ := p212
        have f212 := f56.tr g212
        refine vv_iconst C dX4_run_215 ic_2 ?_
        refine vv_imul C dX4_run_216 ?_
        refine vs_iret C F dX4_run_217 rfl ⟨?_, ?_, f212⟩
        · rw [har]
          rw [e212]
        · rw [har]
          have t9 := t212
          try simp only [List.append_assoc, List.singleton_append] at t9
          exact t9
      · rw [hn] at p56 ⊢
        have har : ar own self (f + 1) act kind v = (v ^^^ self, [11]) := by
          rw [ar1, hn]
          rw [if_neg (show ¬ (11 : Nat) = 1 by decide)]; rw [if_neg (show ¬ (11 : Nat) = 2 by decide)]; rw [if_neg (show ¬ (11 : Nat) = 10 by decide)]; rw [if_pos rfl]
        refine vv_lookup (tgt := 218) (off := 157) C dX4_run_61 (by decide +kernel) (by decide +kernel) (by decide) ?_
        refine vv_iload_n C dX4_run_218 rfl ?_
        refine vv_aload_n C dX4_run_219 rfl ?_
        refine gf_X4_self C dX4_run_220 fg_X4_32 ?_
        refine vs_eqi (v9 := self) (f56.1 20 (by decide) |>.trans hself) ?_
        refine vv_ixor C dX4_run_223 ?_
        refine vs_iret C F dX4_run_224 rfl ⟨?_, ?_, f56⟩
        · rw [har]
          --
        · rw [har]
          have t9 := p56.1
          try simp only [List.append_assoc, List.singleton_append] at t9
          exact t9
      · rw [hn] at p56 ⊢
        rw [pA_i _ hh8 hpos]
        have hup8 := pA_lt _ hh8
        have har : ar own self (f + 1) act kind v = ((ar own self f 0 (pA (hd act 8 kind)) v).1 + 3, 20 :: (ar own self f 0 (pA (hd act 8 kind)) v).2) := by
          rw [ar1, hn]
          rw [if_neg (show ¬ (20 : Nat) = 1 by decide)]; rw [if_neg (show ¬ (20 : Nat) = 2 by decide)]; rw [if_neg (show ¬ (20 : Nat) = 10 by decide)]; rw [if_neg (show ¬ (20 : Nat) = 11 by decide)]; rw [if_pos rfl]
        refine vv_lookup (tgt := 225) (off := 164) C dX4_run_61 (by decide +kernel) (by decide +kernel) (by decide) ?_
        refine vv_aload_n C dX4_run_225 rfl ?_
        refine vv_iconst C dX4_run_226 ic_0 ?_
        refine vv_iload C dX4_run_227 rfl ?_
        refine vv_iload_n C dX4_run_229 rfl ?_
        refine vv_iload C dX4_run_230 rfl ?_
        refine vs_calli C dX4_run_232 (ih S56 (l ++ [20]) 0 (pA (hd act 8 kind)) v (d + 1) (by omega) p56.1 ((hl1 _)) (by omega) hup8 (f56.1 20 (by decide) |>.trans hself) (by rw [f56.2.1 52 (by decide)]; exact hkind)) mb_X4_run mv_X4_run lk_X4_35 ce_51 rfl rfl rfl rfl ⟨by omega, by omega, Nat.le_of_ble_eq_true rfl⟩ (fun r232 S232 p232 => ?_)
        obtain ⟨e232, t232, g232⟩ := p232
        have f232 := f56.tr g232
        refine vv_iconst C dX4_run_235 ic_3 ?_
        refine vv_iadd C dX4_run_236 ?_
        refine vs_iret C F dX4_run_237 rfl ⟨?_, ?_, f232⟩
        · rw [har]
          rw [e232]
        · rw [har]
          have t9 := t232
          try simp only [List.append_assoc, List.singleton_append] at t9
          exact t9
      · rw [hn] at p56 ⊢
        rw [pA_i _ hh8 hpos]
        have hup8 := pA_lt _ hh8
        have har : ar own self (f + 1) act kind v = (-(ar own self f 1 (pA (hd act 8 kind)) v).1, 30 :: (ar own self f 1 (pA (hd act 8 kind)) v).2) := by
          rw [ar1, hn]
          rw [if_neg (show ¬ (30 : Nat) = 1 by decide)]; rw [if_neg (show ¬ (30 : Nat) = 2 by decide)]; rw [if_neg (show ¬ (30 : Nat) = 10 by decide)]; rw [if_neg (show ¬ (30 : Nat) = 11 by decide)]; rw [if_neg (show ¬ (30 : Nat) = 20 by decide)]; rw [if_pos rfl]
        refine vv_lookup (tgt := 238) (off := 177) C dX4_run_61 (by decide +kernel) (by decide +kernel) (by decide) ?_
        refine vv_aload_n C dX4_run_238 rfl ?_
        refine vv_iconst C dX4_run_239 ic_1 ?_
        refine vv_iload C dX4_run_240 rfl ?_
        refine vv_iload_n C dX4_run_242 rfl ?_
        refine vv_iload C dX4_run_243 rfl ?_
        refine vs_calli C dX4_run_245 (ih S56 (l ++ [30]) 1 (pA (hd act 8 kind)) v (d + 1) (by omega) p56.1 ((hl1 _)) (by omega) hup8 (f56.1 20 (by decide) |>.trans hself) (by rw [f56.2.1 52 (by decide)]; exact hkind)) mb_X4_run mv_X4_run lk_X4_35 ce_51 rfl rfl rfl rfl ⟨by omega, by omega, Nat.le_of_ble_eq_true rfl⟩ (fun r245 S245 p245 => ?_)
        obtain ⟨e245, t245, g245⟩ := p245
        have f245 := f56.tr g245
        refine vv_ineg C dX4_run_248 ?_
        refine vs_iret C F dX4_run_249 rfl ⟨?_, ?_, f245⟩
        · rw [har]
          rw [e245]
        · rw [har]
          have t9 := t245
          try simp only [List.append_assoc, List.singleton_append] at t9
          exact t9
      · rw [hn] at p56 ⊢
        rw [pA_i _ hh8 hpos]
        have hup8 := pA_lt _ hh8
        have har : ar own self (f + 1) act kind v = ((ar own self f 2 (pA (hd act 8 kind)) v).1 * 3, 40 :: (ar own self f 2 (pA (hd act 8 kind)) v).2) := by
          rw [ar1, hn]
          rw [if_neg (show ¬ (40 : Nat) = 1 by decide)]; rw [if_neg (show ¬ (40 : Nat) = 2 by decide)]; rw [if_neg (show ¬ (40 : Nat) = 10 by decide)]; rw [if_neg (show ¬ (40 : Nat) = 11 by decide)]; rw [if_neg (show ¬ (40 : Nat) = 20 by decide)]; rw [if_neg (show ¬ (40 : Nat) = 30 by decide)]; rw [if_pos rfl]
        refine vv_lookup (tgt := 250) (off := 189) C dX4_run_61 (by decide +kernel) (by decide +kernel) (by decide) ?_
        refine vv_aload_n C dX4_run_250 rfl ?_
        refine vv_iconst C dX4_run_251 ic_2 ?_
        refine vv_iload C dX4_run_252 rfl ?_
        refine vv_iload_n C dX4_run_254 rfl ?_
        refine vv_iload C dX4_run_255 rfl ?_
        refine vs_calli C dX4_run_257 (ih S56 (l ++ [40]) 2 (pA (hd act 8 kind)) v (d + 1) (by omega) p56.1 ((hl1 _)) (by omega) hup8 (f56.1 20 (by decide) |>.trans hself) (by rw [f56.2.1 52 (by decide)]; exact hkind)) mb_X4_run mv_X4_run lk_X4_35 ce_51 rfl rfl rfl rfl ⟨by omega, by omega, Nat.le_of_ble_eq_true rfl⟩ (fun r257 S257 p257 => ?_)
        obtain ⟨e257, t257, g257⟩ := p257
        have f257 := f56.tr g257
        refine vv_iconst C dX4_run_260 ic_3 ?_
        refine vv_imul C dX4_run_261 ?_
        refine vs_iret C F dX4_run_262 rfl ⟨?_, ?_, f257⟩
        · rw [har]
          rw [e257]
        · rw [har]
          have t9 := t257
          try simp only [List.append_assoc, List.singleton_append] at t9
          exact t9
      · rw [hn] at p56 ⊢
        rw [pA_i _ hh8 hpos]
        have hup8 := pA_lt _ hh8
        have har : ar own self (f + 1) act kind v = ((ar own self f 1 (pA (hd act 8 kind)) (v + 1)).1, 41 :: (ar own self f 1 (pA (hd act 8 kind)) (v + 1)).2) := by
          rw [ar1, hn]
          rw [if_neg (show ¬ (41 : Nat) = 1 by decide)]; rw [if_neg (show ¬ (41 : Nat) = 2 by decide)]; rw [if_neg (show ¬ (41 : Nat) = 10 by decide)]; rw [if_neg (show ¬ (41 : Nat) = 11 by decide)]; rw [if_neg (show ¬ (41 : Nat) = 20 by decide)]; rw [if_neg (show ¬ (41 : Nat) = 30 by decide)]; rw [if_neg (show ¬ (41 : Nat) = 40 by decide)]; rw [if_pos rfl]
        refine vv_lookup (tgt := 263) (off := 202) C dX4_run_61 (by decide +kernel) (by decide +kernel) (by decide) ?_
        refine vv_aload_n C dX4_run_263 rfl ?_
        refine vv_iconst C dX4_run_264 ic_1 ?_
        refine vv_iload C dX4_run_265 rfl ?_
        refine vv_iload_n C dX4_run_267 rfl ?_
        refine vv_iconst C dX4_run_268 ic_1 ?_
        refine vv_iadd C dX4_run_269 ?_
        refine vv_iload C dX4_run_270 rfl ?_
        refine vs_calli C dX4_run_272 (ih S56 (l ++ [41]) 1 (pA (hd act 8 kind)) (v + 1) (d + 1) (by omega) p56.1 ((hl1 _)) (by omega) hup8 (f56.1 20 (by decide) |>.trans hself) (by rw [f56.2.1 52 (by decide)]; exact hkind)) mb_X4_run mv_X4_run lk_X4_35 ce_51 rfl rfl rfl rfl ⟨by omega, by omega, Nat.le_of_ble_eq_true rfl⟩ (fun r272 S272 p272 => ?_)
        obtain ⟨e272, t272, g272⟩ := p272
        have f272 := f56.tr g272
        refine vs_iret C F dX4_run_275 rfl ⟨?_, ?_, f272⟩
        · rw [har]
          rw [e272]
        · rw [har]
          have t9 := t272
          try simp only [List.append_assoc, List.singleton_append] at t9
          exact t9
      · rw [hn] at p56 ⊢
        rw [pA_i _ hh8 hpos]
        have hup8 := pA_lt _ hh8
        have har : ar own self (f + 1) act kind v = ((ar own self f 2 (pA (hd act 8 kind)) v).1 - (ar own self f 0 own 2).1, 50 :: ((ar own self f 2 (pA (hd act 8 kind)) v).2 ++ (ar own self f 0 own 2).2)) := by
          rw [ar1, hn]
          rw [if_neg (show ¬ (50 : Nat) = 1 by decide)]; rw [if_neg (show ¬ (50 : Nat) = 2 by decide)]; rw [if_neg (show ¬ (50 : Nat) = 10 by decide)]; rw [if_neg (show ¬ (50 : Nat) = 11 by decide)]; rw [if_neg (show ¬ (50 : Nat) = 20 by decide)]; rw [if_neg (show ¬ (50 : Nat) = 30 by decide)]; rw [if_neg (show ¬ (50 : Nat) = 40 by decide)]; rw [if_neg (show ¬ (50 : Nat) = 41 by decide)]; rw [if_pos rfl]
        refine vv_lookup (tgt := 276) (off := 215) C dX4_run_61 (by decide +kernel) (by decide +kernel) (by decide) ?_
        refine vv_aload_n C dX4_run_276 rfl ?_
        refine vv_iconst C dX4_run_277 ic_2 ?_
        refine vv_iload C dX4_run_278 rfl ?_
        refine vv_iload_n C dX4_run_280 rfl ?_
        refine vv_iload C dX4_run_281 rfl ?_
        refine vs_calli C dX4_run_283 (ih S56 (l ++ [50]) 2 (pA (hd act 8 kind)) v (d + 1) (by omega) p56.1 ((hl1 _)) (by omega) hup8 (f56.1 20 (by decide) |>.trans hself) (by rw [f56.2.1 52 (by decide)]; exact hkind)) mb_X4_run mv_X4_run lk_X4_35 ce_51 rfl rfl rfl rfl ⟨by omega, by omega, Nat.le_of_ble_eq_true rfl⟩ (fun r283 S283 p283 => ?_)
        obtain ⟨e283, t283, g283⟩ := p283
        have f283 := f56.tr g283
        refine vv_aload_n C dX4_run_286 rfl ?_
        refine vv_iconst C dX4_run_287 ic_0 ?_
        refine vv_iload C dX4_run_288 rfl ?_
        refine vv_iconst C dX4_run_290 ic_2 ?_
        refine vv_iload C dX4_run_291 rfl ?_
        refine vs_calli C dX4_run_293 (ih S283 ((l ++ [50]) ++ (ar own self f 2 (pA (hd act 8 kind)) v).2) 0 own 2 (d + 1) (by omega) t283 (by rw [List.length_append, List.length_append, List.length_singleton]; have := ar_len (own := own) (self := self) f 2 (pA (hd act 8 kind)) v; omega) (by omega) hown (f283.1 20 (by decide) |>.trans hself) (by rw [f283.2.1 52 (by decide)]; exact hkind)) mb_X4_run mv_X4_run lk_X4_35 ce_51 rfl rfl rfl rfl ⟨by omega, by omega, Nat.le_of_ble_eq_true rfl⟩ (fun r293 S293 p293 => ?_)
        obtain ⟨e293, t293, g293⟩ := p293
        have f293 := f283.tr g293
        refine vv_isub C dX4_run_296 ?_
        refine vs_iret C F dX4_run_297 rfl ⟨?_, ?_, f293⟩
        · rw [har]
          rw [e283, e293]
        · rw [har]
          have t9 := t293
          try simp only [List.append_assoc, List.singleton_append] at t9
          exact t9
      · rw [hn] at p56 ⊢
        rw [pA_i _ hh8 hpos]
        have hup8 := pA_lt _ hh8
        have har : ar own self (f + 1) act kind v = ((ar own self f 0 (pA (hd act 8 kind)) v).1 * 2, 60 :: (ar own self f 0 (pA (hd act 8 kind)) v).2) := by
          rw [ar1, hn]
          rw [if_neg (show ¬ (60 : Nat) = 1 by decide)]; rw [if_neg (show ¬ (60 : Nat) = 2 by decide)]; rw [if_neg (show ¬ (60 : Nat) = 10 by decide)]; rw [if_neg (show ¬ (60 : Nat) = 11 by decide)]; rw [if_neg (show ¬ (60 : Nat) = 20 by decide)]; rw [if_neg (show ¬ (60 : Nat) = 30 by decide)]; rw [if_neg (show ¬ (60 : Nat) = 40 by decide)]; rw [if_neg (show ¬ (60 : Nat) = 41 by decide)]; rw [if_neg (show ¬ (60 : Nat) = 50 by decide)]; rw [if_pos rfl]
        refine vv_lookup (tgt := 298) (off := 237) C dX4_run_61 (by decide +kernel) (by decide +kernel) (by decide) ?_
        refine vv_aload_n C dX4_run_298 rfl ?_
        refine vv_iconst C dX4_run_299 ic_0 ?_
        refine vv_iload C dX4_run_300 rfl ?_
        refine vv_iload_n C dX4_run_302 rfl ?_
        refine vv_iload C dX4_run_303 rfl ?_
        refine vs_calli C dX4_run_305 (ih S56 (l ++ [60]) 0 (pA (hd act 8 kind)) v (d + 1) (by omega) p56.1 ((hl1 _)) (by omega) hup8 (f56.1 20 (by decide) |>.trans hself) (by rw [f56.2.1 52 (by decide)]; exact hkind)) mb_X4_run mv_X4_run lk_X4_35 ce_51 rfl rfl rfl rfl ⟨by omega, by omega, Nat.le_of_ble_eq_true rfl⟩ (fun r305 S305 p305 => ?_)
        obtain ⟨e305, t305, g305⟩ := p305
        have f305 := f56.tr g305
        refine vv_iconst C dX4_run_308 ic_2 ?_
        refine vv_imul C dX4_run_309 ?_
        refine vs_iret C F dX4_run_310 rfl ⟨?_, ?_, f305⟩
        · rw [har]
          rw [e305]
        · rw [har]
          have t9 := t305
          try simp only [List.append_assoc, List.singleton_append] at t9
          exact t9
      · rw [hn] at p56 ⊢
        rw [pA_i _ hh8 hpos]
        have hup8 := pA_lt _ hh8
        have har : ar own self (f + 1) act kind v = ((ar own self f 3 (pA (hd act 8 kind)) v).1 ^^^ 5, 70 :: (ar own self f 3 (pA (hd act 8 kind)) v).2) := by
          rw [ar1, hn]
          rw [if_neg (show ¬ (70 : Nat) = 1 by decide)]; rw [if_neg (show ¬ (70 : Nat) = 2 by decide)]; rw [if_neg (show ¬ (70 : Nat) = 10 by decide)]; rw [if_neg (show ¬ (70 : Nat) = 11 by decide)]; rw [if_neg (show ¬ (70 : Nat) = 20 by decide)]; rw [if_neg (show ¬ (70 : Nat) = 30 by decide)]; rw [if_neg (show ¬ (70 : Nat) = 40 by decide)]; rw [if_neg (show ¬ (70 : Nat) = 41 by decide)]; rw [if_neg (show ¬ (70 : Nat) = 50 by decide)]; rw [if_neg (show ¬ (70 : Nat) = 60 by decide)]; rw [if_pos rfl]
        refine vv_lookup (tgt := 311) (off := 250) C dX4_run_61 (by decide +kernel) (by decide +kernel) (by decide) ?_
        refine vv_aload_n C dX4_run_311 rfl ?_
        refine vv_iconst C dX4_run_312 ic_3 ?_
        refine vv_iload C dX4_run_313 rfl ?_
        refine vv_iload_n C dX4_run_315 rfl ?_
        refine vv_iload C dX4_run_316 rfl ?_
        refine vs_calli C dX4_run_318 (ih S56 (l ++ [70]) 3 (pA (hd act 8 kind)) v (d + 1) (by omega) p56.1 ((hl1 _)) (by omega) hup8 (f56.1 20 (by decide) |>.trans hself) (by rw [f56.2.1 52 (by decide)]; exact hkind)) mb_X4_run mv_X4_run lk_X4_35 ce_51 rfl rfl rfl rfl ⟨by omega, by omega, Nat.le_of_ble_eq_true rfl⟩ (fun r318 S318 p318 => ?_)
        obtain ⟨e318, t318, g318⟩ := p318
        have f318 := f56.tr g318
        refine vv_iconst C dX4_run_321 ic_5 ?_
        refine vv_ixor C dX4_run_322 ?_
        refine vs_iret C F dX4_run_323 rfl ⟨?_, ?_, f318⟩
        · rw [har]
          rw [e318]
        · rw [har]
          have t9 := t318
          try simp only [List.append_assoc, List.singleton_append] at t9
          exact t9
      · rw [hn] at p56 ⊢
        rw [pA_i _ hh8 hpos]
        have hup8 := pA_lt _ hh8
        have har : ar own self (f + 1) act kind v = ((ar own self f 1 (pA (hd act 8 kind)) v).1 + (ar own self f 2 own 2).1, 80 :: ((ar own self f 1 (pA (hd act 8 kind)) v).2 ++ (ar own self f 2 own 2).2)) := by
          rw [ar1, hn]
          rw [if_neg (show ¬ (80 : Nat) = 1 by decide)]; rw [if_neg (show ¬ (80 : Nat) = 2 by decide)]; rw [if_neg (show ¬ (80 : Nat) = 10 by decide)]; rw [if_neg (show ¬ (80 : Nat) = 11 by decide)]; rw [if_neg (show ¬ (80 : Nat) = 20 by decide)]; rw [if_neg (show ¬ (80 : Nat) = 30 by decide)]; rw [if_neg (show ¬ (80 : Nat) = 40 by decide)]; rw [if_neg (show ¬ (80 : Nat) = 41 by decide)]; rw [if_neg (show ¬ (80 : Nat) = 50 by decide)]; rw [if_neg (show ¬ (80 : Nat) = 60 by decide)]; rw [if_neg (show ¬ (80 : Nat) = 70 by decide)]; rw [if_pos rfl]
        refine vv_lookup (tgt := 324) (off := 263) C dX4_run_61 (by decide +kernel) (by decide +kernel) (by decide) ?_
        refine vv_aload_n C dX4_run_324 rfl ?_
        refine vv_iconst C dX4_run_325 ic_1 ?_
        refine vv_iload C dX4_run_326 rfl ?_
        refine vv_iload_n C dX4_run_328 rfl ?_
        refine vv_iload C dX4_run_329 rfl ?_
        refine vs_calli C dX4_run_331 (ih S56 (l ++ [80]) 1 (pA (hd act 8 kind)) v (d + 1) (by omega) p56.1 ((hl1 _)) (by omega) hup8 (f56.1 20 (by decide) |>.trans hself) (by rw [f56.2.1 52 (by decide)]; exact hkind)) mb_X4_run mv_X4_run lk_X4_35 ce_51 rfl rfl rfl rfl ⟨by omega, by omega, Nat.le_of_ble_eq_true rfl⟩ (fun r331 S331 p331 => ?_)
        obtain ⟨e331, t331, g331⟩ := p331
        have f331 := f56.tr g331
        refine vv_aload_n C dX4_run_334 rfl ?_
        refine vv_iconst C dX4_run_335 ic_2 ?_
        refine vv_iload C dX4_run_336 rfl ?_
        refine vv_iconst C dX4_run_338 ic_2 ?_
        refine vv_iload C dX4_run_339 rfl ?_
        refine vs_calli C dX4_run_341 (ih S331 ((l ++ [80]) ++ (ar own self f 1 (pA (hd act 8 kind)) v).2) 2 own 2 (d + 1) (by omega) t331 (by rw [List.length_append, List.length_append, List.length_singleton]; have := ar_len (own := own) (self := self) f 1 (pA (hd act 8 kind)) v; omega) (by omega) hown (f331.1 20 (by decide) |>.trans hself) (by rw [f331.2.1 52 (by decide)]; exact hkind)) mb_X4_run mv_X4_run lk_X4_35 ce_51 rfl rfl rfl rfl ⟨by omega, by omega, Nat.le_of_ble_eq_true rfl⟩ (fun r341 S341 p341 => ?_)
        obtain ⟨e341, t341, g341⟩ := p341
        have f341 := f331.tr g341
        refine vv_iadd C dX4_run_344 ?_
        refine vs_iret C F dX4_run_345 rfl ⟨?_, ?_, f341⟩
        · rw [har]
          rw [e331, e341]
        · rw [har]
          have t9 := t341
          try simp only [List.append_assoc, List.singleton_append] at t9
          exact t9
      · rw [hn] at p56 ⊢
        rw [pA_i _ hh8 hpos]
        have hup8 := pA_lt _ hh8
        have har : ar own self (f + 1) act kind v = ((ar own self f 3 (pA (hd act 8 kind)) v).1 - 1, 81 :: (ar own self f 3 (pA (hd act 8 kind)) v).2) := by
          rw [ar1, hn]
          rw [if_neg (show ¬ (81 : Nat) = 1 by decide)]; rw [if_neg (show ¬ (81 : Nat) = 2 by decide)]; rw [if_neg (show ¬ (81 : Nat) = 10 by decide)]; rw [if_neg (show ¬ (81 : Nat) = 11 by decide)]; rw [if_neg (show ¬ (81 : Nat) = 20 by decide)]; rw [if_neg (show ¬ (81 : Nat) = 30 by decide)]; rw [if_neg (show ¬ (81 : Nat) = 40 by decide)]; rw [if_neg (show ¬ (81 : Nat) = 41 by decide)]; rw [if_neg (show ¬ (81 : Nat) = 50 by decide)]; rw [if_neg (show ¬ (81 : Nat) = 60 by decide)]; rw [if_neg (show ¬ (81 : Nat) = 70 by decide)]; rw [if_neg (show ¬ (81 : Nat) = 80 by decide)]
        refine vv_lookup (tgt := 346) (off := 285) C dX4_run_61 (by decide +kernel) (by decide +kernel) (by decide) ?_
        refine vv_aload_n C dX4_run_346 rfl ?_
        refine vv_iconst C dX4_run_347 ic_3 ?_
        refine vv_iload C dX4_run_348 rfl ?_
        refine vv_iload_n C dX4_run_350 rfl ?_
        refine vv_iload C dX4_run_351 rfl ?_
        refine vs_calli C dX4_run_353 (ih S56 (l ++ [81]) 3 (pA (hd act 8 kind)) v (d + 1) (by omega) p56.1 ((hl1 _)) (by omega) hup8 (f56.1 20 (by decide) |>.trans hself) (by rw [f56.2.1 52 (by decide)]; exact hkind)) mb_X4_run mv_X4_run lk_X4_35 ce_51 rfl rfl rfl rfl ⟨by omega, by omega, Nat.le_of_ble_eq_true rfl⟩ (fun r353 S353 p353 => ?_)
        obtain ⟨e353, t353, g353⟩ := p353
        have f353 := f56.tr g353
        refine vv_iconst C dX4_run_356 ic_1 ?_
        refine vv_isub C dX4_run_357 ?_
        refine vs_iret C F dX4_run_358 rfl ⟨?_, ?_, f353⟩
        · rw [har]
          rw [e353]
        · rw [har]
          have t9 := t353
          try simp only [List.append_assoc, List.singleton_append] at t9
          exact t9
    · exact absurd ((xn_le (b := 20) (by omega) (by omega)).mpr (by omega)) q4
