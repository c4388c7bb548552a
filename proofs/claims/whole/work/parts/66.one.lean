set_option maxRecDepth 20000 in
theorem c_X12_one0 (g : vv_G) (S : vs_S) (L : Nat) (B N : Nat → Int32) (hI : iX S L B N) (p : Nat) (hp : p ≤ L) (hq : qX S p 0) : vs_KI g yX12_one cX12_one 5 (some .int) 3 [vv_r g 65] S (fun v S1 => zX S S1 (pzR (pzO (ab L B) 0) (ab L B) 0 p) ∧ ((pzR (pzO (ab L B) 0) (ab L B) 0 p).1 = true → v = (pzR (pzO (ab L B) 0) (ab L B) 0 p).2.2.2 N)) := by
  have hL := hI.2.1
  have hv : (pzR (pzO (ab L B) 0) (ab L B) 0 p) = pzA (ab L B) p := rfl
  refine vs_ofI (lv := [_, _, _, _, _]) mb_X12_one (Nat.le_of_ble_eq_true rfl) rfl (fun x C F => ?_)
  refine vv_aload_n C dX12_one_0 rfl ?_
  refine gf_X12_fault C dX12_one_1 fg_X12_219 ?_
  refine vv_if_lt (tgt := 9) C dX12_one_4 (by decide) (fun q4 => ?_) (fun q4 => ?_)
  · skip
    refine vv_aload_n C dX12_one_9 rfl ?_
    refine vs_caliF C dX12_one_10 (c_X12_byteAt g S L B N hI p hp hq.1) mb_X12_byteAt mv_X12_byteAt lk_X12_222 ce_65 rfl rfl rfl rfl ⟨by omega, by omega, Nat.le_of_ble_eq_true rfl⟩ ?_
    refine vw_istore_n (lv9 := [_, _, _, _, _]) C dX12_one_13 (by decide) rfl rfl ?_
    refine vv_iload_n C dX12_one_14 rfl ?_
    refine vv_bipush C dX12_one_15 bp_33 ?_
    refine vv_icmp_eq (tgt := 32) C dX12_one_17 (by decide) (fun q17 => ?_) (fun q17 => ?_)
    · have hop : ab L B p = 33 ∨ ab L B p = 45 ∨ ab L B p = 40 := Or.inl q17
      refine vv_aload_n C dX12_one_32 rfl ?_
      refine gf_X12_opened C dX12_one_33 fg_X12_244 ?_
      refine vs_eqi (v9 := nI 6) (hq.2.2) ?_
      refine vv_bipush C dX12_one_36 bp_6 ?_
      refine vv_icmp_ne (tgt := 46) C dX12_one_38 (by decide) (fun q38 => ?_) (fun q38 => ?_)
      · exact absurd rfl q38
      · skip
        refine vv_aload_n C dX12_one_41 rfl ?_
        refine vs_caliF C dX12_one_42 (c_X12_wrongN g S hq.2.1) mb_X12_wrong mv_X12_wrong lk_X12_247 ce_65 rfl rfl rfl rfl ⟨by omega, by omega, Nat.le_of_ble_eq_true rfl⟩ ?_
        exact vs_iret C F dX12_one_45 rfl (by rw [hv]; unfold pzA; rw [if_neg (fun z => by rcases hop with e | e | e <;> (rw [e] at z; exact absurd z (by decide))), if_neg (fun z => by rcases hop with e | e | e <;> (rw [e] at z; exact absurd z (by decide)))]; exact ⟨⟨vs_fr.rf.us (by decide), hq.1, fun z => absurd (show false = true from z) (by decide), fun _ => hq.1⟩, fun z => by cases z⟩)
    · skip
      refine vv_iload_n C dX12_one_20 rfl ?_
      refine vv_bipush C dX12_one_21 bp_45 ?_
      refine vv_icmp_eq (tgt := 32) C dX12_one_23 (by decide) (fun q23 => ?_) (fun q23 => ?_)
      · have hop : ab L B p = 33 ∨ ab L B p = 45 ∨ ab L B p = 40 := Or.inr (Or.inl q23)
        refine vv_aload_n C dX12_one_32 rfl ?_
        refine gf_X12_opened C dX12_one_33 fg_X12_244 ?_
        refine vs_eqi (v9 := nI 6) (hq.2.2) ?_
        refine vv_bipush C dX12_one_36 bp_6 ?_
        refine vv_icmp_ne (tgt := 46) C dX12_one_38 (by decide) (fun q38 => ?_) (fun q38 => ?_)
        · exact absurd rfl q38
        · skip
          refine vv_aload_n C dX12_one_41 rfl ?_
          refine vs_caliF C dX12_one_42 (c_X12_wrongN g S hq.2.1) mb_X12_wrong mv_X12_wrong lk_X12_247 ce_65 rfl rfl rfl rfl ⟨by omega, by omega, Nat.le_of_ble_eq_true rfl⟩ ?_
          exact vs_iret C F dX12_one_45 rfl (by rw [hv]; unfold pzA; rw [if_neg (fun z => by rcases hop with e | e | e <;> (rw [e] at z; exact absurd z (by decide))), if_neg (fun z => by rcases hop with e | e | e <;> (rw [e] at z; exact absurd z (by decide)))]; exact ⟨⟨vs_fr.rf.us (by decide), hq.1, fun z => absurd (show false = true from z) (by decide), fun _ => hq.1⟩, fun z => by cases z⟩)
      · skip
        refine vv_iload_n C dX12_one_26 rfl ?_
        refine vv_bipush C dX12_one_27 bp_40 ?_
        refine vv_icmp_ne (tgt := 145) C dX12_one_29 (by decide) (fun q29 => ?_) (fun q29 => ?_)
        · skip
          refine vv_iload_n C dX12_one_145 rfl ?_
          refine vs_calsiF C dX12_one_146 (c_X12_nameOf g S (ab L B p)) mb_X12_nameOf ms_X12_nameOf lk_X12_253 rfl rfl ⟨by omega, by omega, Nat.le_of_ble_eq_true rfl⟩ ?_
          refine vw_istore_n (lv9 := [_, _, _, _, _]) C dX12_one_149 (by decide) rfl rfl ?_
          refine vv_iload_n C dX12_one_150 rfl ?_
          refine vv_if_lt (tgt := 171) C dX12_one_151 (by decide) (fun q151 => ?_) (fun q151 => ?_)
          · have hn : ¬ tkN (ab L B p) < 5 := fun z => by rw [if_pos z] at q151; exact xn_neg (by omega) q151
            refine vv_iconst C dX12_one_171 ic_0 ?_
            refine vw_istore_n (lv9 := [_, _, _, _, _]) C dX12_one_172 (by decide) rfl rfl ?_
            refine vv_iconst C dX12_one_173 ic_0 ?_
            refine vw_istore (lv9 := [_, _, _, _, _]) C dX12_one_174 (by decide) rfl rfl ?_
            have loop : ∀ (f i y : Nat) (v : Int32) (Sa : vs_S), i + f = 4 → y ≤ L → vs_fr [30] [] [] S Sa → Sa.1 30 = nI y → pzD (ab L B) f y v = pzD (ab L B) 4 p 0 → (i = 0 → y = p) → (0 < i → 48 ≤ (ab L B p) ∧ (ab L B p) ≤ 57) → vv_V g x 5 0 0 176 [some (vv_r g 65), some (.int (ab L B p)), some (.int (if tkN (ab L B p) < 5 then nI (tkN (ab L B p)) else -1)), some (.int v), some (.int (nI i))] [] (vs_cells g Sa) := by
              intro f
              induction f with
              | zero =>
                intro i y v Sa hi hy hf h30 he hi0 hi1
                have e4 : i = 4 := by omega
                subst e4
                refine vv_iload C dX12_one_176 rfl ?_
                refine vv_iconst C dX12_one_178 ic_4 ?_
                refine vv_icmp_ge (tgt := 229) C dX12_one_179 (by decide) (fun q179 => ?_) (fun q179 => ?_)
                · skip
                  refine vv_iload C dX12_one_229 rfl ?_
                  refine vv_if_ne (tgt := 241) C dX12_one_231 (by decide) (fun q231 => ?_) (fun q231 => ?_)
                  · skip
                    refine vv_iload_n C dX12_one_241 rfl ?_
                    first
                    | exact vs_iret C F dX12_one_242 rfl (by
                        rw [hv]; unfold pzA
                        rw [if_pos (hi1 (by omega))]
                        refine ⟨⟨hf.wd (by decide) (by decide) (by decide), ?_, fun _ => ⟨(hf.1 32 (by decide)).trans hq.2.1, hf.1 33 (by decide)⟩, fun z => absurd rfl z⟩, fun _ => ?_⟩
                        · show Sa.1 30 = nI (pzD (ab L B) 4 p 0).1
                          rw [← he]; exact h30
                        · exact congrArg Prod.snd he)
                    | exact vs_iret C F dX12_one_242 rfl (by
                        rw [hv]; unfold pzA
                        rw [if_neg (by rw [← hyp]; exact no), if_neg hn]
                        exact ⟨⟨(hf.wd (by decide) (by decide) (by decide) : vs_fr [30, 32, 33] [] [] S Sa).us (by decide), by rw [← hyp]; exact h30, fun z => absurd (show false = true from z) (by decide), fun _ => by rw [← hyp]; exact h30⟩, fun z => by cases z⟩)
                  · exact absurd q231 (by decide)
                · exact absurd (by decide +kernel : (4 : Int32) ≤ nI 4) q179
              | succ f ih =>
                intro i y v Sa hi hy hf h30 he hi0 hi1
                rw [pzDS f] at he
                refine vv_iload C dX12_one_176 rfl ?_
                refine vv_iconst C dX12_one_178 ic_4 ?_
                refine vv_icmp_ge (tgt := 229) C dX12_one_179 (by decide) (fun q179 => ?_) (fun q179 => ?_)
                · exact absurd q179 (by rw [xn_lit, xn_le (by omega) (by omega)]; omega)
                · skip
                  refine vv_aload_n C dX12_one_182 rfl ?_
                  refine vs_caliF C dX12_one_183 (c_X12_byteAt g Sa L B N (hI.fr (hf.wd (by decide) (by decide) (by decide))) y hy h30) mb_X12_byteAt mv_X12_byteAt lk_X12_222 ce_65 rfl rfl rfl rfl ⟨by omega, by omega, Nat.le_of_ble_eq_true rfl⟩ ?_
                  refine vv_bipush C dX12_one_186 bp_48 ?_
                  refine vv_icmp_lt (tgt := 229) C dX12_one_188 (by decide) (fun q188 => ?_) (fun q188 => ?_)
                  · have no : ¬ (48 ≤ ab L B y ∧ ab L B y ≤ 57) := fun z => Int32.not_lt.mpr z.1 q188
                    rw [if_neg no] at he
                    refine vv_iload C dX12_one_229 rfl ?_
                    refine vv_if_ne (tgt := 241) C dX12_one_231 (by decide) (fun q231 => ?_) (fun q231 => ?_)
                    · have hipos : 0 < i := by
                        apply Decidable.byContradiction
                        intro z
                        exact q231 (by rw [show i = 0 by omega]; rfl)
                      refine vv_iload_n C dX12_one_241 rfl ?_
                      first
                      | exact vs_iret C F dX12_one_242 rfl (by
                          rw [hv]; unfold pzA
                          rw [if_pos (hi1 (by omega))]
                          refine ⟨⟨hf.wd (by decide) (by decide) (by decide), ?_, fun _ => ⟨(hf.1 32 (by decide)).trans hq.2.1, hf.1 33 (by decide)⟩, fun z => absurd rfl z⟩, fun _ => ?_⟩
                          · show Sa.1 30 = nI (pzD (ab L B) 4 p 0).1
                            rw [← he]; exact h30
                          · exact congrArg Prod.snd he)
                      | exact vs_iret C F dX12_one_242 rfl (by
                          rw [hv]; unfold pzA
                          rw [if_neg (by rw [← hyp]; exact no), if_neg hn]
                          exact ⟨⟨(hf.wd (by decide) (by decide) (by decide) : vs_fr [30, 32, 33] [] [] S Sa).us (by decide), by rw [← hyp]; exact h30, fun z => absurd (show false = true from z) (by decide), fun _ => by rw [← hyp]; exact h30⟩, fun z => by cases z⟩)
                    · have hi00 : i = 0 := (xn_eq (by omega) (by omega)).mp (show nI i = nI 0 from q231)
                      have hyp := hi0 hi00
                      refine vv_aload_n C dX12_one_234 rfl ?_
                      refine vs_caliF C dX12_one_235 (c_X12_wrongN g Sa ((hf.1 32 (by decide)).trans hq.2.1)) mb_X12_wrong mv_X12_wrong lk_X12_247 ce_65 rfl rfl rfl rfl ⟨by omega, by omega, Nat.le_of_ble_eq_true rfl⟩ ?_
                      refine vv_goto (tgt := 242) C dX12_one_238 (by decide) ?_
                      first
                      | exact vs_iret C F dX12_one_242 rfl (by
                          rw [hv]; unfold pzA
                          rw [if_pos (hi1 (by omega))]
                          refine ⟨⟨hf.wd (by decide) (by decide) (by decide), ?_, fun _ => ⟨(hf.1 32 (by decide)).trans hq.2.1, hf.1 33 (by decide)⟩, fun z => absurd rfl z⟩, fun _ => ?_⟩
                          · show Sa.1 30 = nI (pzD (ab L B) 4 p 0).1
                            rw [← he]; exact h30
                          · exact congrArg Prod.snd he)
                      | exact vs_iret C F dX12_one_242 rfl (by
                          rw [hv]; unfold pzA
                          rw [if_neg (by rw [← hyp]; exact no), if_neg hn]
                          exact ⟨⟨(hf.wd (by decide) (by decide) (by decide) : vs_fr [30, 32, 33] [] [] S Sa).us (by decide), by rw [← hyp]; exact h30, fun z => absurd (show false = true from z) (by decide), fun _ => by rw [← hyp]; exact h30⟩, fun z => by cases z⟩)
                  · skip
                    refine vv_aload_n C dX12_one_191 rfl ?_
                    refine vs_caliF C dX12_one_192 (c_X12_byteAt g Sa L B N (hI.fr (hf.wd (by decide) (by decide) (by decide))) y hy h30) mb_X12_byteAt mv_X12_byteAt lk_X12_222 ce_65 rfl rfl rfl rfl ⟨by omega, by omega, Nat.le_of_ble_eq_true rfl⟩ ?_
                    refine vv_bipush C dX12_one_195 bp_57 ?_
                    refine vv_icmp_gt (tgt := 229) C dX12_one_197 (by decide) (fun q197 => ?_) (fun q197 => ?_)
                    · have no : ¬ (48 ≤ ab L B y ∧ ab L B y ≤ 57) := fun z => Int32.not_lt.mpr z.2 q197
                      rw [if_neg no] at he
                      refine vv_iload C dX12_one_229 rfl ?_
                      refine vv_if_ne (tgt := 241) C dX12_one_231 (by decide) (fun q231 => ?_) (fun q231 => ?_)
                      · have hipos : 0 < i := by
                          apply Decidable.byContradiction
                          intro z
                          exact q231 (by rw [show i = 0 by omega]; rfl)
                        refine vv_iload_n C dX12_one_241 rfl ?_
                        first
                        | exact vs_iret C F dX12_one_242 rfl (by
                            rw [hv]; unfold pzA
                            rw [if_pos (hi1 (by omega))]
                            refine ⟨⟨hf.wd (by decide) (by decide) (by decide), ?_, fun _ => ⟨(hf.1 32 (by decide)).trans hq.2.1, hf.1 33 (by decide)⟩, fun z => absurd rfl z⟩, fun _ => ?_⟩
                            · show Sa.1 30 = nI (pzD (ab L B) 4 p 0).1
                              rw [← he]; exact h30
                            · exact congrArg Prod.snd he)
                        | exact vs_iret C F dX12_one_242 rfl (by
                            rw [hv]; unfold pzA
                            rw [if_neg (by rw [← hyp]; exact no), if_neg hn]
                            exact ⟨⟨(hf.wd (by decide) (by decide) (by decide) : vs_fr [30, 32, 33] [] [] S Sa).us (by decide), by rw [← hyp]; exact h30, fun z => absurd (show false = true from z) (by decide), fun _ => by rw [← hyp]; exact h30⟩, fun z => by cases z⟩)
                      · have hi00 : i = 0 := (xn_eq (by omega) (by omega)).mp (show nI i = nI 0 from q231)
                        have hyp := hi0 hi00
                        refine vv_aload_n C dX12_one_234 rfl ?_
                        refine vs_caliF C dX12_one_235 (c_X12_wrongN g Sa ((hf.1 32 (by decide)).trans hq.2.1)) mb_X12_wrong mv_X12_wrong lk_X12_247 ce_65 rfl rfl rfl rfl ⟨by omega, by omega, Nat.le_of_ble_eq_true rfl⟩ ?_
                        refine vv_goto (tgt := 242) C dX12_one_238 (by decide) ?_
                        first
                        | exact vs_iret C F dX12_one_242 rfl (by
                            rw [hv]; unfold pzA
                            rw [if_pos (hi1 (by omega))]
                            refine ⟨⟨hf.wd (by decide) (by decide) (by decide), ?_, fun _ => ⟨(hf.1 32 (by decide)).trans hq.2.1, hf.1 33 (by decide)⟩, fun z => absurd rfl z⟩, fun _ => ?_⟩
                            · show Sa.1 30 = nI (pzD (ab L B) 4 p 0).1
                              rw [← he]; exact h30
                            · exact congrArg Prod.snd he)
                        | exact vs_iret C F dX12_one_242 rfl (by
                            rw [hv]; unfold pzA
                            rw [if_neg (by rw [← hyp]; exact no), if_neg hn]
                            exact ⟨⟨(hf.wd (by decide) (by decide) (by decide) : vs_fr [30, 32, 33] [] [] S Sa).us (by decide), by rw [← hyp]; exact h30, fun z => absurd (show false = true from z) (by decide), fun _ => by rw [← hyp]; exact h30⟩, fun z => by cases z⟩)
                    · have yes : 48 ≤ ab L B y ∧ ab L B y ≤ 57 := ⟨Int32.not_lt.mp q188, Int32.not_lt.mp q197⟩
                      rw [if_pos yes] at he
                      have hyL : y < L := bl_nb ab_bl (fun z => bl_d z yes)
                      refine vv_bipush C dX12_one_200 bp_10 ?_
                      refine vv_iload_n C dX12_one_202 rfl ?_
                      refine vv_imul C dX12_one_203 ?_
                      refine vs_eqi (v9 := v * 10) (Int32.mul_comm _ _) ?_
                      refine vv_aload_n C dX12_one_204 rfl ?_
                      refine vs_caliF C dX12_one_205 (c_X12_byteAt g Sa L B N (hI.fr (hf.wd (by decide) (by decide) (by decide))) y hy h30) mb_X12_byteAt mv_X12_byteAt lk_X12_222 ce_65 rfl rfl rfl rfl ⟨by omega, by omega, Nat.le_of_ble_eq_true rfl⟩ ?_
                      refine vv_iadd C dX12_one_208 ?_
                      refine vv_bipush C dX12_one_209 bp_48 ?_
                      refine vv_isub C dX12_one_211 ?_
                      refine vw_istore_n (lv9 := [_, _, _, _, _]) C dX12_one_212 (by decide) rfl rfl ?_
                      refine vw_iinc (lv9 := [_, _, _, _, _]) C dX12_one_213 rfl ic_1 (by decide) rfl rfl ?_
                      refine vv_aload_n C dX12_one_216 rfl ?_
                      refine vv_dup C dX12_one_217 rfl ?_
                      refine gf_X12_at C dX12_one_218 fg_X12_210 ?_
                      refine vs_eqi (v9 := nI y) (h30) ?_
                      refine vv_iconst C dX12_one_221 ic_1 ?_
                      refine vv_iadd C dX12_one_222 ?_
                      refine vs_eqi (v9 := nI (y + 1)) (nI_1 _) ?_
                      refine pf_X12_at C dX12_one_223 fp_X12_210 ?_
                      refine vv_goto (tgt := 176) C dX12_one_226 (by decide) ?_
                      rw [nI_1]
                      exact ih (i + 1) (y + 1) _ _ (by omega) (by omega) (hf.us (by decide)) rfl he (fun z => absurd z (by omega)) (fun _ => by
                        by_cases z : i = 0
                        · rw [← hi0 z]; exact yes
                        · exact hi1 (by omega))
            exact loop 4 0 p 0 S (by omega) hp vs_fr.rf hq.1 rfl (fun _ => rfl) (fun z => absurd z (by omega))
          · have hn : tkN (ab L B p) < 5 := by
              apply Decidable.byContradiction
              intro z
              rw [if_neg z] at q151
              exact q151 (by decide)
            have hpL : p < L := bl_nb ab_bl (fun z => by rw [bl_N z] at hn; omega)
            have nd : ¬ (48 ≤ (ab L B p) ∧ (ab L B p) ≤ 57) := fun z => by rcases tkN_b hn with e | e | e | e | e <;> (rw [e] at z; exact absurd z (by decide))
            refine vv_aload_n C dX12_one_154 rfl ?_
            refine vv_dup C dX12_one_155 rfl ?_
            refine gf_X12_at C dX12_one_156 fg_X12_210 ?_
            refine vs_eqi (v9 := nI p) (hq.1) ?_
            refine vv_iconst C dX12_one_159 ic_1 ?_
            refine vv_iadd C dX12_one_160 ?_
            refine vs_eqi (v9 := nI (p + 1)) (nI_1 _) ?_
            refine pf_X12_at C dX12_one_161 fp_X12_210 ?_
            refine vv_aload_n C dX12_one_164 rfl ?_
            refine gf_X12_names C dX12_one_165 fg_X12_50 ?_
            refine vv_iload_n C dX12_one_168 rfl ?_
            refine vs_eqi (v9 := nI (tkN (ab L B p))) (if_pos hn) ?_
            refine ld_78 C dX12_one_169 (xn_in (by omega) (by omega)) ?_
            refine vs_eqi (v9 := N (tkN (ab L B p))) (by rw [xn_cl (by omega)]; exact congrFun hI.2.2.2 _) ?_
            exact vs_iret C F dX12_one_170 rfl (by rw [hv]; unfold pzA; rw [if_neg nd, if_pos hn]; exact ⟨⟨vs_fr.rf.us (by decide), rfl, fun _ => ⟨hq.2.1, rfl⟩, fun z => absurd rfl z⟩, fun _ => rfl⟩)
        · have hop : ab L B p = 33 ∨ ab L B p = 45 ∨ ab L B p = 40 := Or.inr (Or.inr q29)
          refine vv_aload_n C dX12_one_32 rfl ?_
          refine gf_X12_opened C dX12_one_33 fg_X12_244 ?_
          refine vs_eqi (v9 := nI 6) (hq.2.2) ?_
          refine vv_bipush C dX12_one_36 bp_6 ?_
          refine vv_icmp_ne (tgt := 46) C dX12_one_38 (by decide) (fun q38 => ?_) (fun q38 => ?_)
          · exact absurd rfl q38
          · skip
            refine vv_aload_n C dX12_one_41 rfl ?_
            refine vs_caliF C dX12_one_42 (c_X12_wrongN g S hq.2.1) mb_X12_wrong mv_X12_wrong lk_X12_247 ce_65 rfl rfl rfl rfl ⟨by omega, by omega, Nat.le_of_ble_eq_true rfl⟩ ?_
            exact vs_iret C F dX12_one_45 rfl (by rw [hv]; unfold pzA; rw [if_neg (fun z => by rcases hop with e | e | e <;> (rw [e] at z; exact absurd z (by decide))), if_neg (fun z => by rcases hop with e | e | e <;> (rw [e] at z; exact absurd z (by decide)))]; exact ⟨⟨vs_fr.rf.us (by decide), hq.1, fun z => absurd (show false = true from z) (by decide), fun _ => hq.1⟩, fun z => by cases z⟩)
  · exact absurd (by rw [hq.2.1]; decide) q4
set_option maxRecDepth 20000 in
theorem c_X12_oneS (g : vv_G) (r d : Nat) (hr6 : r < 6) (hd : 3 ≤ d) (hO : RjM g yX12_one cX12_one 5 0 r d) (hE : RjM g yX12_either cX12_either 3 5 r (d + 5)) (S : vs_S) (L : Nat) (B N : Nat → Int32) (hI : iX S L B N) (p : Nat) (hp : p ≤ L) (hq : qX S p (r + 1)) : vs_KI g yX12_one cX12_one 5 (some .int) (d + 6) [vv_r g 65] S (fun v S1 => zX S S1 (pzR (pzO (ab L B) (r + 1)) (ab L B) 0 p) ∧ ((pzR (pzO (ab L B) (r + 1)) (ab L B) 0 p).1 = true → v = (pzR (pzO (ab L B) (r + 1)) (ab L B) 0 p).2.2.2 N)) := by
  have hL := hI.2.1
  refine vs_ofI (lv := [_, _, _, _, _]) mb_X12_one (Nat.le_of_ble_eq_true rfl) rfl (fun x C F => ?_)
  refine vv_aload_n C dX12_one_0 rfl ?_
  refine gf_X12_fault C dX12_one_1 fg_X12_219 ?_
  refine vv_if_lt (tgt := 9) C dX12_one_4 (by decide) (fun q4 => ?_) (fun q4 => ?_)
  · skip
    refine vv_aload_n C dX12_one_9 rfl ?_
    refine vs_caliF C dX12_one_10 (c_X12_byteAt g S L B N hI p hp hq.1) mb_X12_byteAt mv_X12_byteAt lk_X12_222 ce_65 rfl rfl rfl rfl ⟨by omega, by omega, Nat.le_of_ble_eq_true rfl⟩ ?_
    refine vw_istore_n (lv9 := [_, _, _, _, _]) C dX12_one_13 (by decide) rfl rfl ?_
    refine vv_iload_n C dX12_one_14 rfl ?_
    refine vv_bipush C dX12_one_15 bp_33 ?_
    refine vv_icmp_eq (tgt := 32) C dX12_one_17 (by decide) (fun q17 => ?_) (fun q17 => ?_)
    · have hop : ab L B p = 33 ∨ ab L B p = 45 ∨ ab L B p = 40 := Or.inl q17
      refine vv_aload_n C dX12_one_32 rfl ?_
      refine gf_X12_opened C dX12_one_33 fg_X12_244 ?_
      refine vs_eqi (v9 := nI (6 - (r + 1))) (hq.2.2) ?_
      refine vv_bipush C dX12_one_36 bp_6 ?_
      refine vv_icmp_ne (tgt := 46) C dX12_one_38 (by decide) (fun q38 => ?_) (fun q38 => ?_)
      · skip
        refine vv_aload_n C dX12_one_46 rfl ?_
        refine vv_dup C dX12_one_47 rfl ?_
        refine gf_X12_opened C dX12_one_48 fg_X12_244 ?_
        refine vs_eqi (v9 := nI (6 - (r + 1))) (hq.2.2) ?_
        refine vv_iconst C dX12_one_51 ic_1 ?_
        refine vv_iadd C dX12_one_52 ?_
        refine vs_eqi (v9 := nI (6 - r)) ((nI_1 _).trans (congrArg nI (by omega))) ?_
        refine pf_X12_opened C dX12_one_53 fp_X12_244 ?_
        refine vv_aload_n C dX12_one_56 rfl ?_
        refine vv_dup C dX12_one_57 rfl ?_
        refine gf_X12_at C dX12_one_58 fg_X12_210 ?_
        refine vs_eqi (v9 := nI p) (hq.1) ?_
        refine vv_iconst C dX12_one_61 ic_1 ?_
        refine vv_iadd C dX12_one_62 ?_
        refine vs_eqi (v9 := nI (p + 1)) (nI_1 _) ?_
        refine pf_X12_at C dX12_one_63 fp_X12_210 ?_
        refine vv_iload_n C dX12_one_66 rfl ?_
        refine vv_bipush C dX12_one_67 bp_40 ?_
        refine vv_icmp_ne (tgt := 79) C dX12_one_69 (by decide) (fun q69 => ?_) (fun q69 => ?_)
        · have hop3 : ab L B p = 33 ∨ ab L B p = 45 := hop.elim Or.inl (fun z => z.elim Or.inr (fun z => absurd z q69))
          have hpL : p < L := bl_nb ab_bl (fun z => hop3.elim (bl_c z (by unfold bl; decide)) (bl_c z (by unfold bl; decide)))
          refine vv_aload_n C dX12_one_79 rfl ?_
          refine vs_calli C dX12_one_80 (hO (vs_us (vs_us S 33 (nI (6 - r))) 30 (nI (p + 1))) L B N (hI.fr ((vs_fr.rf.us (by decide)).us (by decide) : vs_fr [30, 32, 33] [] [] S (vs_us (vs_us S 33 (nI (6 - r))) 30 (nI (p + 1))))) (p + 1) hpL ⟨rfl, hq.2.1, rfl⟩) mb_X12_one mv_X12_one lk_X12_241 ce_65 rfl rfl rfl rfl ⟨by omega, by omega, Nat.le_of_ble_eq_true rfl⟩ (fun r80 S80 p80 => ?_)
          by_cases ht : (pzR (pzO (ab L B) r) (ab L B) 0 (p + 1)).1 = true
          · have e9 := p80.2 ht
            subst e9
            have hv : (pzR (pzO (ab L B) (r + 1)) (ab L B) 0 p) = (true, (pzR (pzO (ab L B) r) (ab L B) 0 (p + 1)).2.1, (pzR (pzO (ab L B) r) (ab L B) 0 (p + 1)).2.2.1 ++ [if ab L B p = 45 then -126 else -(ab L B p)], fun N => if ab L B p = 45 then -((pzR (pzO (ab L B) r) (ab L B) 0 (p + 1)).2.2.2 N) else if (pzR (pzO (ab L B) r) (ab L B) 0 (p + 1)).2.2.2 N = 0 then 1 else 0) := by
              show pzO (ab L B) (r + 1) p = _
              rw [pzOS r, if_neg q69, if_pos hop3]
              exact if_pos ht
            refine vw_istore_n (lv9 := [_, _, _, _, _]) C dX12_one_83 (by decide) rfl rfl ?_
            refine vv_iload_n C dX12_one_84 rfl ?_
            refine vv_bipush C dX12_one_85 bp_40 ?_
            refine vv_icmp_ne (tgt := 104) C dX12_one_87 (by decide) (fun q87 => ?_) (fun q87 => ?_)
            · skip
              refine vv_aload_n C dX12_one_104 rfl ?_
              refine vv_dup C dX12_one_105 rfl ?_
              refine gf_X12_opened C dX12_one_106 fg_X12_244 ?_
              refine vs_eqi (v9 := nI (6 - r)) ((p80.1.2.2.1 ht).2) ?_
              refine vv_iconst C dX12_one_109 ic_1 ?_
              refine vv_isub C dX12_one_110 ?_
              refine vs_eqi (v9 := nI (6 - (r + 1))) ((xn_sub (a := 6 - r) (b := 1) (by omega)).trans (congrArg nI (by omega))) ?_
              refine pf_X12_opened C dX12_one_111 fp_X12_244 ?_
              refine vv_iload_n C dX12_one_114 rfl ?_
              refine vv_bipush C dX12_one_115 bp_40 ?_
              refine vv_icmp_ne (tgt := 124) C dX12_one_117 (by decide) (fun q117 => ?_) (fun q117 => ?_)
              · skip
                refine vv_iload_n C dX12_one_124 rfl ?_
                refine vv_bipush C dX12_one_125 bp_45 ?_
                refine vv_icmp_ne (tgt := 135) C dX12_one_127 (by decide) (fun q127 => ?_) (fun q127 => ?_)
                · refine vv_iload_n C dX12_one_135 rfl ?_
                  refine vv_if_ne (tgt := 143) C dX12_one_136 (by decide) (fun q136 => ?_) (fun q136 => ?_)
                  · refine vv_iconst C dX12_one_143 ic_0 ?_
                    first
                    | exact vs_iret C F dX12_one_144 rfl (by rw [hv]; exact ⟨⟨(((vs_fr.rf.us (by decide)).us (by decide) : vs_fr [30, 32, 33] [] [] S (vs_us (vs_us S 33 (nI (6 - r))) 30 (nI (p + 1)))).tr p80.1.1).us (by decide), p80.1.2.1, fun _ => ⟨(p80.1.2.2.1 ht).1, hq.2.2.symm⟩, fun z => absurd rfl z⟩, fun _ => (if_pos q127).symm⟩)
                    | exact vs_iret C F dX12_one_144 rfl (by rw [hv]; exact ⟨⟨(((vs_fr.rf.us (by decide)).us (by decide) : vs_fr [30, 32, 33] [] [] S (vs_us (vs_us S 33 (nI (6 - r))) 30 (nI (p + 1)))).tr p80.1.1).us (by decide), p80.1.2.1, fun _ => ⟨(p80.1.2.2.1 ht).1, hq.2.2.symm⟩, fun z => absurd rfl z⟩, fun _ => ((if_neg q127).trans (if_pos q136)).symm⟩)
                    | exact vs_iret C F dX12_one_144 rfl (by rw [hv]; exact ⟨⟨(((vs_fr.rf.us (by decide)).us (by decide) : vs_fr [30, 32, 33] [] [] S (vs_us (vs_us S 33 (nI (6 - r))) 30 (nI (p + 1)))).tr p80.1.1).us (by decide), p80.1.2.1, fun _ => ⟨(p80.1.2.2.1 ht).1, hq.2.2.symm⟩, fun z => absurd rfl z⟩, fun _ => ((if_neg q127).trans (if_neg q136)).symm⟩)
                  · refine vv_iconst C dX12_one_139 ic_1 ?_
                    refine vv_goto (tgt := 144) C dX12_one_140 (by decide) ?_
                    first
                    | exact vs_iret C F dX12_one_144 rfl (by rw [hv]; exact ⟨⟨(((vs_fr.rf.us (by decide)).us (by decide) : vs_fr [30, 32, 33] [] [] S (vs_us (vs_us S 33 (nI (6 - r))) 30 (nI (p + 1)))).tr p80.1.1).us (by decide), p80.1.2.1, fun _ => ⟨(p80.1.2.2.1 ht).1, hq.2.2.symm⟩, fun z => absurd rfl z⟩, fun _ => (if_pos q127).symm⟩)
                    | exact vs_iret C F dX12_one_144 rfl (by rw [hv]; exact ⟨⟨(((vs_fr.rf.us (by decide)).us (by decide) : vs_fr [30, 32, 33] [] [] S (vs_us (vs_us S 33 (nI (6 - r))) 30 (nI (p + 1)))).tr p80.1.1).us (by decide), p80.1.2.1, fun _ => ⟨(p80.1.2.2.1 ht).1, hq.2.2.symm⟩, fun z => absurd rfl z⟩, fun _ => ((if_neg q127).trans (if_pos q136)).symm⟩)
                    | exact vs_iret C F dX12_one_144 rfl (by rw [hv]; exact ⟨⟨(((vs_fr.rf.us (by decide)).us (by decide) : vs_fr [30, 32, 33] [] [] S (vs_us (vs_us S 33 (nI (6 - r))) 30 (nI (p + 1)))).tr p80.1.1).us (by decide), p80.1.2.1, fun _ => ⟨(p80.1.2.2.1 ht).1, hq.2.2.symm⟩, fun z => absurd rfl z⟩, fun _ => ((if_neg q127).trans (if_neg q136)).symm⟩)
                · refine vv_iload_n C dX12_one_130 rfl ?_
                  refine vv_ineg C dX12_one_131 ?_
                  refine vv_goto (tgt := 144) C dX12_one_132 (by decide) ?_
                  first
                  | exact vs_iret C F dX12_one_144 rfl (by rw [hv]; exact ⟨⟨(((vs_fr.rf.us (by decide)).us (by decide) : vs_fr [30, 32, 33] [] [] S (vs_us (vs_us S 33 (nI (6 - r))) 30 (nI (p + 1)))).tr p80.1.1).us (by decide), p80.1.2.1, fun _ => ⟨(p80.1.2.2.1 ht).1, hq.2.2.symm⟩, fun z => absurd rfl z⟩, fun _ => (if_pos q127).symm⟩)
                  | exact vs_iret C F dX12_one_144 rfl (by rw [hv]; exact ⟨⟨(((vs_fr.rf.us (by decide)).us (by decide) : vs_fr [30, 32, 33] [] [] S (vs_us (vs_us S 33 (nI (6 - r))) 30 (nI (p + 1)))).tr p80.1.1).us (by decide), p80.1.2.1, fun _ => ⟨(p80.1.2.2.1 ht).1, hq.2.2.symm⟩, fun z => absurd rfl z⟩, fun _ => ((if_neg q127).trans (if_pos q136)).symm⟩)
                  | exact vs_iret C F dX12_one_144 rfl (by rw [hv]; exact ⟨⟨(((vs_fr.rf.us (by decide)).us (by decide) : vs_fr [30, 32, 33] [] [] S (vs_us (vs_us S 33 (nI (6 - r))) 30 (nI (p + 1)))).tr p80.1.1).us (by decide), p80.1.2.1, fun _ => ⟨(p80.1.2.2.1 ht).1, hq.2.2.symm⟩, fun z => absurd rfl z⟩, fun _ => ((if_neg q127).trans (if_neg q136)).symm⟩)
              · exact absurd q117 q69
            · exact absurd q87 q69
          · have h32 := p80.1.2.2.2 ht
            have hv : (pzR (pzO (ab L B) (r + 1)) (ab L B) 0 p) = pF (pzR (pzO (ab L B) r) (ab L B) 0 (p + 1)).2.1 := by
              show pzO (ab L B) (r + 1) p = _
              rw [pzOS r, if_neg q69, if_pos hop3]
              exact if_neg ht
            refine vw_istore_n (lv9 := [_, _, _, _, _]) C dX12_one_83 (by decide) rfl rfl ?_
            refine vv_iload_n C dX12_one_84 rfl ?_
            refine vv_bipush C dX12_one_85 bp_40 ?_
            refine vv_icmp_ne (tgt := 104) C dX12_one_87 (by decide) (fun q87 => ?_) (fun q87 => ?_)
            · skip
              refine vv_aload_n C dX12_one_104 rfl ?_
              refine vv_dup C dX12_one_105 rfl ?_
              refine gf_X12_opened C dX12_one_106 fg_X12_244 ?_
              refine vv_iconst C dX12_one_109 ic_1 ?_
              refine vv_isub C dX12_one_110 ?_
              refine pf_X12_opened C dX12_one_111 fp_X12_244 ?_
              refine vv_iload_n C dX12_one_114 rfl ?_
              refine vv_bipush C dX12_one_115 bp_40 ?_
              refine vv_icmp_ne (tgt := 124) C dX12_one_117 (by decide) (fun q117 => ?_) (fun q117 => ?_)
              · skip
                refine vv_iload_n C dX12_one_124 rfl ?_
                refine vv_bipush C dX12_one_125 bp_45 ?_
                refine vv_icmp_ne (tgt := 135) C dX12_one_127 (by decide) (fun q127 => ?_) (fun q127 => ?_)
                · refine vv_iload_n C dX12_one_135 rfl ?_
                  refine vv_if_ne (tgt := 143) C dX12_one_136 (by decide) (fun q136 => ?_) (fun q136 => ?_)
                  · refine vv_iconst C dX12_one_143 ic_0 ?_
                    exact vs_iret C F dX12_one_144 rfl (by rw [hv]; exact ⟨⟨(((vs_fr.rf.us (by decide)).us (by decide) : vs_fr [30, 32, 33] [] [] S (vs_us (vs_us S 33 (nI (6 - r))) 30 (nI (p + 1)))).tr p80.1.1).us (by decide), p80.1.2.1, fun z => absurd (show false = true from z) (by decide), fun _ => h32⟩, fun z => by cases z⟩)
                  · refine vv_iconst C dX12_one_139 ic_1 ?_
                    refine vv_goto (tgt := 144) C dX12_one_140 (by decide) ?_
                    exact vs_iret C F dX12_one_144 rfl (by rw [hv]; exact ⟨⟨(((vs_fr.rf.us (by decide)).us (by decide) : vs_fr [30, 32, 33] [] [] S (vs_us (vs_us S 33 (nI (6 - r))) 30 (nI (p + 1)))).tr p80.1.1).us (by decide), p80.1.2.1, fun z => absurd (show false = true from z) (by decide), fun _ => h32⟩, fun z => by cases z⟩)
                · refine vv_iload_n C dX12_one_130 rfl ?_
                  refine vv_ineg C dX12_one_131 ?_
                  refine vv_goto (tgt := 144) C dX12_one_132 (by decide) ?_
                  exact vs_iret C F dX12_one_144 rfl (by rw [hv]; exact ⟨⟨(((vs_fr.rf.us (by decide)).us (by decide) : vs_fr [30, 32, 33] [] [] S (vs_us (vs_us S 33 (nI (6 - r))) 30 (nI (p + 1)))).tr p80.1.1).us (by decide), p80.1.2.1, fun z => absurd (show false = true from z) (by decide), fun _ => h32⟩, fun z => by cases z⟩)
              · exact absurd q117 q69
            · exact absurd q87 q69
        · have hpL : p < L := bl_nb ab_bl (fun z => bl_c z (by unfold bl; decide) q69)
          refine vv_aload_n C dX12_one_72 rfl ?_
          refine vs_calli C dX12_one_73 (hE (vs_us (vs_us S 33 (nI (6 - r))) 30 (nI (p + 1))) L B N (hI.fr ((vs_fr.rf.us (by decide)).us (by decide) : vs_fr [30, 32, 33] [] [] S (vs_us (vs_us S 33 (nI (6 - r))) 30 (nI (p + 1))))) (p + 1) hpL ⟨rfl, hq.2.1, rfl⟩) mb_X12_either mv_X12_either lk_X12_250 ce_65 rfl rfl rfl rfl ⟨by omega, by omega, Nat.le_of_ble_eq_true rfl⟩ (fun r73 S73 p73 => ?_)
          have hpo := pOk_M (B := B) r 5 (p + 1) hpL
          by_cases ht : (pzR (pzO (ab L B) r) (ab L B) 5 (p + 1)).1 = true
          · have e9 := p73.2 ht
            subst e9
            by_cases hc : ab L B (pzR (pzO (ab L B) r) (ab L B) 5 (p + 1)).2.1 = 41
            · have hv : (pzR (pzO (ab L B) (r + 1)) (ab L B) 0 p) = (true, (pzR (pzO (ab L B) r) (ab L B) 5 (p + 1)).2.1 + 1, (pzR (pzO (ab L B) r) (ab L B) 5 (p + 1)).2.2) := by
                show pzO (ab L B) (r + 1) p = _
                rw [pzOS r, if_pos q69]
                unfold pz2
                rw [if_pos ht, if_pos hc]
              refine vv_goto (tgt := 83) C dX12_one_76 (by decide) ?_
              refine vw_istore_n (lv9 := [_, _, _, _, _]) C dX12_one_83 (by decide) rfl rfl ?_
              refine vv_iload_n C dX12_one_84 rfl ?_
              refine vv_bipush C dX12_one_85 bp_40 ?_
              refine vv_icmp_ne (tgt := 104) C dX12_one_87 (by decide) (fun q87 => ?_) (fun q87 => ?_)
              · exact absurd q69 q87
              · skip
                refine vv_aload_n C dX12_one_90 rfl ?_
                refine vv_bipush C dX12_one_91 bp_41 ?_
                refine vs_caliF C dX12_one_93 (c_X12_takesY g S73 L B N (hI.fr (((vs_fr.rf.us (by decide)).us (by decide) : vs_fr [30, 32, 33] [] [] S (vs_us (vs_us S 33 (nI (6 - r))) 30 (nI (p + 1)))).tr p73.1.1)) (pzR (pzO (ab L B) r) (ab L B) 5 (p + 1)).2.1 hpo.1 p73.1.2.1 (p73.1.2.2.1 ht).1 41 hc) mb_X12_takes mv_X12_takes lk_X12_229 ce_65 rfl rfl rfl rfl ⟨by omega, by omega, Nat.le_of_ble_eq_true rfl⟩ ?_
                refine vv_if_ne (tgt := 104) C dX12_one_96 (by decide) (fun q96 => ?_) (fun q96 => ?_)
                · skip
                  refine vv_aload_n C dX12_one_104 rfl ?_
                  refine vv_dup C dX12_one_105 rfl ?_
                  refine gf_X12_opened C dX12_one_106 fg_X12_244 ?_
                  refine vs_eqi (v9 := nI (6 - r)) ((p73.1.2.2.1 ht).2) ?_
                  refine vv_iconst C dX12_one_109 ic_1 ?_
                  refine vv_isub C dX12_one_110 ?_
                  refine vs_eqi (v9 := nI (6 - (r + 1))) ((xn_sub (a := 6 - r) (b := 1) (by omega)).trans (congrArg nI (by omega))) ?_
                  refine pf_X12_opened C dX12_one_111 fp_X12_244 ?_
                  refine vv_iload_n C dX12_one_114 rfl ?_
                  refine vv_bipush C dX12_one_115 bp_40 ?_
                  refine vv_icmp_ne (tgt := 124) C dX12_one_117 (by decide) (fun q117 => ?_) (fun q117 => ?_)
                  · exact absurd q69 q117
                  · skip
                    refine vv_iload_n C dX12_one_120 rfl ?_
                    refine vv_goto (tgt := 144) C dX12_one_121 (by decide) ?_
                    exact vs_iret C F dX12_one_144 rfl (by rw [hv]; exact ⟨⟨((((vs_fr.rf.us (by decide)).us (by decide) : vs_fr [30, 32, 33] [] [] S (vs_us (vs_us S 33 (nI (6 - r))) 30 (nI (p + 1)))).tr p73.1.1).us (by decide)).us (by decide), rfl, fun _ => ⟨(p73.1.2.2.1 ht).1, hq.2.2.symm⟩, fun z => absurd rfl z⟩, fun _ => rfl⟩)
                · exact absurd q96 (by decide)
            · have hv : (pzR (pzO (ab L B) (r + 1)) (ab L B) 0 p) = pF (pzR (pzO (ab L B) r) (ab L B) 5 (p + 1)).2.1 := by
                show pzO (ab L B) (r + 1) p = _
                rw [pzOS r, if_pos q69]
                unfold pz2
                rw [if_pos ht, if_neg hc]
              refine vv_goto (tgt := 83) C dX12_one_76 (by decide) ?_
              refine vw_istore_n (lv9 := [_, _, _, _, _]) C dX12_one_83 (by decide) rfl rfl ?_
              refine vv_iload_n C dX12_one_84 rfl ?_
              refine vv_bipush C dX12_one_85 bp_40 ?_
              refine vv_icmp_ne (tgt := 104) C dX12_one_87 (by decide) (fun q87 => ?_) (fun q87 => ?_)
              · exact absurd q69 q87
              · skip
                refine vv_aload_n C dX12_one_90 rfl ?_
                refine vv_bipush C dX12_one_91 bp_41 ?_
                refine vs_caliF C dX12_one_93 (c_X12_takesN g S73 L B N (hI.fr (((vs_fr.rf.us (by decide)).us (by decide) : vs_fr [30, 32, 33] [] [] S (vs_us (vs_us S 33 (nI (6 - r))) 30 (nI (p + 1)))).tr p73.1.1)) (pzR (pzO (ab L B) r) (ab L B) 5 (p + 1)).2.1 hpo.1 p73.1.2.1 41 (fun z => hc z.2) (Or.inl (p73.1.2.2.1 ht).1)) mb_X12_takes mv_X12_takes lk_X12_229 ce_65 rfl rfl rfl rfl ⟨by omega, by omega, Nat.le_of_ble_eq_true rfl⟩ ?_
                refine vv_if_ne (tgt := 104) C dX12_one_96 (by decide) (fun q96 => ?_) (fun q96 => ?_)
                · exact absurd rfl q96
                · skip
                  refine vv_aload_n C dX12_one_99 rfl ?_
                  refine vs_caliF C dX12_one_100 (c_X12_wrongN g S73 (p73.1.2.2.1 ht).1) mb_X12_wrong mv_X12_wrong lk_X12_247 ce_65 rfl rfl rfl rfl ⟨by omega, by omega, Nat.le_of_ble_eq_true rfl⟩ ?_
                  exact vs_iret C F dX12_one_103 rfl (by rw [hv]; exact ⟨⟨(((vs_fr.rf.us (by decide)).us (by decide) : vs_fr [30, 32, 33] [] [] S (vs_us (vs_us S 33 (nI (6 - r))) 30 (nI (p + 1)))).tr p73.1.1).us (by decide), p73.1.2.1, fun z => absurd (show false = true from z) (by decide), fun _ => p73.1.2.1⟩, fun z => by cases z⟩)
          · have h32 := p73.1.2.2.2 ht
            have hy31 : (pzR (pzO (ab L B) r) (ab L B) 5 (p + 1)).2.1 < 2 ^ 31 := by have := hpo.1; omega
            have hv : (pzR (pzO (ab L B) (r + 1)) (ab L B) 0 p) = pF (pzR (pzO (ab L B) r) (ab L B) 5 (p + 1)).2.1 := by
              show pzO (ab L B) (r + 1) p = _
              rw [pzOS r, if_pos q69]
              unfold pz2
              rw [if_neg ht]
            refine vv_goto (tgt := 83) C dX12_one_76 (by decide) ?_
            refine vw_istore_n (lv9 := [_, _, _, _, _]) C dX12_one_83 (by decide) rfl rfl ?_
            refine vv_iload_n C dX12_one_84 rfl ?_
            refine vv_bipush C dX12_one_85 bp_40 ?_
            refine vv_icmp_ne (tgt := 104) C dX12_one_87 (by decide) (fun q87 => ?_) (fun q87 => ?_)
            · exact absurd q69 q87
            · skip
              refine vv_aload_n C dX12_one_90 rfl ?_
              refine vv_bipush C dX12_one_91 bp_41 ?_
              refine vs_caliF C dX12_one_93 (c_X12_takesN g S73 L B N (hI.fr (((vs_fr.rf.us (by decide)).us (by decide) : vs_fr [30, 32, 33] [] [] S (vs_us (vs_us S 33 (nI (6 - r))) 30 (nI (p + 1)))).tr p73.1.1)) (pzR (pzO (ab L B) r) (ab L B) 5 (p + 1)).2.1 hpo.1 p73.1.2.1 41 (fun z => nf_no hy31 h32 z.1) (Or.inr (nf_ge hy31 h32))) mb_X12_takes mv_X12_takes lk_X12_229 ce_65 rfl rfl rfl rfl ⟨by omega, by omega, Nat.le_of_ble_eq_true rfl⟩ ?_
              refine vv_if_ne (tgt := 104) C dX12_one_96 (by decide) (fun q96 => ?_) (fun q96 => ?_)
              · exact absurd rfl q96
              · skip
                refine vv_aload_n C dX12_one_99 rfl ?_
                refine vs_caliF C dX12_one_100 (c_X12_wrongY g S73 (pzR (pzO (ab L B) r) (ab L B) 5 (p + 1)).2.1 hy31 h32) mb_X12_wrong mv_X12_wrong lk_X12_247 ce_65 rfl rfl rfl rfl ⟨by omega, by omega, Nat.le_of_ble_eq_true rfl⟩ ?_
                exact vs_iret C F dX12_one_103 rfl (by rw [hv]; exact ⟨⟨(((vs_fr.rf.us (by decide)).us (by decide) : vs_fr [30, 32, 33] [] [] S (vs_us (vs_us S 33 (nI (6 - r))) 30 (nI (p + 1)))).tr p73.1.1).us (by decide), p73.1.2.1, fun z => absurd (show false = true from z) (by decide), fun _ => rfl⟩, fun z => by cases z⟩)
      · exact absurd ((xn_eq (by omega) (by omega)).mp (show nI (6 - (r + 1)) = nI 6 from q38)) (by omega)
    · skip
      refine vv_iload_n C dX12_one_20 rfl ?_
      refine vv_bipush C dX12_one_21 bp_45 ?_
      refine vv_icmp_eq (tgt := 32) C dX12_one_23 (by decide) (fun q23 => ?_) (fun q23 => ?_)
      · have hop : ab L B p = 33 ∨ ab L B p = 45 ∨ ab L B p = 40 := Or.inr (Or.inl q23)
        refine vv_aload_n C dX12_one_32 rfl ?_
        refine gf_X12_opened C dX12_one_33 fg_X12_244 ?_
        refine vs_eqi (v9 := nI (6 - (r + 1))) (hq.2.2) ?_
        refine vv_bipush C dX12_one_36 bp_6 ?_
        refine vv_icmp_ne (tgt := 46) C dX12_one_38 (by decide) (fun q38 => ?_) (fun q38 => ?_)
        · skip
          refine vv_aload_n C dX12_one_46 rfl ?_
          refine vv_dup C dX12_one_47 rfl ?_
          refine gf_X12_opened C dX12_one_48 fg_X12_244 ?_
          refine vs_eqi (v9 := nI (6 - (r + 1))) (hq.2.2) ?_
          refine vv_iconst C dX12_one_51 ic_1 ?_
          refine vv_iadd C dX12_one_52 ?_
          refine vs_eqi (v9 := nI (6 - r)) ((nI_1 _).trans (congrArg nI (by omega))) ?_
          refine pf_X12_opened C dX12_one_53 fp_X12_244 ?_
          refine vv_aload_n C dX12_one_56 rfl ?_
          refine vv_dup C dX12_one_57 rfl ?_
          refine gf_X12_at C dX12_one_58 fg_X12_210 ?_
          refine vs_eqi (v9 := nI p) (hq.1) ?_
          refine vv_iconst C dX12_one_61 ic_1 ?_
          refine vv_iadd C dX12_one_62 ?_
          refine vs_eqi (v9 := nI (p + 1)) (nI_1 _) ?_
          refine pf_X12_at C dX12_one_63 fp_X12_210 ?_
          refine vv_iload_n C dX12_one_66 rfl ?_
          refine vv_bipush C dX12_one_67 bp_40 ?_
          refine vv_icmp_ne (tgt := 79) C dX12_one_69 (by decide) (fun q69 => ?_) (fun q69 => ?_)
          · have hop3 : ab L B p = 33 ∨ ab L B p = 45 := hop.elim Or.inl (fun z => z.elim Or.inr (fun z => absurd z q69))
            have hpL : p < L := bl_nb ab_bl (fun z => hop3.elim (bl_c z (by unfold bl; decide)) (bl_c z (by unfold bl; decide)))
            refine vv_aload_n C dX12_one_79 rfl ?_
            refine vs_calli C dX12_one_80 (hO (vs_us (vs_us S 33 (nI (6 - r))) 30 (nI (p + 1))) L B N (hI.fr ((vs_fr.rf.us (by decide)).us (by decide) : vs_fr [30, 32, 33] [] [] S (vs_us (vs_us S 33 (nI (6 - r))) 30 (nI (p + 1))))) (p + 1) hpL ⟨rfl, hq.2.1, rfl⟩) mb_X12_one mv_X12_one lk_X12_241 ce_65 rfl rfl rfl rfl ⟨by omega, by omega, Nat.le_of_ble_eq_true rfl⟩ (fun r80 S80 p80 => ?_)
            by_cases ht : (pzR (pzO (ab L B) r) (ab L B) 0 (p + 1)).1 = true
            · have e9 := p80.2 ht
              subst e9
              have hv : (pzR (pzO (ab L B) (r + 1)) (ab L B) 0 p) = (true, (pzR (pzO (ab L B) r) (ab L B) 0 (p + 1)).2.1, (pzR (pzO (ab L B) r) (ab L B) 0 (p + 1)).2.2.1 ++ [if ab L B p = 45 then -126 else -(ab L B p)], fun N => if ab L B p = 45 then -((pzR (pzO (ab L B) r) (ab L B) 0 (p + 1)).2.2.2 N) else if (pzR (pzO (ab L B) r) (ab L B) 0 (p + 1)).2.2.2 N = 0 then 1 else 0) := by
                show pzO (ab L B) (r + 1) p = _
                rw [pzOS r, if_neg q69, if_pos hop3]
                exact if_pos ht
              refine vw_istore_n (lv9 := [_, _, _, _, _]) C dX12_one_83 (by decide) rfl rfl ?_
              refine vv_iload_n C dX12_one_84 rfl ?_
              refine vv_bipush C dX12_one_85 bp_40 ?_
              refine vv_icmp_ne (tgt := 104) C dX12_one_87 (by decide) (fun q87 => ?_) (fun q87 => ?_)
              · skip
                refine vv_aload_n C dX12_one_104 rfl ?_
                refine vv_dup C dX12_one_105 rfl ?_
                refine gf_X12_opened C dX12_one_106 fg_X12_244 ?_
                refine vs_eqi (v9 := nI (6 - r)) ((p80.1.2.2.1 ht).2) ?_
                refine vv_iconst C dX12_one_109 ic_1 ?_
                refine vv_isub C dX12_one_110 ?_
                refine vs_eqi (v9 := nI (6 - (r + 1))) ((xn_sub (a := 6 - r) (b := 1) (by omega)).trans (congrArg nI (by omega))) ?_
                refine pf_X12_opened C dX12_one_111 fp_X12_244 ?_
                refine vv_iload_n C dX12_one_114 rfl ?_
                refine vv_bipush C dX12_one_115 bp_40 ?_
                refine vv_icmp_ne (tgt := 124) C dX12_one_117 (by decide) (fun q117 => ?_) (fun q117 => ?_)
                · skip
                  refine vv_iload_n C dX12_one_124 rfl ?_
                  refine vv_bipush C dX12_one_125 bp_45 ?_
                  refine vv_icmp_ne (tgt := 135) C dX12_one_127 (by decide) (fun q127 => ?_) (fun q127 => ?_)
                  · refine vv_iload_n C dX12_one_135 rfl ?_
                    refine vv_if_ne (tgt := 143) C dX12_one_136 (by decide) (fun q136 => ?_) (fun q136 => ?_)
                    · refine vv_iconst C dX12_one_143 ic_0 ?_
                      first
                      | exact vs_iret C F dX12_one_144 rfl (by rw [hv]; exact ⟨⟨(((vs_fr.rf.us (by decide)).us (by decide) : vs_fr [30, 32, 33] [] [] S (vs_us (vs_us S 33 (nI (6 - r))) 30 (nI (p + 1)))).tr p80.1.1).us (by decide), p80.1.2.1, fun _ => ⟨(p80.1.2.2.1 ht).1, hq.2.2.symm⟩, fun z => absurd rfl z⟩, fun _ => (if_pos q127).symm⟩)
                      | exact vs_iret C F dX12_one_144 rfl (by rw [hv]; exact ⟨⟨(((vs_fr.rf.us (by decide)).us (by decide) : vs_fr [30, 32, 33] [] [] S (vs_us (vs_us S 33 (nI (6 - r))) 30 (nI (p + 1)))).tr p80.1.1).us (by decide), p80.1.2.1, fun _ => ⟨(p80.1.2.2.1 ht).1, hq.2.2.symm⟩, fun z => absurd rfl z⟩, fun _ => ((if_neg q127).trans (if_pos q136)).symm⟩)
                      | exact vs_iret C F dX12_one_144 rfl (by rw [hv]; exact ⟨⟨(((vs_fr.rf.us (by decide)).us (by decide) : vs_fr [30, 32, 33] [] [] S (vs_us (vs_us S 33 (nI (6 - r))) 30 (nI (p + 1)))).tr p80.1.1).us (by decide), p80.1.2.1, fun _ => ⟨(p80.1.2.2.1 ht).1, hq.2.2.symm⟩, fun z => absurd rfl z⟩, fun _ => ((if_neg q127).trans (if_neg q136)).symm⟩)
                    · refine vv_iconst C dX12_one_139 ic_1 ?_
                      refine vv_goto (tgt := 144) C dX12_one_140 (by decide) ?_
                      first
                      | exact vs_iret C F dX12_one_144 rfl (by rw [hv]; exact ⟨⟨(((vs_fr.rf.us (by decide)).us (by decide) : vs_fr [30, 32, 33] [] [] S (vs_us (vs_us S 33 (nI (6 - r))) 30 (nI (p + 1)))).tr p80.1.1).us (by decide), p80.1.2.1, fun _ => ⟨(p80.1.2.2.1 ht).1, hq.2.2.symm⟩, fun z => absurd rfl z⟩, fun _ => (if_pos q127).symm⟩)
                      | exact vs_iret C F dX12_one_144 rfl (by rw [hv]; exact ⟨⟨(((vs_fr.rf.us (by decide)).us (by decide) : vs_fr [30, 32, 33] [] [] S (vs_us (vs_us S 33 (nI (6 - r))) 30 (nI (p + 1)))).tr p80.1.1).us (by decide), p80.1.2.1, fun _ => ⟨(p80.1.2.2.1 ht).1, hq.2.2.symm⟩, fun z => absurd rfl z⟩, fun _ => ((if_neg q127).trans (if_pos q136)).symm⟩)
                      | exact vs_iret C F dX12_one_144 rfl (by rw [hv]; exact ⟨⟨(((vs_fr.rf.us (by decide)).us (by decide) : vs_fr [30, 32, 33] [] [] S (vs_us (vs_us S 33 (nI (6 - r))) 30 (nI (p + 1)))).tr p80.1.1).us (by decide), p80.1.2.1, fun _ => ⟨(p80.1.2.2.1 ht).1, hq.2.2.symm⟩, fun z => absurd rfl z⟩, fun _ => ((if_neg q127).trans (if_neg q136)).symm⟩)
                  · refine vv_iload_n C dX12_one_130 rfl ?_
                    refine vv_ineg C dX12_one_131 ?_
                    refine vv_goto (tgt := 144) C dX12_one_132 (by decide) ?_
                    first
                    | exact vs_iret C F dX12_one_144 rfl (by rw [hv]; exact ⟨⟨(((vs_fr.rf.us (by decide)).us (by decide) : vs_fr [30, 32, 33] [] [] S (vs_us (vs_us S 33 (nI (6 - r))) 30 (nI (p + 1)))).tr p80.1.1).us (by decide), p80.1.2.1, fun _ => ⟨(p80.1.2.2.1 ht).1, hq.2.2.symm⟩, fun z => absurd rfl z⟩, fun _ => (if_pos q127).symm⟩)
                    | exact vs_iret C F dX12_one_144 rfl (by rw [hv]; exact ⟨⟨(((vs_fr.rf.us (by decide)).us (by decide) : vs_fr [30, 32, 33] [] [] S (vs_us (vs_us S 33 (nI (6 - r))) 30 (nI (p + 1)))).tr p80.1.1).us (by decide), p80.1.2.1, fun _ => ⟨(p80.1.2.2.1 ht).1, hq.2.2.symm⟩, fun z => absurd rfl z⟩, fun _ => ((if_neg q127).trans (if_pos q136)).symm⟩)
                    | exact vs_iret C F dX12_one_144 rfl (by rw [hv]; exact ⟨⟨(((vs_fr.rf.us (by decide)).us (by decide) : vs_fr [30, 32, 33] [] [] S (vs_us (vs_us S 33 (nI (6 - r))) 30 (nI (p + 1)))).tr p80.1.1).us (by decide), p80.1.2.1, fun _ => ⟨(p80.1.2.2.1 ht).1, hq.2.2.symm⟩, fun z => absurd rfl z⟩, fun _ => ((if_neg q127).trans (if_neg q136)).symm⟩)
                · exact absurd q117 q69
              · exact absurd q87 q69
            · have h32 := p80.1.2.2.2 ht
              have hv : (pzR (pzO (ab L B) (r + 1)) (ab L B) 0 p) = pF (pzR (pzO (ab L B) r) (ab L B) 0 (p + 1)).2.1 := by
                show pzO (ab L B) (r + 1) p = _
                rw [pzOS r, if_neg q69, if_pos hop3]
                exact if_neg ht
              refine vw_istore_n (lv9 := [_, _, _, _, _]) C dX12_one_83 (by decide) rfl rfl ?_
              refine vv_iload_n C dX12_one_84 rfl ?_
              refine vv_bipush C dX12_one_85 bp_40 ?_
              refine vv_icmp_ne (tgt := 104) C dX12_one_87 (by decide) (fun q87 => ?_) (fun q87 => ?_)
              · skip
                refine vv_aload_n C dX12_one_104 rfl ?_
                refine vv_dup C dX12_one_105 rfl ?_
                refine gf_X12_opened C dX12_one_106 fg_X12_244 ?_
                refine vv_iconst C dX12_one_109 ic_1 ?_
                refine vv_isub C dX12_one_110 ?_
                refine pf_X12_opened C dX12_one_111 fp_X12_244 ?_
                refine vv_iload_n C dX12_one_114 rfl ?_
                refine vv_bipush C dX12_one_115 bp_40 ?_
                refine vv_icmp_ne (tgt := 124) C dX12_one_117 (by decide) (fun q117 => ?_) (fun q117 => ?_)
                · skip
                  refine vv_iload_n C dX12_one_124 rfl ?_
                  refine vv_bipush C dX12_one_125 bp_45 ?_
                  refine vv_icmp_ne (tgt := 135) C dX12_one_127 (by decide) (fun q127 => ?_) (fun q127 => ?_)
                  · refine vv_iload_n C dX12_one_135 rfl ?_
                    refine vv_if_ne (tgt := 143) C dX12_one_136 (by decide) (fun q136 => ?_) (fun q136 => ?_)
                    · refine vv_iconst C dX12_one_143 ic_0 ?_
                      exact vs_iret C F dX12_one_144 rfl (by rw [hv]; exact ⟨⟨(((vs_fr.rf.us (by decide)).us (by decide) : vs_fr [30, 32, 33] [] [] S (vs_us (vs_us S 33 (nI (6 - r))) 30 (nI (p + 1)))).tr p80.1.1).us (by decide), p80.1.2.1, fun z => absurd (show false = true from z) (by decide), fun _ => h32⟩, fun z => by cases z⟩)
                    · refine vv_iconst C dX12_one_139 ic_1 ?_
                      refine vv_goto (tgt := 144) C dX12_one_140 (by decide) ?_
                      exact vs_iret C F dX12_one_144 rfl (by rw [hv]; exact ⟨⟨(((vs_fr.rf.us (by decide)).us (by decide) : vs_fr [30, 32, 33] [] [] S (vs_us (vs_us S 33 (nI (6 - r))) 30 (nI (p + 1)))).tr p80.1.1).us (by decide), p80.1.2.1, fun z => absurd (show false = true from z) (by decide), fun _ => h32⟩, fun z => by cases z⟩)
                  · refine vv_iload_n C dX12_one_130 rfl ?_
                    refine vv_ineg C dX12_one_131 ?_
                    refine vv_goto (tgt := 144) C dX12_one_132 (by decide) ?_
                    exact vs_iret C F dX12_one_144 rfl (by rw [hv]; exact ⟨⟨(((vs_fr.rf.us (by decide)).us (by decide) : vs_fr [30, 32, 33] [] [] S (vs_us (vs_us S 33 (nI (6 - r))) 30 (nI (p + 1)))).tr p80.1.1).us (by decide), p80.1.2.1, fun z => absurd (show false = true from z) (by decide), fun _ => h32⟩, fun z => by cases z⟩)
                · exact absurd q117 q69
              · exact absurd q87 q69
          · have hpL : p < L := bl_nb ab_bl (fun z => bl_c z (by unfold bl; decide) q69)
            refine vv_aload_n C dX12_one_72 rfl ?_
            refine vs_calli C dX12_one_73 (hE (vs_us (vs_us S 33 (nI (6 - r))) 30 (nI (p + 1))) L B N (hI.fr ((vs_fr.rf.us (by decide)).us (by decide) : vs_fr [30, 32, 33] [] [] S (vs_us (vs_us S 33 (nI (6 - r))) 30 (nI (p + 1))))) (p + 1) hpL ⟨rfl, hq.2.1, rfl⟩) mb_X12_either mv_X12_either lk_X12_250 ce_65 rfl rfl rfl rfl ⟨by omega, by omega, Nat.le_of_ble_eq_true rfl⟩ (fun r73 S73 p73 => ?_)
            have hpo := pOk_M (B := B) r 5 (p + 1) hpL
            by_cases ht : (pzR (pzO (ab L B) r) (ab L B) 5 (p + 1)).1 = true
            · have e9 := p73.2 ht
              subst e9
              by_cases hc : ab L B (pzR (pzO (ab L B) r) (ab L B) 5 (p + 1)).2.1 = 41
              · have hv : (pzR (pzO (ab L B) (r + 1)) (ab L B) 0 p) = (true, (pzR (pzO (ab L B) r) (ab L B) 5 (p + 1)).2.1 + 1, (pzR (pzO (ab L B) r) (ab L B) 5 (p + 1)).2.2) := by
                  show pzO (ab L B) (r + 1) p = _
                  rw [pzOS r, if_pos q69]
                  unfold pz2
                  rw [if_pos ht, if_pos hc]
                refine vv_goto (tgt := 83) C dX12_one_76 (by decide) ?_
                refine vw_istore_n (lv9 := [_, _, _, _, _]) C dX12_one_83 (by decide) rfl rfl ?_
                refine vv_iload_n C dX12_one_84 rfl ?_
                refine vv_bipush C dX12_one_85 bp_40 ?_
                refine vv_icmp_ne (tgt := 104) C dX12_one_87 (by decide) (fun q87 => ?_) (fun q87 => ?_)
                · exact absurd q69 q87
                · skip
                  refine vv_aload_n C dX12_one_90 rfl ?_
                  refine vv_bipush C dX12_one_91 bp_41 ?_
                  refine vs_caliF C dX12_one_93 (c_X12_takesY g S73 L B N (hI.fr (((vs_fr.rf.us (by decide)).us (by decide) : vs_fr [30, 32, 33] [] [] S (vs_us (vs_us S 33 (nI (6 - r))) 30 (nI (p + 1)))).tr p73.1.1)) (pzR (pzO (ab L B) r) (ab L B) 5 (p + 1)).2.1 hpo.1 p73.1.2.1 (p73.1.2.2.1 ht).1 41 hc) mb_X12_takes mv_X12_takes lk_X12_229 ce_65 rfl rfl rfl rfl ⟨by omega, by omega, Nat.le_of_ble_eq_true rfl⟩ ?_
                  refine vv_if_ne (tgt := 104) C dX12_one_96 (by decide) (fun q96 => ?_) (fun q96 => ?_)
                  · skip
                    refine vv_aload_n C dX12_one_104 rfl ?_
                    refine vv_dup C dX12_one_105 rfl ?_
                    refine gf_X12_opened C dX12_one_106 fg_X12_244 ?_
                    refine vs_eqi (v9 := nI (6 - r)) ((p73.1.2.2.1 ht).2) ?_
                    refine vv_iconst C dX12_one_109 ic_1 ?_
                    refine vv_isub C dX12_one_110 ?_
                    refine vs_eqi (v9 := nI (6 - (r + 1))) ((xn_sub (a := 6 - r) (b := 1) (by omega)).trans (congrArg nI (by omega))) ?_
                    refine pf_X12_opened C dX12_one_111 fp_X12_244 ?_
                    refine vv_iload_n C dX12_one_114 rfl ?_
                    refine vv_bipush C dX12_one_115 bp_40 ?_
                    refine vv_icmp_ne (tgt := 124) C dX12_one_117 (by decide) (fun q117 => ?_) (fun q117 => ?_)
                    · exact absurd q69 q117
                    · skip
                      refine vv_iload_n C dX12_one_120 rfl ?_
                      refine vv_goto (tgt := 144) C dX12_one_121 (by decide) ?_
                      exact vs_iret C F dX12_one_144 rfl (by rw [hv]; exact ⟨⟨((((vs_fr.rf.us (by decide)).us (by decide) : vs_fr [30, 32, 33] [] [] S (vs_us (vs_us S 33 (nI (6 - r))) 30 (nI (p + 1)))).tr p73.1.1).us (by decide)).us (by decide), rfl, fun _ => ⟨(p73.1.2.2.1 ht).1, hq.2.2.symm⟩, fun z => absurd rfl z⟩, fun _ => rfl⟩)
                  · exact absurd q96 (by decide)
              · have hv : (pzR (pzO (ab L B) (r + 1)) (ab L B) 0 p) = pF (pzR (pzO (ab L B) r) (ab L B) 5 (p + 1)).2.1 := by
                  show pzO (ab L B) (r + 1) p = _
                  rw [pzOS r, if_pos q69]
                  unfold pz2
                  rw [if_pos ht, if_neg hc]
                refine vv_goto (tgt := 83) C dX12_one_76 (by decide) ?_
                refine vw_istore_n (lv9 := [_, _, _, _, _]) C dX12_one_83 (by decide) rfl rfl ?_
                refine vv_iload_n C dX12_one_84 rfl ?_
                refine vv_bipush C dX12_one_85 bp_40 ?_
                refine vv_icmp_ne (tgt := 104) C dX12_one_87 (by decide) (fun q87 => ?_) (fun q87 => ?_)
                · exact absurd q69 q87
                · skip
                  refine vv_aload_n C dX12_one_90 rfl ?_
                  refine vv_bipush C dX12_one_91 bp_41 ?_
                  refine vs_caliF C dX12_one_93 (c_X12_takesN g S73 L B N (hI.fr (((vs_fr.rf.us (by decide)).us (by decide) : vs_fr [30, 32, 33] [] [] S (vs_us (vs_us S 33 (nI (6 - r))) 30 (nI (p + 1)))).tr p73.1.1)) (pzR (pzO (ab L B) r) (ab L B) 5 (p + 1)).2.1 hpo.1 p73.1.2.1 41 (fun z => hc z.2) (Or.inl (p73.1.2.2.1 ht).1)) mb_X12_takes mv_X12_takes lk_X12_229 ce_65 rfl rfl rfl rfl ⟨by omega, by omega, Nat.le_of_ble_eq_true rfl⟩ ?_
                  refine vv_if_ne (tgt := 104) C dX12_one_96 (by decide) (fun q96 => ?_) (fun q96 => ?_)
                  · exact absurd rfl q96
                  · skip
                    refine vv_aload_n C dX12_one_99 rfl ?_
                    refine vs_caliF C dX12_one_100 (c_X12_wrongN g S73 (p73.1.2.2.1 ht).1) mb_X12_wrong mv_X12_wrong lk_X12_247 ce_65 rfl rfl rfl rfl ⟨by omega, by omega, Nat.le_of_ble_eq_true rfl⟩ ?_
                    exact vs_iret C F dX12_one_103 rfl (by rw [hv]; exact ⟨⟨(((vs_fr.rf.us (by decide)).us (by decide) : vs_fr [30, 32, 33] [] [] S (vs_us (vs_us S 33 (nI (6 - r))) 30 (nI (p + 1)))).tr p73.1.1).us (by decide), p73.1.2.1, fun z => absurd (show false = true from z) (by decide), fun _ => p73.1.2.1⟩, fun z => by cases z⟩)
            · have h32 := p73.1.2.2.2 ht
              have hy31 : (pzR (pzO (ab L B) r) (ab L B) 5 (p + 1)).2.1 < 2 ^ 31 := by have := hpo.1; omega
              have hv : (pzR (pzO (ab L B) (r + 1)) (ab L B) 0 p) = pF (pzR (pzO (ab L B) r) (ab L B) 5 (p + 1)).2.1 := by
                show pzO (ab L B) (r + 1) p = _
                rw [pzOS r, if_pos q69]
                unfold pz2
                rw [if_neg ht]
              refine vv_goto (tgt := 83) C dX12_one_76 (by decide) ?_
              refine vw_istore_n (lv9 := [_, _, _, _, _]) C dX12_one_83 (by decide) rfl rfl ?_
              refine vv_iload_n C dX12_one_84 rfl ?_
              refine vv_bipush C dX12_one_85 bp_40 ?_
              refine vv_icmp_ne (tgt := 104) C dX12_one_87 (by decide) (fun q87 => ?_) (fun q87 => ?_)
              · exact absurd q69 q87
              · skip
                refine vv_aload_n C dX12_one_90 rfl ?_
                refine vv_bipush C dX12_one_91 bp_41 ?_
                refine vs_caliF C dX12_one_93 (c_X12_takesN g S73 L B N (hI.fr (((vs_fr.rf.us (by decide)).us (by decide) : vs_fr [30, 32, 33] [] [] S (vs_us (vs_us S 33 (nI (6 - r))) 30 (nI (p + 1)))).tr p73.1.1)) (pzR (pzO (ab L B) r) (ab L B) 5 (p + 1)).2.1 hpo.1 p73.1.2.1 41 (fun z => nf_no hy31 h32 z.1) (Or.inr (nf_ge hy31 h32))) mb_X12_takes mv_X12_takes lk_X12_229 ce_65 rfl rfl rfl rfl ⟨by omega, by omega, Nat.le_of_ble_eq_true rfl⟩ ?_
                refine vv_if_ne (tgt := 104) C dX12_one_96 (by decide) (fun q96 => ?_) (fun q96 => ?_)
                · exact absurd rfl q96
                · skip
                  refine vv_aload_n C dX12_one_99 rfl ?_
                  refine vs_caliF C dX12_one_100 (c_X12_wrongY g S73 (pzR (pzO (ab L B) r) (ab L B) 5 (p + 1)).2.1 hy31 h32) mb_X12_wrong mv_X12_wrong lk_X12_247 ce_65 rfl rfl rfl rfl ⟨by omega, by omega, Nat.le_of_ble_eq_true rfl⟩ ?_
                  exact vs_iret C F dX12_one_103 rfl (by rw [hv]; exact ⟨⟨(((vs_fr.rf.us (by decide)).us (by decide) : vs_fr [30, 32, 33] [] [] S (vs_us (vs_us S 33 (nI (6 - r))) 30 (nI (p + 1)))).tr p73.1.1).us (by decide), p73.1.2.1, fun z => absurd (show false = true from z) (by decide), fun _ => rfl⟩, fun z => by cases z⟩)
        · exact absurd ((xn_eq (by omega) (by omega)).mp (show nI (6 - (r + 1)) = nI 6 from q38)) (by omega)
      · skip
        refine vv_iload_n C dX12_one_26 rfl ?_
        refine vv_bipush C dX12_one_27 bp_40 ?_
        refine vv_icmp_ne (tgt := 145) C dX12_one_29 (by decide) (fun q29 => ?_) (fun q29 => ?_)
        · have hv : (pzR (pzO (ab L B) (r + 1)) (ab L B) 0 p) = pzA (ab L B) p := by
            show pzO (ab L B) (r + 1) p = _
            rw [pzOS r, if_neg q29, if_neg (fun z => z.elim q17 q23)]
          refine vv_iload_n C dX12_one_145 rfl ?_
          refine vs_calsiF C dX12_one_146 (c_X12_nameOf g S (ab L B p)) mb_X12_nameOf ms_X12_nameOf lk_X12_253 rfl rfl ⟨by omega, by omega, Nat.le_of_ble_eq_true rfl⟩ ?_
          refine vw_istore_n (lv9 := [_, _, _, _, _]) C dX12_one_149 (by decide) rfl rfl ?_
          refine vv_iload_n C dX12_one_150 rfl ?_
          refine vv_if_lt (tgt := 171) C dX12_one_151 (by decide) (fun q151 => ?_) (fun q151 => ?_)
          · have hn : ¬ tkN (ab L B p) < 5 := fun z => by rw [if_pos z] at q151; exact xn_neg (by omega) q151
            refine vv_iconst C dX12_one_171 ic_0 ?_
            refine vw_istore_n (lv9 := [_, _, _, _, _]) C dX12_one_172 (by decide) rfl rfl ?_
            refine vv_iconst C dX12_one_173 ic_0 ?_
            refine vw_istore (lv9 := [_, _, _, _, _]) C dX12_one_174 (by decide) rfl rfl ?_
            have loop : ∀ (f i y : Nat) (v : Int32) (Sa : vs_S), i + f = 4 → y ≤ L → vs_fr [30] [] [] S Sa → Sa.1 30 = nI y → pzD (ab L B) f y v = pzD (ab L B) 4 p 0 → (i = 0 → y = p) → (0 < i → 48 ≤ (ab L B p) ∧ (ab L B p) ≤ 57) → vv_V g x 5 0 0 176 [some (vv_r g 65), some (.int (ab L B p)), some (.int (if tkN (ab L B p) < 5 then nI (tkN (ab L B p)) else -1)), some (.int v), some (.int (nI i))] [] (vs_cells g Sa) := by
              intro f
              induction f with
              | zero =>
                intro i y v Sa hi hy hf h30 he hi0 hi1
                have e4 : i = 4 := by omega
                subst e4
                refine vv_iload C dX12_one_176 rfl ?_
                refine vv_iconst C dX12_one_178 ic_4 ?_
                refine vv_icmp_ge (tgt := 229) C dX12_one_179 (by decide) (fun q179 => ?_) (fun q179 => ?_)
                · skip
                  refine vv_iload C dX12_one_229 rfl ?_
                  refine vv_if_ne (tgt := 241) C dX12_one_231 (by decide) (fun q231 => ?_) (fun q231 => ?_)
                  · skip
                    refine vv_iload_n C dX12_one_241 rfl ?_
                    first
                    | exact vs_iret C F dX12_one_242 rfl (by
                        rw [hv]; unfold pzA
                        rw [if_pos (hi1 (by omega))]
                        refine ⟨⟨hf.wd (by decide) (by decide) (by decide), ?_, fun _ => ⟨(hf.1 32 (by decide)).trans hq.2.1, hf.1 33 (by decide)⟩, fun z => absurd rfl z⟩, fun _ => ?_⟩
                        · show Sa.1 30 = nI (pzD (ab L B) 4 p 0).1
                          rw [← he]; exact h30
                        · exact congrArg Prod.snd he)
                    | exact vs_iret C F dX12_one_242 rfl (by
                        rw [hv]; unfold pzA
                        rw [if_neg (by rw [← hyp]; exact no), if_neg hn]
                        exact ⟨⟨(hf.wd (by decide) (by decide) (by decide) : vs_fr [30, 32, 33] [] [] S Sa).us (by decide), by rw [← hyp]; exact h30, fun z => absurd (show false = true from z) (by decide), fun _ => by rw [← hyp]; exact h30⟩, fun z => by cases z⟩)
                  · exact absurd q231 (by decide)
                · exact absurd (by decide +kernel : (4 : Int32) ≤ nI 4) q179
              | succ f ih =>
                intro i y v Sa hi hy hf h30 he hi0 hi1
                rw [pzDS f] at he
                refine vv_iload C dX12_one_176 rfl ?_
                refine vv_iconst C dX12_one_178 ic_4 ?_
                refine vv_icmp_ge (tgt := 229) C dX12_one_179 (by decide) (fun q179 => ?_) (fun q179 => ?_)
                · exact absurd q179 (by rw [xn_lit, xn_le (by omega) (by omega)]; omega)
                · skip
                  refine vv_aload_n C dX12_one_182 rfl ?_
                  refine vs_caliF C dX12_one_183 (c_X12_byteAt g Sa L B N (hI.fr (hf.wd (by decide) (by decide) (by decide))) y hy h30) mb_X12_byteAt mv_X12_byteAt lk_X12_222 ce_65 rfl rfl rfl rfl ⟨by omega, by omega, Nat.le_of_ble_eq_true rfl⟩ ?_
                  refine vv_bipush C dX12_one_186 bp_48 ?_
                  refine vv_icmp_lt (tgt := 229) C dX12_one_188 (by decide) (fun q188 => ?_) (fun q188 => ?_)
                  · have no : ¬ (48 ≤ ab L B y ∧ ab L B y ≤ 57) := fun z => Int32.not_lt.mpr z.1 q188
                    rw [if_neg no] at he
                    refine vv_iload C dX12_one_229 rfl ?_
                    refine vv_if_ne (tgt := 241) C dX12_one_231 (by decide) (fun q231 => ?_) (fun q231 => ?_)
                    · have hipos : 0 < i := by
                        apply Decidable.byContradiction
                        intro z
                        exact q231 (by rw [show i = 0 by omega]; rfl)
                      refine vv_iload_n C dX12_one_241 rfl ?_
                      first
                      | exact vs_iret C F dX12_one_242 rfl (by
                          rw [hv]; unfold pzA
                          rw [if_pos (hi1 (by omega))]
                          refine ⟨⟨hf.wd (by decide) (by decide) (by decide), ?_, fun _ => ⟨(hf.1 32 (by decide)).trans hq.2.1, hf.1 33 (by decide)⟩, fun z => absurd rfl z⟩, fun _ => ?_⟩
                          · show Sa.1 30 = nI (pzD (ab L B) 4 p 0).1
                            rw [← he]; exact h30
                          · exact congrArg Prod.snd he)
                      | exact vs_iret C F dX12_one_242 rfl (by
                          rw [hv]; unfold pzA
                          rw [if_neg (by rw [← hyp]; exact no), if_neg hn]
                          exact ⟨⟨(hf.wd (by decide) (by decide) (by decide) : vs_fr [30, 32, 33] [] [] S Sa).us (by decide), by rw [← hyp]; exact h30, fun z => absurd (show false = true from z) (by decide), fun _ => by rw [← hyp]; exact h30⟩, fun z => by cases z⟩)
                    · have hi00 : i = 0 := (xn_eq (by omega) (by omega)).mp (show nI i = nI 0 from q231)
                      have hyp := hi0 hi00
                      refine vv_aload_n C dX12_one_234 rfl ?_
                      refine vs_caliF C dX12_one_235 (c_X12_wrongN g Sa ((hf.1 32 (by decide)).trans hq.2.1)) mb_X12_wrong mv_X12_wrong lk_X12_247 ce_65 rfl rfl rfl rfl ⟨by omega, by omega, Nat.le_of_ble_eq_true rfl⟩ ?_
                      refine vv_goto (tgt := 242) C dX12_one_238 (by decide) ?_
                      first
                      | exact vs_iret C F dX12_one_242 rfl (by
                          rw [hv]; unfold pzA
                          rw [if_pos (hi1 (by omega))]
                          refine ⟨⟨hf.wd (by decide) (by decide) (by decide), ?_, fun _ => ⟨(hf.1 32 (by decide)).trans hq.2.1, hf.1 33 (by decide)⟩, fun z => absurd rfl z⟩, fun _ => ?_⟩
                          · show Sa.1 30 = nI (pzD (ab L B) 4 p 0).1
                            rw [← he]; exact h30
                          · exact congrArg Prod.snd he)
                      | exact vs_iret C F dX12_one_242 rfl (by
                          rw [hv]; unfold pzA
                          rw [if_neg (by rw [← hyp]; exact no), if_neg hn]
                          exact ⟨⟨(hf.wd (by decide) (by decide) (by decide) : vs_fr [30, 32, 33] [] [] S Sa).us (by decide), by rw [← hyp]; exact h30, fun z => absurd (show false = true from z) (by decide), fun _ => by rw [← hyp]; exact h30⟩, fun z => by cases z⟩)
                  · skip
                    refine vv_aload_n C dX12_one_191 rfl ?_
                    refine vs_caliF C dX12_one_192 (c_X12_byteAt g Sa L B N (hI.fr (hf.wd (by decide) (by decide) (by decide))) y hy h30) mb_X12_byteAt mv_X12_byteAt lk_X12_222 ce_65 rfl rfl rfl rfl ⟨by omega, by omega, Nat.le_of_ble_eq_true rfl⟩ ?_
                    refine vv_bipush C dX12_one_195 bp_57 ?_
                    refine vv_icmp_gt (tgt := 229) C dX12_one_197 (by decide) (fun q197 => ?_) (fun q197 => ?_)
                    · have no : ¬ (48 ≤ ab L B y ∧ ab L B y ≤ 57) := fun z => Int32.not_lt.mpr z.2 q197
                      rw [if_neg no] at he
                      refine vv_iload C dX12_one_229 rfl ?_
                      refine vv_if_ne (tgt := 241) C dX12_one_231 (by decide) (fun q231 => ?_) (fun q231 => ?_)
                      · have hipos : 0 < i := by
                          apply Decidable.byContradiction
                          intro z
                          exact q231 (by rw [show i = 0 by omega]; rfl)
                        refine vv_iload_n C dX12_one_241 rfl ?_
                        first
                        | exact vs_iret C F dX12_one_242 rfl (by
                            rw [hv]; unfold pzA
                            rw [if_pos (hi1 (by omega))]
                            refine ⟨⟨hf.wd (by decide) (by decide) (by decide), ?_, fun _ => ⟨(hf.1 32 (by decide)).trans hq.2.1, hf.1 33 (by decide)⟩, fun z => absurd rfl z⟩, fun _ => ?_⟩
                            · show Sa.1 30 = nI (pzD (ab L B) 4 p 0).1
                              rw [← he]; exact h30
                            · exact congrArg Prod.snd he)
                        | exact vs_iret C F dX12_one_242 rfl (by
                            rw [hv]; unfold pzA
                            rw [if_neg (by rw [← hyp]; exact no), if_neg hn]
                            exact ⟨⟨(hf.wd (by decide) (by decide) (by decide) : vs_fr [30, 32, 33] [] [] S Sa).us (by decide), by rw [← hyp]; exact h30, fun z => absurd (show false = true from z) (by decide), fun _ => by rw [← hyp]; exact h30⟩, fun z => by cases z⟩)
                      · have hi00 : i = 0 := (xn_eq (by omega) (by omega)).mp (show nI i = nI 0 from q231)
                        have hyp := hi0 hi00
                        refine vv_aload_n C dX12_one_234 rfl ?_
                        refine vs_caliF C dX12_one_235 (c_X12_wrongN g Sa ((hf.1 32 (by decide)).trans hq.2.1)) mb_X12_wrong mv_X12_wrong lk_X12_247 ce_65 rfl rfl rfl rfl ⟨by omega, by omega, Nat.le_of_ble_eq_true rfl⟩ ?_
                        refine vv_goto (tgt := 242) C dX12_one_238 (by decide) ?_
                        first
                        | exact vs_iret C F dX12_one_242 rfl (by
                            rw [hv]; unfold pzA
                            rw [if_pos (hi1 (by omega))]
                            refine ⟨⟨hf.wd (by decide) (by decide) (by decide), ?_, fun _ => ⟨(hf.1 32 (by decide)).trans hq.2.1, hf.1 33 (by decide)⟩, fun z => absurd rfl z⟩, fun _ => ?_⟩
                            · show Sa.1 30 = nI (pzD (ab L B) 4 p 0).1
                              rw [← he]; exact h30
                            · exact congrArg Prod.snd he)
                        | exact vs_iret C F dX12_one_242 rfl (by
                            rw [hv]; unfold pzA
                            rw [if_neg (by rw [← hyp]; exact no), if_neg hn]
                            exact ⟨⟨(hf.wd (by decide) (by decide) (by decide) : vs_fr [30, 32, 33] [] [] S Sa).us (by decide), by rw [← hyp]; exact h30, fun z => absurd (show false = true from z) (by decide), fun _ => by rw [← hyp]; exact h30⟩, fun z => by cases z⟩)
                    · have yes : 48 ≤ ab L B y ∧ ab L B y ≤ 57 := ⟨Int32.not_lt.mp q188, Int32.not_lt.mp q197⟩
                      rw [if_pos yes] at he
                      have hyL : y < L := bl_nb ab_bl (fun z => bl_d z yes)
                      refine vv_bipush C dX12_one_200 bp_10 ?_
                      refine vv_iload_n C dX12_one_202 rfl ?_
                      refine vv_imul C dX12_one_203 ?_
                      refine vs_eqi (v9 := v * 10) (Int32.mul_comm _ _) ?_
                      refine vv_aload_n C dX12_one_204 rfl ?_
                      refine vs_caliF C dX12_one_205 (c_X12_byteAt g Sa L B N (hI.fr (hf.wd (by decide) (by decide) (by decide))) y hy h30) mb_X12_byteAt mv_X12_byteAt lk_X12_222 ce_65 rfl rfl rfl rfl ⟨by omega, by omega, Nat.le_of_ble_eq_true rfl⟩ ?_
                      refine vv_iadd C dX12_one_208 ?_
                      refine vv_bipush C dX12_one_209 bp_48 ?_
                      refine vv_isub C dX12_one_211 ?_
                      refine vw_istore_n (lv9 := [_, _, _, _, _]) C dX12_one_212 (by decide) rfl rfl ?_
                      refine vw_iinc (lv9 := [_, _, _, _, _]) C dX12_one_213 rfl ic_1 (by decide) rfl rfl ?_
                      refine vv_aload_n C dX12_one_216 rfl ?_
                      refine vv_dup C dX12_one_217 rfl ?_
                      refine gf_X12_at C dX12_one_218 fg_X12_210 ?_
                      refine vs_eqi (v9 := nI y) (h30) ?_
                      refine vv_iconst C dX12_one_221 ic_1 ?_
                      refine vv_iadd C dX12_one_222 ?_
                      refine vs_eqi (v9 := nI (y + 1)) (nI_1 _) ?_
                      refine pf_X12_at C dX12_one_223 fp_X12_210 ?_
                      refine vv_goto (tgt := 176) C dX12_one_226 (by decide) ?_
                      rw [nI_1]
                      exact ih (i + 1) (y + 1) _ _ (by omega) (by omega) (hf.us (by decide)) rfl he (fun z => absurd z (by omega)) (fun _ => by
                        by_cases z : i = 0
                        · rw [← hi0 z]; exact yes
                        · exact hi1 (by omega))
            exact loop 4 0 p 0 S (by omega) hp vs_fr.rf hq.1 rfl (fun _ => rfl) (fun z => absurd z (by omega))
          · have hn : tkN (ab L B p) < 5 := by
              apply Decidable.byContradiction
              intro z
              rw [if_neg z] at q151
              exact q151 (by decide)
            have hpL : p < L := bl_nb ab_bl (fun z => by rw [bl_N z] at hn; omega)
            have nd : ¬ (48 ≤ (ab L B p) ∧ (ab L B p) ≤ 57) := fun z => by rcases tkN_b hn with e | e | e | e | e <;> (rw [e] at z; exact absurd z (by decide))
            refine vv_aload_n C dX12_one_154 rfl ?_
            refine vv_dup C dX12_one_155 rfl ?_
            refine gf_X12_at C dX12_one_156 fg_X12_210 ?_
            refine vs_eqi (v9 := nI p) (hq.1) ?_
            refine vv_iconst C dX12_one_159 ic_1 ?_
            refine vv_iadd C dX12_one_160 ?_
            refine vs_eqi (v9 := nI (p + 1)) (nI_1 _) ?_
            refine pf_X12_at C dX12_one_161 fp_X12_210 ?_
            refine vv_aload_n C dX12_one_164 rfl ?_
            refine gf_X12_names C dX12_one_165 fg_X12_50 ?_
            refine vv_iload_n C dX12_one_168 rfl ?_
            refine vs_eqi (v9 := nI (tkN (ab L B p))) (if_pos hn) ?_
            refine ld_78 C dX12_one_169 (xn_in (by omega) (by omega)) ?_
            refine vs_eqi (v9 := N (tkN (ab L B p))) (by rw [xn_cl (by omega)]; exact congrFun hI.2.2.2 _) ?_
            exact vs_iret C F dX12_one_170 rfl (by rw [hv]; unfold pzA; rw [if_neg nd, if_pos hn]; exact ⟨⟨vs_fr.rf.us (by decide), rfl, fun _ => ⟨hq.2.1, rfl⟩, fun z => absurd rfl z⟩, fun _ => rfl⟩)
        · have hop : ab L B p = 33 ∨ ab L B p = 45 ∨ ab L B p = 40 := Or.inr (Or.inr q29)
          refine vv_aload_n C dX12_one_32 rfl ?_
          refine gf_X12_opened C dX12_one_33 fg_X12_244 ?_
          refine vs_eqi (v9 := nI (6 - (r + 1))) (hq.2.2) ?_
          refine vv_bipush C dX12_one_36 bp_6 ?_
          refine vv_icmp_ne (tgt := 46) C dX12_one_38 (by decide) (fun q38 => ?_) (fun q38 => ?_)
          · skip
            refine vv_aload_n C dX12_one_46 rfl ?_
            refine vv_dup C dX12_one_47 rfl ?_
            refine gf_X12_opened C dX12_one_48 fg_X12_244 ?_
            refine vs_eqi (v9 := nI (6 - (r + 1))) (hq.2.2) ?_
            refine vv_iconst C dX12_one_51 ic_1 ?_
            refine vv_iadd C dX12_one_52 ?_
            refine vs_eqi (v9 := nI (6 - r)) ((nI_1 _).trans (congrArg nI (by omega))) ?_
            refine pf_X12_opened C dX12_one_53 fp_X12_244 ?_
            refine vv_aload_n C dX12_one_56 rfl ?_
            refine vv_dup C dX12_one_57 rfl ?_
            refine gf_X12_at C dX12_one_58 fg_X12_210 ?_
            refine vs_eqi (v9 := nI p) (hq.1) ?_
            refine vv_iconst C dX12_one_61 ic_1 ?_
            refine vv_iadd C dX12_one_62 ?_
            refine vs_eqi (v9 := nI (p + 1)) (nI_1 _) ?_
            refine pf_X12_at C dX12_one_63 fp_X12_210 ?_
            refine vv_iload_n C dX12_one_66 rfl ?_
            refine vv_bipush C dX12_one_67 bp_40 ?_
            refine vv_icmp_ne (tgt := 79) C dX12_one_69 (by decide) (fun q69 => ?_) (fun q69 => ?_)
            · have hop3 : ab L B p = 33 ∨ ab L B p = 45 := hop.elim Or.inl (fun z => z.elim Or.inr (fun z => absurd z q69))
              have hpL : p < L := bl_nb ab_bl (fun z => hop3.elim (bl_c z (by unfold bl; decide)) (bl_c z (by unfold bl; decide)))
              refine vv_aload_n C dX12_one_79 rfl ?_
              refine vs_calli C dX12_one_80 (hO (vs_us (vs_us S 33 (nI (6 - r))) 30 (nI (p + 1))) L B N (hI.fr ((vs_fr.rf.us (by decide)).us (by decide) : vs_fr [30, 32, 33] [] [] S (vs_us (vs_us S 33 (nI (6 - r))) 30 (nI (p + 1))))) (p + 1) hpL ⟨rfl, hq.2.1, rfl⟩) mb_X12_one mv_X12_one lk_X12_241 ce_65 rfl rfl rfl rfl ⟨by omega, by omega, Nat.le_of_ble_eq_true rfl⟩ (fun r80 S80 p80 => ?_)
              by_cases ht : (pzR (pzO (ab L B) r) (ab L B) 0 (p + 1)).1 = true
              · have e9 := p80.2 ht
                subst e9
                have hv : (pzR (pzO (ab L B) (r + 1)) (ab L B) 0 p) = (true, (pzR (pzO (ab L B) r) (ab L B) 0 (p + 1)).2.1, (pzR (pzO (ab L B) r) (ab L B) 0 (p + 1)).2.2.1 ++ [if ab L B p = 45 then -126 else -(ab L B p)], fun N => if ab L B p = 45 then -((pzR (pzO (ab L B) r) (ab L B) 0 (p + 1)).2.2.2 N) else if (pzR (pzO (ab L B) r) (ab L B) 0 (p + 1)).2.2.2 N = 0 then 1 else 0) := by
                  show pzO (ab L B) (r + 1) p = _
                  rw [pzOS r, if_neg q69, if_pos hop3]
                  exact if_pos ht
                refine vw_istore_n (lv9 := [_, _, _, _, _]) C dX12_one_83 (by decide) rfl rfl ?_
                refine vv_iload_n C dX12_one_84 rfl ?_
                refine vv_bipush C dX12_one_85 bp_40 ?_
                refine vv_icmp_ne (tgt := 104) C dX12_one_87 (by decide) (fun q87 => ?_) (fun q87 => ?_)
                · skip
                  refine vv_aload_n C dX12_one_104 rfl ?_
                  refine vv_dup C dX12_one_105 rfl ?_
                  refine gf_X12_opened C dX12_one_106 fg_X12_244 ?_
                  refine vs_eqi (v9 := nI (6 - r)) ((p80.1.2.2.1 ht).2) ?_
                  refine vv_iconst C dX12_one_109 ic_1 ?_
                  refine vv_isub C dX12_one_110 ?_
                  refine vs_eqi (v9 := nI (6 - (r + 1))) ((xn_sub (a := 6 - r) (b := 1) (by omega)).trans (congrArg nI (by omega))) ?_
                  refine pf_X12_opened C dX12_one_111 fp_X12_244 ?_
                  refine vv_iload_n C dX12_one_114 rfl ?_
                  refine vv_bipush C dX12_one_115 bp_40 ?_
                  refine vv_icmp_ne (tgt := 124) C dX12_one_117 (by decide) (fun q117 => ?_) (fun q117 => ?_)
                  · skip
                    refine vv_iload_n C dX12_one_124 rfl ?_
                    refine vv_bipush C dX12_one_125 bp_45 ?_
                    refine vv_icmp_ne (tgt := 135) C dX12_one_127 (by decide) (fun q127 => ?_) (fun q127 => ?_)
                    · refine vv_iload_n C dX12_one_135 rfl ?_
                      refine vv_if_ne (tgt := 143) C dX12_one_136 (by decide) (fun q136 => ?_) (fun q136 => ?_)
                      · refine vv_iconst C dX12_one_143 ic_0 ?_
                        first
                        | exact vs_iret C F dX12_one_144 rfl (by rw [hv]; exact ⟨⟨(((vs_fr.rf.us (by decide)).us (by decide) : vs_fr [30, 32, 33] [] [] S (vs_us (vs_us S 33 (nI (6 - r))) 30 (nI (p + 1)))).tr p80.1.1).us (by decide), p80.1.2.1, fun _ => ⟨(p80.1.2.2.1 ht).1, hq.2.2.symm⟩, fun z => absurd rfl z⟩, fun _ => (if_pos q127).symm⟩)
                        | exact vs_iret C F dX12_one_144 rfl (by rw [hv]; exact ⟨⟨(((vs_fr.rf.us (by decide)).us (by decide) : vs_fr [30, 32, 33] [] [] S (vs_us (vs_us S 33 (nI (6 - r))) 30 (nI (p + 1)))).tr p80.1.1).us (by decide), p80.1.2.1, fun _ => ⟨(p80.1.2.2.1 ht).1, hq.2.2.symm⟩, fun z => absurd rfl z⟩, fun _ => ((if_neg q127).trans (if_pos q136)).symm⟩)
                        | exact vs_iret C F dX12_one_144 rfl (by rw [hv]; exact ⟨⟨(((vs_fr.rf.us (by decide)).us (by decide) : vs_fr [30, 32, 33] [] [] S (vs_us (vs_us S 33 (nI (6 - r))) 30 (nI (p + 1)))).tr p80.1.1).us (by decide), p80.1.2.1, fun _ => ⟨(p80.1.2.2.1 ht).1, hq.2.2.symm⟩, fun z => absurd rfl z⟩, fun _ => ((if_neg q127).trans (if_neg q136)).symm⟩)
                      · refine vv_iconst C dX12_one_139 ic_1 ?_
                        refine vv_goto (tgt := 144) C dX12_one_140 (by decide) ?_
                        first
                        | exact vs_iret C F dX12_one_144 rfl (by rw [hv]; exact ⟨⟨(((vs_fr.rf.us (by decide)).us (by decide) : vs_fr [30, 32, 33] [] [] S (vs_us (vs_us S 33 (nI (6 - r))) 30 (nI (p + 1)))).tr p80.1.1).us (by decide), p80.1.2.1, fun _ => ⟨(p80.1.2.2.1 ht).1, hq.2.2.symm⟩, fun z => absurd rfl z⟩, fun _ => (if_pos q127).symm⟩)
                        | exact vs_iret C F dX12_one_144 rfl (by rw [hv]; exact ⟨⟨(((vs_fr.rf.us (by decide)).us (by decide) : vs_fr [30, 32, 33] [] [] S (vs_us (vs_us S 33 (nI (6 - r))) 30 (nI (p + 1)))).tr p80.1.1).us (by decide), p80.1.2.1, fun _ => ⟨(p80.1.2.2.1 ht).1, hq.2.2.symm⟩, fun z => absurd rfl z⟩, fun _ => ((if_neg q127).trans (if_pos q136)).symm⟩)
                        | exact vs_iret C F dX12_one_144 rfl (by rw [hv]; exact ⟨⟨(((vs_fr.rf.us (by decide)).us (by decide) : vs_fr [30, 32, 33] [] [] S (vs_us (vs_us S 33 (nI (6 - r))) 30 (nI (p + 1)))).tr p80.1.1).us (by decide), p80.1.2.1, fun _ => ⟨(p80.1.2.2.1 ht).1, hq.2.2.symm⟩, fun z => absurd rfl z⟩, fun _ => ((if_neg q127).trans (if_neg q136)).symm⟩)
                    · refine vv_iload_n C dX12_one_130 rfl ?_
                      refine vv_ineg C dX12_one_131 ?_
                      refine vv_goto (tgt := 144) C dX12_one_132 (by decide) ?_
                      first
                      | exact vs_iret C F dX12_one_144 rfl (by rw [hv]; exact ⟨⟨(((vs_fr.rf.us (by decide)).us (by decide) : vs_fr [30, 32, 33] [] [] S (vs_us (vs_us S 33 (nI (6 - r))) 30 (nI (p + 1)))).tr p80.1.1).us (by decide), p80.1.2.1, fun _ => ⟨(p80.1.2.2.1 ht).1, hq.2.2.symm⟩, fun z => absurd rfl z⟩, fun _ => (if_pos q127).symm⟩)
                      | exact vs_iret C F dX12_one_144 rfl (by rw [hv]; exact ⟨⟨(((vs_fr.rf.us (by decide)).us (by decide) : vs_fr [30, 32, 33] [] [] S (vs_us (vs_us S 33 (nI (6 - r))) 30 (nI (p + 1)))).tr p80.1.1).us (by decide), p80.1.2.1, fun _ => ⟨(p80.1.2.2.1 ht).1, hq.2.2.symm⟩, fun z => absurd rfl z⟩, fun _ => ((if_neg q127).trans (if_pos q136)).symm⟩)
                      | exact vs_iret C F dX12_one_144 rfl (by rw [hv]; exact ⟨⟨(((vs_fr.rf.us (by decide)).us (by decide) : vs_fr [30, 32, 33] [] [] S (vs_us (vs_us S 33 (nI (6 - r))) 30 (nI (p + 1)))).tr p80.1.1).us (by decide), p80.1.2.1, fun _ => ⟨(p80.1.2.2.1 ht).1, hq.2.2.symm⟩, fun z => absurd rfl z⟩, fun _ => ((if_neg q127).trans (if_neg q136)).symm⟩)
                  · exact absurd q117 q69
                · exact absurd q87 q69
              · have h32 := p80.1.2.2.2 ht
                have hv : (pzR (pzO (ab L B) (r + 1)) (ab L B) 0 p) = pF (pzR (pzO (ab L B) r) (ab L B) 0 (p + 1)).2.1 := by
                  show pzO (ab L B) (r + 1) p = _
                  rw [pzOS r, if_neg q69, if_pos hop3]
                  exact if_neg ht
                refine vw_istore_n (lv9 := [_, _, _, _, _]) C dX12_one_83 (by decide) rfl rfl ?_
                refine vv_iload_n C dX12_one_84 rfl ?_
                refine vv_bipush C dX12_one_85 bp_40 ?_
                refine vv_icmp_ne (tgt := 104) C dX12_one_87 (by decide) (fun q87 => ?_) (fun q87 => ?_)
                · skip
                  refine vv_aload_n C dX12_one_104 rfl ?_
                  refine vv_dup C dX12_one_105 rfl ?_
                  refine gf_X12_opened C dX12_one_106 fg_X12_244 ?_
                  refine vv_iconst C dX12_one_109 ic_1 ?_
                  refine vv_isub C dX12_one_110 ?_
                  refine pf_X12_opened C dX12_one_111 fp_X12_244 ?_
                  refine vv_iload_n C dX12_one_114 rfl ?_
                  refine vv_bipush C dX12_one_115 bp_40 ?_
                  refine vv_icmp_ne (tgt := 124) C dX12_one_117 (by decide) (fun q117 => ?_) (fun q117 => ?_)
                  · skip
                    refine vv_iload_n C dX12_one_124 rfl ?_
                    refine vv_bipush C dX12_one_125 bp_45 ?_
                    refine vv_icmp_ne (tgt := 135) C dX12_one_127 (by decide) (fun q127 => ?_) (fun q127 => ?_)
                    · refine vv_iload_n C dX12_one_135 rfl ?_
                      refine vv_if_ne (tgt := 143) C dX12_one_136 (by decide) (fun q136 => ?_) (fun q136 => ?_)
                      · refine vv_iconst C dX12_one_143 ic_0 ?_
                        exact vs_iret C F dX12_one_144 rfl (by rw [hv]; exact ⟨⟨(((vs_fr.rf.us (by decide)).us (by decide) : vs_fr [30, 32, 33] [] [] S (vs_us (vs_us S 33 (nI (6 - r))) 30 (nI (p + 1)))).tr p80.1.1).us (by decide), p80.1.2.1, fun z => absurd (show false = true from z) (by decide), fun _ => h32⟩, fun z => by cases z⟩)
                      · refine vv_iconst C dX12_one_139 ic_1 ?_
                        refine vv_goto (tgt := 144) C dX12_one_140 (by decide) ?_
                        exact vs_iret C F dX12_one_144 rfl (by rw [hv]; exact ⟨⟨(((vs_fr.rf.us (by decide)).us (by decide) : vs_fr [30, 32, 33] [] [] S (vs_us (vs_us S 33 (nI (6 - r))) 30 (nI (p + 1)))).tr p80.1.1).us (by decide), p80.1.2.1, fun z => absurd (show false = true from z) (by decide), fun _ => h32⟩, fun z => by cases z⟩)
                    · refine vv_iload_n C dX12_one_130 rfl ?_
                      refine vv_ineg C dX12_one_131 ?_
                      refine vv_goto (tgt := 144) C dX12_one_132 (by decide) ?_
                      exact vs_iret C F dX12_one_144 rfl (by rw [hv]; exact ⟨⟨(((vs_fr.rf.us (by decide)).us (by decide) : vs_fr [30, 32, 33] [] [] S (vs_us (vs_us S 33 (nI (6 - r))) 30 (nI (p + 1)))).tr p80.1.1).us (by decide), p80.1.2.1, fun z => absurd (show false = true from z) (by decide), fun _ => h32⟩, fun z => by cases z⟩)
                  · exact absurd q117 q69
                · exact absurd q87 q69
            · have hpL : p < L := bl_nb ab_bl (fun z => bl_c z (by unfold bl; decide) q69)
              refine vv_aload_n C dX12_one_72 rfl ?_
              refine vs_calli C dX12_one_73 (hE (vs_us (vs_us S 33 (nI (6 - r))) 30 (nI (p + 1))) L B N (hI.fr ((vs_fr.rf.us (by decide)).us (by decide) : vs_fr [30, 32, 33] [] [] S (vs_us (vs_us S 33 (nI (6 - r))) 30 (nI (p + 1))))) (p + 1) hpL ⟨rfl, hq.2.1, rfl⟩) mb_X12_either mv_X12_either lk_X12_250 ce_65 rfl rfl rfl rfl ⟨by omega, by omega, Nat.le_of_ble_eq_true rfl⟩ (fun r73 S73 p73 => ?_)
              have hpo := pOk_M (B := B) r 5 (p + 1) hpL
              by_cases ht : (pzR (pzO (ab L B) r) (ab L B) 5 (p + 1)).1 = true
              · have e9 := p73.2 ht
                subst e9
                by_cases hc : ab L B (pzR (pzO (ab L B) r) (ab L B) 5 (p + 1)).2.1 = 41
                · have hv : (pzR (pzO (ab L B) (r + 1)) (ab L B) 0 p) = (true, (pzR (pzO (ab L B) r) (ab L B) 5 (p + 1)).2.1 + 1, (pzR (pzO (ab L B) r) (ab L B) 5 (p + 1)).2.2) := by
                    show pzO (ab L B) (r + 1) p = _
                    rw [pzOS r, if_pos q69]
                    unfold pz2
                    rw [if_pos ht, if_pos hc]
                  refine vv_goto (tgt := 83) C dX12_one_76 (by decide) ?_
                  refine vw_istore_n (lv9 := [_, _, _, _, _]) C dX12_one_83 (by decide) rfl rfl ?_
                  refine vv_iload_n C dX12_one_84 rfl ?_
                  refine vv_bipush C dX12_one_85 bp_40 ?_
                  refine vv_icmp_ne (tgt := 104) C dX12_one_87 (by decide) (fun q87 => ?_) (fun q87 => ?_)
                  · exact absurd q69 q87
                  · skip
                    refine vv_aload_n C dX12_one_90 rfl ?_
                    refine vv_bipush C dX12_one_91 bp_41 ?_
                    refine vs_caliF C dX12_one_93 (c_X12_takesY g S73 L B N (hI.fr (((vs_fr.rf.us (by decide)).us (by decide) : vs_fr [30, 32, 33] [] [] S (vs_us (vs_us S 33 (nI (6 - r))) 30 (nI (p + 1)))).tr p73.1.1)) (pzR (pzO (ab L B) r) (ab L B) 5 (p + 1)).2.1 hpo.1 p73.1.2.1 (p73.1.2.2.1 ht).1 41 hc) mb_X12_takes mv_X12_takes lk_X12_229 ce_65 rfl rfl rfl rfl ⟨by omega, by omega, Nat.le_of_ble_eq_true rfl⟩ ?_
                    refine vv_if_ne (tgt := 104) C dX12_one_96 (by decide) (fun q96 => ?_) (fun q96 => ?_)
                    · skip
                      refine vv_aload_n C dX12_one_104 rfl ?_
                      refine vv_dup C dX12_one_105 rfl ?_
                      refine gf_X12_opened C dX12_one_106 fg_X12_244 ?_
                      refine vs_eqi (v9 := nI (6 - r)) ((p73.1.2.2.1 ht).2) ?_
                      refine vv_iconst C dX12_one_109 ic_1 ?_
                      refine vv_isub C dX12_one_110 ?_
                      refine vs_eqi (v9 := nI (6 - (r + 1))) ((xn_sub (a := 6 - r) (b := 1) (by omega)).trans (congrArg nI (by omega))) ?_
                      refine pf_X12_opened C dX12_one_111 fp_X12_244 ?_
                      refine vv_iload_n C dX12_one_114 rfl ?_
                      refine vv_bipush C dX12_one_115 bp_40 ?_
                      refine vv_icmp_ne (tgt := 124) C dX12_one_117 (by decide) (fun q117 => ?_) (fun q117 => ?_)
                      · exact absurd q69 q117
                      · skip
                        refine vv_iload_n C dX12_one_120 rfl ?_
                        refine vv_goto (tgt := 144) C dX12_one_121 (by decide) ?_
                        exact vs_iret C F dX12_one_144 rfl (by rw [hv]; exact ⟨⟨((((vs_fr.rf.us (by decide)).us (by decide) : vs_fr [30, 32, 33] [] [] S (vs_us (vs_us S 33 (nI (6 - r))) 30 (nI (p + 1)))).tr p73.1.1).us (by decide)).us (by decide), rfl, fun _ => ⟨(p73.1.2.2.1 ht).1, hq.2.2.symm⟩, fun z => absurd rfl z⟩, fun _ => rfl⟩)
                    · exact absurd q96 (by decide)
                · have hv : (pzR (pzO (ab L B) (r + 1)) (ab L B) 0 p) = pF (pzR (pzO (ab L B) r) (ab L B) 5 (p + 1)).2.1 := by
                    show pzO (ab L B) (r + 1) p = _
                    rw [pzOS r, if_pos q69]
                    unfold pz2
                    rw [if_pos ht, if_neg hc]
                  refine vv_goto (tgt := 83) C dX12_one_76 (by decide) ?_
                  refine vw_istore_n (lv9 := [_, _, _, _, _]) C dX12_one_83 (by decide) rfl rfl ?_
                  refine vv_iload_n C dX12_one_84 rfl ?_
                  refine vv_bipush C dX12_one_85 bp_40 ?_
                  refine vv_icmp_ne (tgt := 104) C dX12_one_87 (by decide) (fun q87 => ?_) (fun q87 => ?_)
                  · exact absurd q69 q87
                  · skip
                    refine vv_aload_n C dX12_one_90 rfl ?_
                    refine vv_bipush C dX12_one_91 bp_41 ?_
                    refine vs_caliF C dX12_one_93 (c_X12_takesN g S73 L B N (hI.fr (((vs_fr.rf.us (by decide)).us (by decide) : vs_fr [30, 32, 33] [] [] S (vs_us (vs_us S 33 (nI (6 - r))) 30 (nI (p + 1)))).tr p73.1.1)) (pzR (pzO (ab L B) r) (ab L B) 5 (p + 1)).2.1 hpo.1 p73.1.2.1 41 (fun z => hc z.2) (Or.inl (p73.1.2.2.1 ht).1)) mb_X12_takes mv_X12_takes lk_X12_229 ce_65 rfl rfl rfl rfl ⟨by omega, by omega, Nat.le_of_ble_eq_true rfl⟩ ?_
                    refine vv_if_ne (tgt := 104) C dX12_one_96 (by decide) (fun q96 => ?_) (fun q96 => ?_)
                    · exact absurd rfl q96
                    · skip
                      refine vv_aload_n C dX12_one_99 rfl ?_
                      refine vs_caliF C dX12_one_100 (c_X12_wrongN g S73 (p73.1.2.2.1 ht).1) mb_X12_wrong mv_X12_wrong lk_X12_247 ce_65 rfl rfl rfl rfl ⟨by omega, by omega, Nat.le_of_ble_eq_true rfl⟩ ?_
                      exact vs_iret C F dX12_one_103 rfl (by rw [hv]; exact ⟨⟨(((vs_fr.rf.us (by decide)).us (by decide) : vs_fr [30, 32, 33] [] [] S (vs_us (vs_us S 33 (nI (6 - r))) 30 (nI (p + 1)))).tr p73.1.1).us (by decide), p73.1.2.1, fun z => absurd (show false = true from z) (by decide), fun _ => p73.1.2.1⟩, fun z => by cases z⟩)
              · have h32 := p73.1.2.2.2 ht
                have hy31 : (pzR (pzO (ab L B) r) (ab L B) 5 (p + 1)).2.1 < 2 ^ 31 := by have := hpo.1; omega
                have hv : (pzR (pzO (ab L B) (r + 1)) (ab L B) 0 p) = pF (pzR (pzO (ab L B) r) (ab L B) 5 (p + 1)).2.1 := by
                  show pzO (ab L B) (r + 1) p = _
                  rw [pzOS r, if_pos q69]
                  unfold pz2
                  rw [if_neg ht]
                refine vv_goto (tgt := 83) C dX12_one_76 (by decide) ?_
                refine vw_istore_n (lv9 := [_, _, _, _, _]) C dX12_one_83 (by decide) rfl rfl ?_
                refine vv_iload_n C dX12_one_84 rfl ?_
                refine vv_bipush C dX12_one_85 bp_40 ?_
                refine vv_icmp_ne (tgt := 104) C dX12_one_87 (by decide) (fun q87 => ?_) (fun q87 => ?_)
                · exact absurd q69 q87
                · skip
                  refine vv_aload_n C dX12_one_90 rfl ?_
                  refine vv_bipush C dX12_one_91 bp_41 ?_
                  refine vs_caliF C dX12_one_93 (c_X12_takesN g S73 L B N (hI.fr (((vs_fr.rf.us (by decide)).us (by decide) : vs_fr [30, 32, 33] [] [] S (vs_us (vs_us S 33 (nI (6 - r))) 30 (nI (p + 1)))).tr p73.1.1)) (pzR (pzO (ab L B) r) (ab L B) 5 (p + 1)).2.1 hpo.1 p73.1.2.1 41 (fun z => nf_no hy31 h32 z.1) (Or.inr (nf_ge hy31 h32))) mb_X12_takes mv_X12_takes lk_X12_229 ce_65 rfl rfl rfl rfl ⟨by omega, by omega, Nat.le_of_ble_eq_true rfl⟩ ?_
                  refine vv_if_ne (tgt := 104) C dX12_one_96 (by decide) (fun q96 => ?_) (fun q96 => ?_)
                  · exact absurd rfl q96
                  · skip
                    refine vv_aload_n C dX12_one_99 rfl ?_
                    refine vs_caliF C dX12_one_100 (c_X12_wrongY g S73 (pzR (pzO (ab L B) r) (ab L B) 5 (p + 1)).2.1 hy31 h32) mb_X12_wrong mv_X12_wrong lk_X12_247 ce_65 rfl rfl rfl rfl ⟨by omega, by omega, Nat.le_of_ble_eq_true rfl⟩ ?_
                    exact vs_iret C F dX12_one_103 rfl (by rw [hv]; exact ⟨⟨(((vs_fr.rf.us (by decide)).us (by decide) : vs_fr [30, 32, 33] [] [] S (vs_us (vs_us S 33 (nI (6 - r))) 30 (nI (p + 1)))).tr p73.1.1).us (by decide), p73.1.2.1, fun z => absurd (show false = true from z) (by decide), fun _ => rfl⟩, fun z => by cases z⟩)
          · exact absurd ((xn_eq (by omega) (by omega)).mp (show nI (6 - (r + 1)) = nI 6 from q38)) (by omega)
  · exact absurd (by rw [hq.2.1]; decide) q4
