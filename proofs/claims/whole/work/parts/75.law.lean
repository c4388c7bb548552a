/-! THE CLAIM OUT OF ONE WALK OF THE LAW'S BODY. Your part is whole_start (and what it stands on); all else here is the same for every law, but numbers. -/
def R_law : String := "LawfulSumsLaw"
def lw_P (b : Addr) (xs : List Int32) (args : Array Value) (s : State) : Prop := args = #[.ref b] ∧ s.IntsAt b xs ∧ xs.length ≤ 3072 ∧ (Jvm.Cond.and given_1 narrow_1).before args s = true
def lw_Q (_ : Array Value) (s : State) (o : Outcome) (t : State) : Prop := o = .returned (some (.int 1)) ∧ Framed s o t [] 600000 7302250
def lw_Z (below : List Frame) (a : Array Value) (s : State) : State → Prop := fun t => ∃ o, t.status = .running ∧ Ended t below o ∧ lw_Q a s o t
/-- the law's own end, with 1 on the stack, nothing written that was there before, its room as the claim has it -/
theorem lw_ret {p : Program} {l : Launch} {e : Env} {s : State} {m : MethodId} {below : List Frame} {meth : Method} {c : Code} {b : Nat} (hx : p.tables.exec = Jvm.exec) (hb : c.code = code) (hr : meth.sig.returnType = ret) (hlocks : meth.locks = false) {pc : Nat} {H : Heap} {ls : Array Slot} (hdg : decode code pc = .ok (.ireturn, 1)) : W p l e room_1 s m #[Value.ref b] below meth c H [] 600000 7302250 (lw_Z below #[Value.ref b] s) (F0 m pc ls [.int 1]) := by
  intro T hT X
  obtain ⟨fs, hret, hrun, hended, hW, hframe⟩ := X.leave (v := some (.int 1)) (hlocks := hlocks) (fun h => by rw [hr] at h; cases h)
  have hmeth' : T.vm.method? m = some meth := X.method'
  refine ⟨T.setFrames fs, ?_, .returned (some (.int 1)), hrun, hended, rfl, ⟨_, rfl⟩, hW, hframe⟩
  jvm_step X.here [X.here.top, hx, hb, hdg, hmeth', hr, ret, narrow_b1]
  (try refine ⟨rfl, ?_⟩); (try refine ⟨rfl, ?_⟩)
  first | (intro acts; rw [hret _ acts rfl rfl rfl]) | rw [hret _ _ rfl rfl rfl]
  exact Steps.refl _
/-- what holds at the law's entry: the machine, the code, the tables' words (any of lw_tbl by 'hts w (by decide +kernel)'), the script of L ints xs at the cell b, what the Statement gives of the start (any of its parts by flat_of_before) -/
def lw_At (p : Program) (s : State) (m : MethodId) (meth : Method) (c : Code) (b L : Nat) (xs : Nat → Int32) : Prop :=
  p.tables.exec = Jvm.exec ∧ c.code = code ∧ meth.sig.returnType = ret ∧ c.maxLocals = 4 ∧ s.vm.findClass R_law = some m.cls ∧ (∀ w ∈ lw_tbl, w.before #[Value.ref b] s = true) ∧ va_X b L xs s s.heap ∧ b < s.heap.size ∧ meth.locks = false ∧ (Jvm.Cond.and given_1 narrow_1).before #[Value.ref b] s = true
/-! THE LAW'S ROWS -/
def vv_Sx (g : vv_G) (x : vv_X) (b L : Nat) (xs : Nat → Int32) : Prop := match x with
  | (_, _, _, s, _, _, _, _, _, _) => va_X b L xs s s.heap ∧ b < s.heap.size ∧ b < vv_b g
theorem vv_ildsX {g : vv_G} {x : vv_X} {own nm : String} {cc : ByteArray} {nL k n pc : Nat} {ret : Option FieldType} {R0 : Room} {lv : List (Option Value)} {st : List Value} {h : List va_E} {j : Int32} {b L : Nat} {xs : Nat → Int32} (C : vv_C g own nm cc nL ret R0 x) (d : decode cc pc = .ok (.iaload, 1)) (hX : vv_Sx g x b L xs) (hin : vp_in j L) (kk : vv_V g x nL k n (pc + 1) lv (.int (xs j.toNatClampNeg) :: st) h) : vv_V g x nL k n (pc) lv (.int j :: .ref b :: st) h := by
  obtain ⟨p, e, R, s, m, args, below, meth, c, Q⟩ := x
  intro H locs ls hS hW hl
  have hX : va_X b L xs s s.heap ∧ b < s.heap.size ∧ b < vv_b g := hX
  exact va_sld C.1 C.2.1 hX.1 hX.2.1 (Nat.not_le.mpr hX.2.2) hS hin d (kk H locs ls hS hW hl)
theorem vv_alensX {g : vv_G} {x : vv_X} {own nm : String} {cc : ByteArray} {nL k n pc : Nat} {ret : Option FieldType} {R0 : Room} {lv : List (Option Value)} {st : List Value} {h : List va_E} {b L : Nat} {xs : Nat → Int32} (C : vv_C g own nm cc nL ret R0 x) (d : decode cc pc = .ok (.arraylength, 1)) (hX : vv_Sx g x b L xs) (kk : vv_V g x nL k n (pc + 1) lv (.int (nI L) :: st) h) : vv_V g x nL k n (pc) lv (.ref b :: st) h := by
  obtain ⟨p, e, R, s, m, args, below, meth, c, Q⟩ := x
  intro H locs ls hS hW hl
  have hX : va_X b L xs s s.heap ∧ b < s.heap.size ∧ b < vv_b g := hX
  exact va_slen C.1 C.2.1 hX.1 hX.2.1 (Nat.not_le.mpr hX.2.2) hS d (kk H locs ls hS hW hl)
theorem vl_calli {g : vv_G} {x : vv_X} {own nm : String} {cc : ByteArray} {nL k n pc : Nat} {ret : Option FieldType} {R0 : Room} {lv : List (Option Value)} {st : List Value} {S : vs_S} {y : MethodName} {cc9 : ByteArray} {nL9 na idx d9 : Nat} {ret9 : Option FieldType} {stk : List Value} {i ci : Nat} {fs As : List Value} {q9 : vw_C} {Po : Int32 → vs_S → Prop} (C : vv_C g own nm cc nL ret R0 x) (d : decode cc pc = .ok (.invokevirtual idx, 3)) (M : vs_KI g y cc9 nL9 ret9 d9 (vv_r g i :: As) S Po) (f : vv_cb y cc9 nL9 ret9 na) (fv : vv_vm y) (fl : vv_lk own idx y) (he : (vs_cells g S)[vv_n i]? = some (.inr (ci, fs))) (hc : vwCl[ci]? = some q9) (hy : q9.1 = y.cls) (hn : As.length = na) (hst : As.reverse ++ vv_r g i :: st = stk) (hro : vv_rok (vs_R d9) R0 nL9 k n st) (kk : ∀ (r9 : Int32) (S1 : vs_S), Po r9 S1 → vv_V g x nL k n (pc + 3) lv (.int r9 :: st) (vs_cells g S1)) : vv_V g x nL k n (pc) lv (stk) (vs_cells g S) := vv_calli C d M f fv fl he hc hy hn hst hro (fun r9 h9 q => by obtain ⟨S1, rfl, hp⟩ := q; exact kk r9 S1 hp)
theorem vl_calll {g : vv_G} {x : vv_X} {own nm : String} {cc : ByteArray} {nL k n pc : Nat} {ret : Option FieldType} {R0 : Room} {lv : List (Option Value)} {st : List Value} {S : vs_S} {y : MethodName} {cc9 : ByteArray} {nL9 na idx d9 : Nat} {ret9 : Option FieldType} {stk : List Value} {i ci : Nat} {fs As : List Value} {q9 : vw_C} {Po : Int64 → vs_S → Prop} (C : vv_C g own nm cc nL ret R0 x) (d : decode cc pc = .ok (.invokevirtual idx, 3)) (M : vs_KL g y cc9 nL9 ret9 d9 (vv_r g i :: As) S Po) (f : vv_cb y cc9 nL9 ret9 na) (fv : vv_vm y) (fl : vv_lk own idx y) (he : (vs_cells g S)[vv_n i]? = some (.inr (ci, fs))) (hc : vwCl[ci]? = some q9) (hy : q9.1 = y.cls) (hn : As.length = na) (hst : As.reverse ++ vv_r g i :: st = stk) (hro : vv_rok (vs_R d9) R0 nL9 k n st) (kk : ∀ (r9 : Int64) (S1 : vs_S), Po r9 S1 → vv_V g x nL k n (pc + 3) lv (.long r9 :: st) (vs_cells g S1)) : vv_V g x nL k n (pc) lv (stk) (vs_cells g S) := vv_calll C d M f fv fl he hc hy hn hst hro (fun r9 h9 q => by obtain ⟨S1, rfl, hp⟩ := q; exact kk r9 S1 hp)
/-- the law's own frame -/
def vv_Lx (g : vv_G) (x : vv_X) (b : Nat) : Prop := match x with
  | (_, _, R, s, _, args, below, _, _, Q) => R = room_1 ∧ args = #[.ref b] ∧ Q = lw_Z below args s ∧ vv_b g = s.heap.size
theorem vl_ret {g : vv_G} {x : vv_X} {own nm : String} {nL k n pc b : Nat} {lv : List (Option Value)} {h : List va_E} (C : vv_C g own nm code nL ret room_1 x) (hx : vv_Lx g x b) (d : decode code pc = .ok (.ireturn, 1)) (hk : k ≤ 600000 ∧ n ≤ 7302250) : vv_V g x nL k n pc lv [.int 1] h := by
  obtain ⟨p, e, R, s, m, args, below, meth, c, Q⟩ := x
  obtain ⟨h1, h2, h3, hb⟩ := hx
  subst h1 h2 h3
  intro H locs ls hS hW hl
  refine va_forget (fun q hq => ?_) (W.widen hk.1 hk.2 (lw_ret C.1 C.2.1 C.2.2.2.1 C.2.2.2.2.1 d))
  have := hS.2.2 q hq
  have : vv_b g ≤ q.base := this
  omega
theorem nI_L6 {L i : Nat} (hL : L ≤ 3072) (hi : i ≤ 4000) : nI L - 6 < nI i ↔ L < i + 6 := by
  have s1 : (nI L - 6).toInt = (L : Int) - 6 := by
    rw [xn_lit, Int32.toInt_sub, xn_toInt (by omega), xn_toInt (by omega)]
    exact Int.bmod_eq_of_le_mul_two (by omega) (by omega)
  rw [Int32.lt_iff_toInt_lt, s1, xn_toInt (by omega)]
  omega

set_option maxRecDepth 20000 in
theorem lw_loop {g : vv_G} {x : vv_X} {nm : String} {b L k n : Nat} {xs : Nat → Int32} (hL : L ≤ 3072) (hfl : vv_fl g = false) (hN : NQ) (C : vv_C g "LawfulSumsLaw" nm cL_law 4 ret room_1 x) (hsX : vv_Sx g x b L xs) (hx : vv_Lx g x b) (hk : k ≤ 600000 ∧ n ≤ 7302250) : ∀ (f i : Nat) (S : vs_S), RR S → i ≤ L + 6 → L + 1 ≤ i + f → vv_V g x 4 k n 18 [some (.ref b), some (vv_r g 0), some (vv_r g 65), some (.int (nI i))] [] (vs_cells g S) := by
 intro f
 induction f with
 | zero =>
  intro i S hR hi hf
  refine vv_iload_n C dL_law_18 rfl ?_
  refine vv_aload_nR C dL_law_19 rfl ?_
  refine vv_alensX C dL_law_20 hsX ?_
  refine vv_bipush C dL_law_21 bp_6 ?_
  refine vv_isub C dL_law_23 ?_
  refine vv_icmp_gt (tgt := 1530) C dL_law_24 (by decide) (fun q24 => ?_) (fun q24 => ?_)
  · skip
    refine vv_iconst C dL_law_1530 ic_1 ?_
    exact vl_ret C hx dL_law_1531 hk
  · exact absurd ((nI_L6 hL (by omega)).mpr (by omega)) q24
 | succ f ih =>
  intro i S hR hi hf
  refine vv_iload_n C dL_law_18 rfl ?_
  refine vv_aload_nR C dL_law_19 rfl ?_
  refine vv_alensX C dL_law_20 hsX ?_
  refine vv_bipush C dL_law_21 bp_6 ?_
  refine vv_isub C dL_law_23 ?_
  refine vv_icmp_gt (tgt := 1530) C dL_law_24 (by decide) (fun q24 => ?_) (fun q24 => ?_)
  · skip
    refine vv_iconst C dL_law_1530 ic_1 ?_
    exact vl_ret C hx dL_law_1531 hk
  · have hi6 : i + 6 ≤ L := by
      apply Decidable.byContradiction
      intro z
      exact q24 ((nI_L6 hL (by omega)).mpr (by omega))
    refine vv_aload_nR C dL_law_27 rfl ?_
    refine vv_iload_n C dL_law_28 rfl ?_
    refine vv_ildsX C dL_law_29 hsX (xn_in (by omega) (by omega)) ?_
    refine vv_bipush C dL_law_30 bp_63 ?_
    refine vv_iand C dL_law_32 ?_
    by_cases h0 : xs (nI i).toNatClampNeg &&& 63 = 0
    · refine vs_eqi (v9 := 0) h0 ?_
      refine vv_tableIn (tgt := 216) (off := 183) C dL_law_33 (by decide +kernel) (by decide +kernel) (by decide +kernel) (by decide) ?_
      refine vv_aload_n C dL_law_216 rfl ?_
      refine vv_aload_nR C dL_law_217 rfl ?_
      refine vv_iload_n C dL_law_218 rfl ?_
      refine vv_iconst C dL_law_219 ic_1 ?_
      refine vv_iadd C dL_law_220 ?_
      refine vs_eqi (v9 := nI (i + 1)) (nI_add _ _) ?_
      refine vv_ildsX C dL_law_221 hsX (xn_in (by omega) (by omega)) ?_
      refine vl_calli C dL_law_222 (pr_force g hfl hN S hR _) mb_X11_force mv_X11_force lk_L_13 ce_0 rfl rfl rfl rfl ⟨⟨Nat.le_of_ble_eq_true rfl, Nat.le_of_ble_eq_true rfl⟩, ⟨hk.1, hk.2⟩, Nat.le_of_ble_eq_true rfl⟩ (fun r222 S222 p222 => ?_)
      refine vv_aload_n C dL_law_225 rfl ?_
      refine vv_aload_nR C dL_law_226 rfl ?_
      refine vv_iload_n C dL_law_227 rfl ?_
      refine vv_iconst C dL_law_228 ic_1 ?_
      refine vv_iadd C dL_law_229 ?_
      refine vs_eqi (v9 := nI (i + 1)) (nI_add _ _) ?_
      refine vv_ildsX C dL_law_230 hsX (xn_in (by omega) (by omega)) ?_
      refine vl_calli C dL_law_231 p222 mb_X12_force mv_X12_force lk_L_17 ce_65 rfl rfl rfl rfl ⟨⟨Nat.le_of_ble_eq_true rfl, Nat.le_of_ble_eq_true rfl⟩, ⟨hk.1, hk.2⟩, Nat.le_of_ble_eq_true rfl⟩ (fun r231 S231 p231 => ?_)
      refine vv_icmp_eq (tgt := 1524) C dL_law_234 (by decide) (fun q234 => ?_) (fun q234 => ?_)
      · skip
        refine vw_iinc (lv9 := [_, _, _, _]) C dL_law_1524 rfl ic_6 (by decide) rfl rfl ?_
        refine vv_goto (tgt := 18) C dL_law_1527 (by decide) ?_
        rw [show nI i + 6 = nI (i + 6) from nI_add i 6]
        exact ih (i + 6) S231 p231.2 (by omega) (by omega)
      · exact absurd p231.1.symm q234
    by_cases h1 : xs (nI i).toNatClampNeg &&& 63 = 1
    · refine vs_eqi (v9 := 1) h1 ?_
      refine vv_tableIn (tgt := 239) (off := 206) C dL_law_33 (by decide +kernel) (by decide +kernel) (by decide +kernel) (by decide) ?_
      refine vv_aload_n C dL_law_239 rfl ?_
      refine vv_aload_nR C dL_law_240 rfl ?_
      refine vv_iload_n C dL_law_241 rfl ?_
      refine vv_iconst C dL_law_242 ic_1 ?_
      refine vv_iadd C dL_law_243 ?_
      refine vs_eqi (v9 := nI (i + 1)) (nI_add _ _) ?_
      refine vv_ildsX C dL_law_244 hsX (xn_in (by omega) (by omega)) ?_
      refine vv_aload_nR C dL_law_245 rfl ?_
      refine vv_iload_n C dL_law_246 rfl ?_
      refine vv_iconst C dL_law_247 ic_2 ?_
      refine vv_iadd C dL_law_248 ?_
      refine vs_eqi (v9 := nI (i + 2)) (nI_add _ _) ?_
      refine vv_ildsX C dL_law_249 hsX (xn_in (by omega) (by omega)) ?_
      refine vl_calli C dL_law_250 (pr_lawful g hfl hN S hR _ _) mb_X11_lawful mv_X11_lawful lk_L_18 ce_0 rfl rfl rfl rfl ⟨⟨Nat.le_of_ble_eq_true rfl, Nat.le_of_ble_eq_true rfl⟩, ⟨hk.1, hk.2⟩, Nat.le_of_ble_eq_true rfl⟩ (fun r250 S250 p250 => ?_)
      refine vv_aload_n C dL_law_253 rfl ?_
      refine vv_aload_nR C dL_law_254 rfl ?_
      refine vv_iload_n C dL_law_255 rfl ?_
      refine vv_iconst C dL_law_256 ic_1 ?_
      refine vv_iadd C dL_law_257 ?_
      refine vs_eqi (v9 := nI (i + 1)) (nI_add _ _) ?_
      refine vv_ildsX C dL_law_258 hsX (xn_in (by omega) (by omega)) ?_
      refine vv_aload_nR C dL_law_259 rfl ?_
      refine vv_iload_n C dL_law_260 rfl ?_
      refine vv_iconst C dL_law_261 ic_2 ?_
      refine vv_iadd C dL_law_262 ?_
      refine vs_eqi (v9 := nI (i + 2)) (nI_add _ _) ?_
      refine vv_ildsX C dL_law_263 hsX (xn_in (by omega) (by omega)) ?_
      refine vl_calli C dL_law_264 p250 mb_X12_lawful mv_X12_lawful lk_L_22 ce_65 rfl rfl rfl rfl ⟨⟨Nat.le_of_ble_eq_true rfl, Nat.le_of_ble_eq_true rfl⟩, ⟨hk.1, hk.2⟩, Nat.le_of_ble_eq_true rfl⟩ (fun r264 S264 p264 => ?_)
      refine vv_icmp_eq (tgt := 1524) C dL_law_267 (by decide) (fun q267 => ?_) (fun q267 => ?_)
      · skip
        refine vw_iinc (lv9 := [_, _, _, _]) C dL_law_1524 rfl ic_6 (by decide) rfl rfl ?_
        refine vv_goto (tgt := 18) C dL_law_1527 (by decide) ?_
        rw [show nI i + 6 = nI (i + 6) from nI_add i 6]
        exact ih (i + 6) S264 p264.2 (by omega) (by omega)
      · exact absurd p264.1.symm q267
    by_cases h2 : xs (nI i).toNatClampNeg &&& 63 = 2
    · refine vs_eqi (v9 := 2) h2 ?_
      refine vv_tableIn (tgt := 272) (off := 239) C dL_law_33 (by decide +kernel) (by decide +kernel) (by decide +kernel) (by decide) ?_
      refine vv_aload_n C dL_law_272 rfl ?_
      refine vv_aload_nR C dL_law_273 rfl ?_
      refine vv_iload_n C dL_law_274 rfl ?_
      refine vv_iconst C dL_law_275 ic_1 ?_
      refine vv_iadd C dL_law_276 ?_
      refine vs_eqi (v9 := nI (i + 1)) (nI_add _ _) ?_
      refine vv_ildsX C dL_law_277 hsX (xn_in (by omega) (by omega)) ?_
      refine vv_aload_nR C dL_law_278 rfl ?_
      refine vv_iload_n C dL_law_279 rfl ?_
      refine vv_iconst C dL_law_280 ic_2 ?_
      refine vv_iadd C dL_law_281 ?_
      refine vs_eqi (v9 := nI (i + 2)) (nI_add _ _) ?_
      refine vv_ildsX C dL_law_282 hsX (xn_in (by omega) (by omega)) ?_
      refine vl_calll C dL_law_283 (pr_part g hfl hN S hR _ _) mb_X11_part mv_X11_part lk_L_23 ce_0 rfl rfl rfl rfl ⟨⟨Nat.le_of_ble_eq_true rfl, Nat.le_of_ble_eq_true rfl⟩, ⟨hk.1, hk.2⟩, Nat.le_of_ble_eq_true rfl⟩ (fun r283 S283 p283 => ?_)
      refine vv_aload_n C dL_law_286 rfl ?_
      refine vv_aload_nR C dL_law_287 rfl ?_
      refine vv_iload_n C dL_law_288 rfl ?_
      refine vv_iconst C dL_law_289 ic_1 ?_
      refine vv_iadd C dL_law_290 ?_
      refine vs_eqi (v9 := nI (i + 1)) (nI_add _ _) ?_
      refine vv_ildsX C dL_law_291 hsX (xn_in (by omega) (by omega)) ?_
      refine vv_aload_nR C dL_law_292 rfl ?_
      refine vv_iload_n C dL_law_293 rfl ?_
      refine vv_iconst C dL_law_294 ic_2 ?_
      refine vv_iadd C dL_law_295 ?_
      refine vs_eqi (v9 := nI (i + 2)) (nI_add _ _) ?_
      refine vv_ildsX C dL_law_296 hsX (xn_in (by omega) (by omega)) ?_
      refine vl_calll C dL_law_297 p283 mb_X12_part mv_X12_part lk_L_27 ce_65 rfl rfl rfl rfl ⟨⟨Nat.le_of_ble_eq_true rfl, Nat.le_of_ble_eq_true rfl⟩, ⟨hk.1, hk.2⟩, Nat.le_of_ble_eq_true rfl⟩ (fun r297 S297 p297 => ?_)
      refine vv_lcmp C dL_law_300 ?_
      refine vv_if_eq (tgt := 1524) C dL_law_301 (by decide) (fun q301 => ?_) (fun q301 => ?_)
      · skip
        refine vw_iinc (lv9 := [_, _, _, _]) C dL_law_1524 rfl ic_6 (by decide) rfl rfl ?_
        refine vv_goto (tgt := 18) C dL_law_1527 (by decide) ?_
        rw [show nI i + 6 = nI (i + 6) from nI_add i 6]
        exact ih (i + 6) S297 p297.2 (by omega) (by omega)
      · exact absurd ((lg_cmp_eq _ _).mpr p297.1.symm) q301
    by_cases h3 : xs (nI i).toNatClampNeg &&& 63 = 3
    · refine vs_eqi (v9 := 3) h3 ?_
      refine vv_tableIn (tgt := 306) (off := 273) C dL_law_33 (by decide +kernel) (by decide +kernel) (by decide +kernel) (by decide) ?_
      refine vv_aload_n C dL_law_306 rfl ?_
      refine vv_aload_nR C dL_law_307 rfl ?_
      refine vv_iload_n C dL_law_308 rfl ?_
      refine vv_iconst C dL_law_309 ic_1 ?_
      refine vv_iadd C dL_law_310 ?_
      refine vs_eqi (v9 := nI (i + 1)) (nI_add _ _) ?_
      refine vv_ildsX C dL_law_311 hsX (xn_in (by omega) (by omega)) ?_
      refine vv_aload_nR C dL_law_312 rfl ?_
      refine vv_iload_n C dL_law_313 rfl ?_
      refine vv_iconst C dL_law_314 ic_2 ?_
      refine vv_iadd C dL_law_315 ?_
      refine vs_eqi (v9 := nI (i + 2)) (nI_add _ _) ?_
      refine vv_ildsX C dL_law_316 hsX (xn_in (by omega) (by omega)) ?_
      refine vl_calli C dL_law_317 (pr_parts g hfl hN S hR _ _) mb_X11_parts mv_X11_parts lk_L_28 ce_0 rfl rfl rfl rfl ⟨⟨Nat.le_of_ble_eq_true rfl, Nat.le_of_ble_eq_true rfl⟩, ⟨hk.1, hk.2⟩, Nat.le_of_ble_eq_true rfl⟩ (fun r317 S317 p317 => ?_)
      refine vv_aload_n C dL_law_320 rfl ?_
      refine vv_aload_nR C dL_law_321 rfl ?_
      refine vv_iload_n C dL_law_322 rfl ?_
      refine vv_iconst C dL_law_323 ic_1 ?_
      refine vv_iadd C dL_law_324 ?_
      refine vs_eqi (v9 := nI (i + 1)) (nI_add _ _) ?_
      refine vv_ildsX C dL_law_325 hsX (xn_in (by omega) (by omega)) ?_
      refine vv_aload_nR C dL_law_326 rfl ?_
      refine vv_iload_n C dL_law_327 rfl ?_
      refine vv_iconst C dL_law_328 ic_2 ?_
      refine vv_iadd C dL_law_329 ?_
      refine vs_eqi (v9 := nI (i + 2)) (nI_add _ _) ?_
      refine vv_ildsX C dL_law_330 hsX (xn_in (by omega) (by omega)) ?_
      refine vl_calli C dL_law_331 p317 mb_X12_parts mv_X12_parts lk_L_31 ce_65 rfl rfl rfl rfl ⟨⟨Nat.le_of_ble_eq_true rfl, Nat.le_of_ble_eq_true rfl⟩, ⟨hk.1, hk.2⟩, Nat.le_of_ble_eq_true rfl⟩ (fun r331 S331 p331 => ?_)
      refine vv_icmp_eq (tgt := 1524) C dL_law_334 (by decide) (fun q334 => ?_) (fun q334 => ?_)
      · skip
        refine vw_iinc (lv9 := [_, _, _, _]) C dL_law_1524 rfl ic_6 (by decide) rfl rfl ?_
        refine vv_goto (tgt := 18) C dL_law_1527 (by decide) ?_
        rw [show nI i + 6 = nI (i + 6) from nI_add i 6]
        exact ih (i + 6) S331 p331.2 (by omega) (by omega)
      · exact absurd p331.1.symm q334
    by_cases h4 : xs (nI i).toNatClampNeg &&& 63 = 4
    · refine vs_eqi (v9 := 4) h4 ?_
      refine vv_tableIn (tgt := 339) (off := 306) C dL_law_33 (by decide +kernel) (by decide +kernel) (by decide +kernel) (by decide) ?_
      refine vv_aload_n C dL_law_339 rfl ?_
      refine vv_aload_nR C dL_law_340 rfl ?_
      refine vv_iload_n C dL_law_341 rfl ?_
      refine vv_iconst C dL_law_342 ic_1 ?_
      refine vv_iadd C dL_law_343 ?_
      refine vs_eqi (v9 := nI (i + 1)) (nI_add _ _) ?_
      refine vv_ildsX C dL_law_344 hsX (xn_in (by omega) (by omega)) ?_
      refine vl_calli C dL_law_345 (pr_proof g hfl hN S hR _) mb_X11_proof mv_X11_proof lk_L_32 ce_0 rfl rfl rfl rfl ⟨⟨Nat.le_of_ble_eq_true rfl, Nat.le_of_ble_eq_true rfl⟩, ⟨hk.1, hk.2⟩, Nat.le_of_ble_eq_true rfl⟩ (fun r345 S345 p345 => ?_)
      refine vv_aload_n C dL_law_348 rfl ?_
      refine vv_aload_nR C dL_law_349 rfl ?_
      refine vv_iload_n C dL_law_350 rfl ?_
      refine vv_iconst C dL_law_351 ic_1 ?_
      refine vv_iadd C dL_law_352 ?_
      refine vs_eqi (v9 := nI (i + 1)) (nI_add _ _) ?_
      refine vv_ildsX C dL_law_353 hsX (xn_in (by omega) (by omega)) ?_
      refine vl_calli C dL_law_354 p345 mb_X12_proof mv_X12_proof lk_L_35 ce_65 rfl rfl rfl rfl ⟨⟨Nat.le_of_ble_eq_true rfl, Nat.le_of_ble_eq_true rfl⟩, ⟨hk.1, hk.2⟩, Nat.le_of_ble_eq_true rfl⟩ (fun r354 S354 p354 => ?_)
      refine vv_icmp_eq (tgt := 1524) C dL_law_357 (by decide) (fun q357 => ?_) (fun q357 => ?_)
      · skip
        refine vw_iinc (lv9 := [_, _, _, _]) C dL_law_1524 rfl ic_6 (by decide) rfl rfl ?_
        refine vv_goto (tgt := 18) C dL_law_1527 (by decide) ?_
        rw [show nI i + 6 = nI (i + 6) from nI_add i 6]
        exact ih (i + 6) S354 p354.2 (by omega) (by omega)
      · exact absurd p354.1.symm q357
    by_cases h5 : xs (nI i).toNatClampNeg &&& 63 = 5
    · refine vs_eqi (v9 := 5) h5 ?_
      refine vv_tableIn (tgt := 362) (off := 329) C dL_law_33 (by decide +kernel) (by decide +kernel) (by decide +kernel) (by decide) ?_
      refine vv_aload_n C dL_law_362 rfl ?_
      refine vv_aload_nR C dL_law_363 rfl ?_
      refine vv_iload_n C dL_law_364 rfl ?_
      refine vv_iconst C dL_law_365 ic_1 ?_
      refine vv_iadd C dL_law_366 ?_
      refine vs_eqi (v9 := nI (i + 1)) (nI_add _ _) ?_
      refine vv_ildsX C dL_law_367 hsX (xn_in (by omega) (by omega)) ?_
      refine vv_aload_nR C dL_law_368 rfl ?_
      refine vv_iload_n C dL_law_369 rfl ?_
      refine vv_iconst C dL_law_370 ic_2 ?_
      refine vv_iadd C dL_law_371 ?_
      refine vs_eqi (v9 := nI (i + 2)) (nI_add _ _) ?_
      refine vv_ildsX C dL_law_372 hsX (xn_in (by omega) (by omega)) ?_
      refine vl_calli C dL_law_373 (pr_look g hfl hN S hR _ _) mb_X11_look mv_X11_look lk_L_36 ce_0 rfl rfl rfl rfl ⟨⟨Nat.le_of_ble_eq_true rfl, Nat.le_of_ble_eq_true rfl⟩, ⟨hk.1, hk.2⟩, Nat.le_of_ble_eq_true rfl⟩ (fun r373 S373 p373 => ?_)
      refine vv_aload_n C dL_law_376 rfl ?_
      refine vv_aload_nR C dL_law_377 rfl ?_
      refine vv_iload_n C dL_law_378 rfl ?_
      refine vv_iconst C dL_law_379 ic_1 ?_
      refine vv_iadd C dL_law_380 ?_
      refine vs_eqi (v9 := nI (i + 1)) (nI_add _ _) ?_
      refine vv_ildsX C dL_law_381 hsX (xn_in (by omega) (by omega)) ?_
      refine vv_aload_nR C dL_law_382 rfl ?_
      refine vv_iload_n C dL_law_383 rfl ?_
      refine vv_iconst C dL_law_384 ic_2 ?_
      refine vv_iadd C dL_law_385 ?_
      refine vs_eqi (v9 := nI (i + 2)) (nI_add _ _) ?_
      refine vv_ildsX C dL_law_386 hsX (xn_in (by omega) (by omega)) ?_
      refine vl_calli C dL_law_387 p373 mb_X12_look mv_X12_look lk_L_39 ce_65 rfl rfl rfl rfl ⟨⟨Nat.le_of_ble_eq_true rfl, Nat.le_of_ble_eq_true rfl⟩, ⟨hk.1, hk.2⟩, Nat.le_of_ble_eq_true rfl⟩ (fun r387 S387 p387 => ?_)
      refine vv_icmp_eq (tgt := 1524) C dL_law_390 (by decide) (fun q390 => ?_) (fun q390 => ?_)
      · skip
        refine vw_iinc (lv9 := [_, _, _, _]) C dL_law_1524 rfl ic_6 (by decide) rfl rfl ?_
        refine vv_goto (tgt := 18) C dL_law_1527 (by decide) ?_
        rw [show nI i + 6 = nI (i + 6) from nI_add i 6]
        exact ih (i + 6) S387 p387.2 (by omega) (by omega)
      · exact absurd p387.1.symm q390
    by_cases h6 : xs (nI i).toNatClampNeg &&& 63 = 6
    · refine vs_eqi (v9 := 6) h6 ?_
      refine vv_tableIn (tgt := 395) (off := 362) C dL_law_33 (by decide +kernel) (by decide +kernel) (by decide +kernel) (by decide) ?_
      refine vv_aload_n C dL_law_395 rfl ?_
      refine vv_aload_nR C dL_law_396 rfl ?_
      refine vv_iload_n C dL_law_397 rfl ?_
      refine vv_iconst C dL_law_398 ic_1 ?_
      refine vv_iadd C dL_law_399 ?_
      refine vs_eqi (v9 := nI (i + 1)) (nI_add _ _) ?_
      refine vv_ildsX C dL_law_400 hsX (xn_in (by omega) (by omega)) ?_
      refine vv_aload_nR C dL_law_401 rfl ?_
      refine vv_iload_n C dL_law_402 rfl ?_
      refine vv_iconst C dL_law_403 ic_2 ?_
      refine vv_iadd C dL_law_404 ?_
      refine vs_eqi (v9 := nI (i + 2)) (nI_add _ _) ?_
      refine vv_ildsX C dL_law_405 hsX (xn_in (by omega) (by omega)) ?_
      refine vl_calli C dL_law_406 (pr_fewest g hfl hN S hR _ _) mb_X11_fewest mv_X11_fewest lk_L_40 ce_0 rfl rfl rfl rfl ⟨⟨Nat.le_of_ble_eq_true rfl, Nat.le_of_ble_eq_true rfl⟩, ⟨hk.1, hk.2⟩, Nat.le_of_ble_eq_true rfl⟩ (fun r406 S406 p406 => ?_)
      refine vv_aload_n C dL_law_409 rfl ?_
      refine vv_aload_nR C dL_law_410 rfl ?_
      refine vv_iload_n C dL_law_411 rfl ?_
      refine vv_iconst C dL_law_412 ic_1 ?_
      refine vv_iadd C dL_law_413 ?_
      refine vs_eqi (v9 := nI (i + 1)) (nI_add _ _) ?_
      refine vv_ildsX C dL_law_414 hsX (xn_in (by omega) (by omega)) ?_
      refine vv_aload_nR C dL_law_415 rfl ?_
      refine vv_iload_n C dL_law_416 rfl ?_
      refine vv_iconst C dL_law_417 ic_2 ?_
      refine vv_iadd C dL_law_418 ?_
      refine vs_eqi (v9 := nI (i + 2)) (nI_add _ _) ?_
      refine vv_ildsX C dL_law_419 hsX (xn_in (by omega) (by omega)) ?_
      refine vl_calli C dL_law_420 p406 mb_X12_fewest mv_X12_fewest lk_L_43 ce_65 rfl rfl rfl rfl ⟨⟨Nat.le_of_ble_eq_true rfl, Nat.le_of_ble_eq_true rfl⟩, ⟨hk.1, hk.2⟩, Nat.le_of_ble_eq_true rfl⟩ (fun r420 S420 p420 => ?_)
      refine vv_icmp_eq (tgt := 1524) C dL_law_423 (by decide) (fun q423 => ?_) (fun q423 => ?_)
      · skip
        refine vw_iinc (lv9 := [_, _, _, _]) C dL_law_1524 rfl ic_6 (by decide) rfl rfl ?_
        refine vv_goto (tgt := 18) C dL_law_1527 (by decide) ?_
        rw [show nI i + 6 = nI (i + 6) from nI_add i 6]
        exact ih (i + 6) S420 p420.2 (by omega) (by omega)
      · exact absurd p420.1.symm q423
    by_cases h7 : xs (nI i).toNatClampNeg &&& 63 = 7
    · refine vs_eqi (v9 := 7) h7 ?_
      refine vv_tableIn (tgt := 428) (off := 395) C dL_law_33 (by decide +kernel) (by decide +kernel) (by decide +kernel) (by decide) ?_
      refine vv_aload_n C dL_law_428 rfl ?_
      refine vv_aload_nR C dL_law_429 rfl ?_
      refine vv_iload_n C dL_law_430 rfl ?_
      refine vv_iconst C dL_law_431 ic_1 ?_
      refine vv_iadd C dL_law_432 ?_
      refine vs_eqi (v9 := nI (i + 1)) (nI_add _ _) ?_
      refine vv_ildsX C dL_law_433 hsX (xn_in (by omega) (by omega)) ?_
      refine vv_aload_nR C dL_law_434 rfl ?_
      refine vv_iload_n C dL_law_435 rfl ?_
      refine vv_iconst C dL_law_436 ic_2 ?_
      refine vv_iadd C dL_law_437 ?_
      refine vs_eqi (v9 := nI (i + 2)) (nI_add _ _) ?_
      refine vv_ildsX C dL_law_438 hsX (xn_in (by omega) (by omega)) ?_
      refine vl_calli C dL_law_439 (pr_counted g hfl hN S hR _ _) mb_X11_counted mv_X11_counted lk_L_44 ce_0 rfl rfl rfl rfl ⟨⟨Nat.le_of_ble_eq_true rfl, Nat.le_of_ble_eq_true rfl⟩, ⟨hk.1, hk.2⟩, Nat.le_of_ble_eq_true rfl⟩ (fun r439 S439 p439 => ?_)
      refine vv_aload_n C dL_law_442 rfl ?_
      refine vv_aload_nR C dL_law_443 rfl ?_
      refine vv_iload_n C dL_law_444 rfl ?_
      refine vv_iconst C dL_law_445 ic_1 ?_
      refine vv_iadd C dL_law_446 ?_
      refine vs_eqi (v9 := nI (i + 1)) (nI_add _ _) ?_
      refine vv_ildsX C dL_law_447 hsX (xn_in (by omega) (by omega)) ?_
      refine vv_aload_nR C dL_law_448 rfl ?_
      refine vv_iload_n C dL_law_449 rfl ?_
      refine vv_iconst C dL_law_450 ic_2 ?_
      refine vv_iadd C dL_law_451 ?_
      refine vs_eqi (v9 := nI (i + 2)) (nI_add _ _) ?_
      refine vv_ildsX C dL_law_452 hsX (xn_in (by omega) (by omega)) ?_
      refine vl_calli C dL_law_453 p439 mb_X12_counted mv_X12_counted lk_L_47 ce_65 rfl rfl rfl rfl ⟨⟨Nat.le_of_ble_eq_true rfl, Nat.le_of_ble_eq_true rfl⟩, ⟨hk.1, hk.2⟩, Nat.le_of_ble_eq_true rfl⟩ (fun r453 S453 p453 => ?_)
      refine vv_icmp_eq (tgt := 1524) C dL_law_456 (by decide) (fun q456 => ?_) (fun q456 => ?_)
      · skip
        refine vw_iinc (lv9 := [_, _, _, _]) C dL_law_1524 rfl ic_6 (by decide) rfl rfl ?_
        refine vv_goto (tgt := 18) C dL_law_1527 (by decide) ?_
        rw [show nI i + 6 = nI (i + 6) from nI_add i 6]
        exact ih (i + 6) S453 p453.2 (by omega) (by omega)
      · exact absurd p453.1.symm q456
    by_cases h8 : xs (nI i).toNatClampNeg &&& 63 = 8
    · refine vs_eqi (v9 := 8) h8 ?_
      refine vv_tableIn (tgt := 461) (off := 428) C dL_law_33 (by decide +kernel) (by decide +kernel) (by decide +kernel) (by decide) ?_
      refine vv_aload_n C dL_law_461 rfl ?_
      refine vv_aload_nR C dL_law_462 rfl ?_
      refine vv_iload_n C dL_law_463 rfl ?_
      refine vv_iconst C dL_law_464 ic_1 ?_
      refine vv_iadd C dL_law_465 ?_
      refine vs_eqi (v9 := nI (i + 1)) (nI_add _ _) ?_
      refine vv_ildsX C dL_law_466 hsX (xn_in (by omega) (by omega)) ?_
      refine vv_aload_nR C dL_law_467 rfl ?_
      refine vv_iload_n C dL_law_468 rfl ?_
      refine vv_iconst C dL_law_469 ic_2 ?_
      refine vv_iadd C dL_law_470 ?_
      refine vs_eqi (v9 := nI (i + 2)) (nI_add _ _) ?_
      refine vv_ildsX C dL_law_471 hsX (xn_in (by omega) (by omega)) ?_
      refine vl_calli C dL_law_472 (pr_coin g hfl hN S hR _ _) mb_X11_coin mv_X11_coin lk_L_48 ce_0 rfl rfl rfl rfl ⟨⟨Nat.le_of_ble_eq_true rfl, Nat.le_of_ble_eq_true rfl⟩, ⟨hk.1, hk.2⟩, Nat.le_of_ble_eq_true rfl⟩ (fun r472 S472 p472 => ?_)
      refine vv_aload_n C dL_law_475 rfl ?_
      refine vv_aload_nR C dL_law_476 rfl ?_
      refine vv_iload_n C dL_law_477 rfl ?_
      refine vv_iconst C dL_law_478 ic_1 ?_
      refine vv_iadd C dL_law_479 ?_
      refine vs_eqi (v9 := nI (i + 1)) (nI_add _ _) ?_
      refine vv_ildsX C dL_law_480 hsX (xn_in (by omega) (by omega)) ?_
      refine vv_aload_nR C dL_law_481 rfl ?_
      refine vv_iload_n C dL_law_482 rfl ?_
      refine vv_iconst C dL_law_483 ic_2 ?_
      refine vv_iadd C dL_law_484 ?_
      refine vs_eqi (v9 := nI (i + 2)) (nI_add _ _) ?_
      refine vv_ildsX C dL_law_485 hsX (xn_in (by omega) (by omega)) ?_
      refine vl_calli C dL_law_486 p472 mb_X12_coin mv_X12_coin lk_L_51 ce_65 rfl rfl rfl rfl ⟨⟨Nat.le_of_ble_eq_true rfl, Nat.le_of_ble_eq_true rfl⟩, ⟨hk.1, hk.2⟩, Nat.le_of_ble_eq_true rfl⟩ (fun r486 S486 p486 => ?_)
      refine vv_icmp_eq (tgt := 1524) C dL_law_489 (by decide) (fun q489 => ?_) (fun q489 => ?_)
      · skip
        refine vw_iinc (lv9 := [_, _, _, _]) C dL_law_1524 rfl ic_6 (by decide) rfl rfl ?_
        refine vv_goto (tgt := 18) C dL_law_1527 (by decide) ?_
        rw [show nI i + 6 = nI (i + 6) from nI_add i 6]
        exact ih (i + 6) S486 p486.2 (by omega) (by omega)
      · exact absurd p486.1.symm q489
    by_cases h9 : xs (nI i).toNatClampNeg &&& 63 = 9
    · refine vs_eqi (v9 := 9) h9 ?_
      refine vv_tableIn (tgt := 494) (off := 461) C dL_law_33 (by decide +kernel) (by decide +kernel) (by decide +kernel) (by decide) ?_
      refine vv_aload_n C dL_law_494 rfl ?_
      refine vv_aload_nR C dL_law_495 rfl ?_
      refine vv_iload_n C dL_law_496 rfl ?_
      refine vv_iconst C dL_law_497 ic_1 ?_
      refine vv_iadd C dL_law_498 ?_
      refine vs_eqi (v9 := nI (i + 1)) (nI_add _ _) ?_
      refine vv_ildsX C dL_law_499 hsX (xn_in (by omega) (by omega)) ?_
      refine vv_aload_nR C dL_law_500 rfl ?_
      refine vv_iload_n C dL_law_501 rfl ?_
      refine vv_iconst C dL_law_502 ic_2 ?_
      refine vv_iadd C dL_law_503 ?_
      refine vs_eqi (v9 := nI (i + 2)) (nI_add _ _) ?_
      refine vv_ildsX C dL_law_504 hsX (xn_in (by omega) (by omega)) ?_
      refine vv_aload_nR C dL_law_505 rfl ?_
      refine vv_iload_n C dL_law_506 rfl ?_
      refine vv_iconst C dL_law_507 ic_3 ?_
      refine vv_iadd C dL_law_508 ?_
      refine vs_eqi (v9 := nI (i + 3)) (nI_add _ _) ?_
      refine vv_ildsX C dL_law_509 hsX (xn_in (by omega) (by omega)) ?_
      refine vl_calli C dL_law_510 (pr_mint g hfl hN S hR _ _ _) mb_X11_mint mv_X11_mint lk_L_52 ce_0 rfl rfl rfl rfl ⟨⟨Nat.le_of_ble_eq_true rfl, Nat.le_of_ble_eq_true rfl⟩, ⟨hk.1, hk.2⟩, Nat.le_of_ble_eq_true rfl⟩ (fun r510 S510 p510 => ?_)
      refine vv_aload_n C dL_law_513 rfl ?_
      refine vv_aload_nR C dL_law_514 rfl ?_
      refine vv_iload_n C dL_law_515 rfl ?_
      refine vv_iconst C dL_law_516 ic_1 ?_
      refine vv_iadd C dL_law_517 ?_
      refine vs_eqi (v9 := nI (i + 1)) (nI_add _ _) ?_
      refine vv_ildsX C dL_law_518 hsX (xn_in (by omega) (by omega)) ?_
      refine vv_aload_nR C dL_law_519 rfl ?_
      refine vv_iload_n C dL_law_520 rfl ?_
      refine vv_iconst C dL_law_521 ic_2 ?_
      refine vv_iadd C dL_law_522 ?_
      refine vs_eqi (v9 := nI (i + 2)) (nI_add _ _) ?_
      refine vv_ildsX C dL_law_523 hsX (xn_in (by omega) (by omega)) ?_
      refine vv_aload_nR C dL_law_524 rfl ?_
      refine vv_iload_n C dL_law_525 rfl ?_
      refine vv_iconst C dL_law_526 ic_3 ?_
      refine vv_iadd C dL_law_527 ?_
      refine vs_eqi (v9 := nI (i + 3)) (nI_add _ _) ?_
      refine vv_ildsX C dL_law_528 hsX (xn_in (by omega) (by omega)) ?_
      refine vl_calli C dL_law_529 p510 mb_X12_mint mv_X12_mint lk_L_56 ce_65 rfl rfl rfl rfl ⟨⟨Nat.le_of_ble_eq_true rfl, Nat.le_of_ble_eq_true rfl⟩, ⟨hk.1, hk.2⟩, Nat.le_of_ble_eq_true rfl⟩ (fun r529 S529 p529 => ?_)
      refine vv_icmp_eq (tgt := 1524) C dL_law_532 (by decide) (fun q532 => ?_) (fun q532 => ?_)
      · skip
        refine vw_iinc (lv9 := [_, _, _, _]) C dL_law_1524 rfl ic_6 (by decide) rfl rfl ?_
        refine vv_goto (tgt := 18) C dL_law_1527 (by decide) ?_
        rw [show nI i + 6 = nI (i + 6) from nI_add i 6]
        exact ih (i + 6) S529 p529.2 (by omega) (by omega)
      · exact absurd p529.1.symm q532
    by_cases h10 : xs (nI i).toNatClampNeg &&& 63 = 10
    · refine vs_eqi (v9 := 10) h10 ?_
      refine vv_tableIn (tgt := 537) (off := 504) C dL_law_33 (by decide +kernel) (by decide +kernel) (by decide +kernel) (by decide) ?_
      refine vv_aload_n C dL_law_537 rfl ?_
      refine vv_aload_nR C dL_law_538 rfl ?_
      refine vv_iload_n C dL_law_539 rfl ?_
      refine vv_iconst C dL_law_540 ic_1 ?_
      refine vv_iadd C dL_law_541 ?_
      refine vs_eqi (v9 := nI (i + 1)) (nI_add _ _) ?_
      refine vv_ildsX C dL_law_542 hsX (xn_in (by omega) (by omega)) ?_
      refine vv_aload_nR C dL_law_543 rfl ?_
      refine vv_iload_n C dL_law_544 rfl ?_
      refine vv_iconst C dL_law_545 ic_2 ?_
      refine vv_iadd C dL_law_546 ?_
      refine vs_eqi (v9 := nI (i + 2)) (nI_add _ _) ?_
      refine vv_ildsX C dL_law_547 hsX (xn_in (by omega) (by omega)) ?_
      refine vl_calli C dL_law_548 (pr_coins g hfl hN S hR _ _) mb_X11_coins mv_X11_coins lk_L_57 ce_0 rfl rfl rfl rfl ⟨⟨Nat.le_of_ble_eq_true rfl, Nat.le_of_ble_eq_true rfl⟩, ⟨hk.1, hk.2⟩, Nat.le_of_ble_eq_true rfl⟩ (fun r548 S548 p548 => ?_)
      refine vv_aload_n C dL_law_551 rfl ?_
      refine vv_aload_nR C dL_law_552 rfl ?_
      refine vv_iload_n C dL_law_553 rfl ?_
      refine vv_iconst C dL_law_554 ic_1 ?_
      refine vv_iadd C dL_law_555 ?_
      refine vs_eqi (v9 := nI (i + 1)) (nI_add _ _) ?_
      refine vv_ildsX C dL_law_556 hsX (xn_in (by omega) (by omega)) ?_
      refine vv_aload_nR C dL_law_557 rfl ?_
      refine vv_iload_n C dL_law_558 rfl ?_
      refine vv_iconst C dL_law_559 ic_2 ?_
      refine vv_iadd C dL_law_560 ?_
      refine vs_eqi (v9 := nI (i + 2)) (nI_add _ _) ?_
      refine vv_ildsX C dL_law_561 hsX (xn_in (by omega) (by omega)) ?_
      refine vl_calli C dL_law_562 p548 mb_X12_coins mv_X12_coins lk_L_60 ce_65 rfl rfl rfl rfl ⟨⟨Nat.le_of_ble_eq_true rfl, Nat.le_of_ble_eq_true rfl⟩, ⟨hk.1, hk.2⟩, Nat.le_of_ble_eq_true rfl⟩ (fun r562 S562 p562 => ?_)
      refine vv_icmp_eq (tgt := 1524) C dL_law_565 (by decide) (fun q565 => ?_) (fun q565 => ?_)
      · skip
        refine vw_iinc (lv9 := [_, _, _, _]) C dL_law_1524 rfl ic_6 (by decide) rfl rfl ?_
        refine vv_goto (tgt := 18) C dL_law_1527 (by decide) ?_
        rw [show nI i + 6 = nI (i + 6) from nI_add i 6]
        exact ih (i + 6) S562 p562.2 (by omega) (by omega)
      · exact absurd p562.1.symm q565
    by_cases h11 : xs (nI i).toNatClampNeg &&& 63 = 11
    · refine vs_eqi (v9 := 11) h11 ?_
      refine vv_tableIn (tgt := 570) (off := 537) C dL_law_33 (by decide +kernel) (by decide +kernel) (by decide +kernel) (by decide) ?_
      refine vv_aload_n C dL_law_570 rfl ?_
      refine vv_aload_nR C dL_law_571 rfl ?_
      refine vv_iload_n C dL_law_572 rfl ?_
      refine vv_iconst C dL_law_573 ic_1 ?_
      refine vv_iadd C dL_law_574 ?_
      refine vs_eqi (v9 := nI (i + 1)) (nI_add _ _) ?_
      refine vv_ildsX C dL_law_575 hsX (xn_in (by omega) (by omega)) ?_
      refine vl_calli C dL_law_576 (pr_change g hfl hN S hR _) mb_X11_change mv_X11_change lk_L_61 ce_0 rfl rfl rfl rfl ⟨⟨Nat.le_of_ble_eq_true rfl, Nat.le_of_ble_eq_true rfl⟩, ⟨hk.1, hk.2⟩, Nat.le_of_ble_eq_true rfl⟩ (fun r576 S576 p576 => ?_)
      refine vv_aload_n C dL_law_579 rfl ?_
      refine vv_aload_nR C dL_law_580 rfl ?_
      refine vv_iload_n C dL_law_581 rfl ?_
      refine vv_iconst C dL_law_582 ic_1 ?_
      refine vv_iadd C dL_law_583 ?_
      refine vs_eqi (v9 := nI (i + 1)) (nI_add _ _) ?_
      refine vv_ildsX C dL_law_584 hsX (xn_in (by omega) (by omega)) ?_
      refine vl_calli C dL_law_585 p576 mb_X12_change mv_X12_change lk_L_64 ce_65 rfl rfl rfl rfl ⟨⟨Nat.le_of_ble_eq_true rfl, Nat.le_of_ble_eq_true rfl⟩, ⟨hk.1, hk.2⟩, Nat.le_of_ble_eq_true rfl⟩ (fun r585 S585 p585 => ?_)
      refine vv_icmp_eq (tgt := 1524) C dL_law_588 (by decide) (fun q588 => ?_) (fun q588 => ?_)
      · skip
        refine vw_iinc (lv9 := [_, _, _, _]) C dL_law_1524 rfl ic_6 (by decide) rfl rfl ?_
        refine vv_goto (tgt := 18) C dL_law_1527 (by decide) ?_
        rw [show nI i + 6 = nI (i + 6) from nI_add i 6]
        exact ih (i + 6) S585 p585.2 (by omega) (by omega)
      · exact absurd p585.1.symm q588
    by_cases h12 : xs (nI i).toNatClampNeg &&& 63 = 12
    · refine vs_eqi (v9 := 12) h12 ?_
      refine vv_tableIn (tgt := 593) (off := 560) C dL_law_33 (by decide +kernel) (by decide +kernel) (by decide +kernel) (by decide) ?_
      refine vv_aload_n C dL_law_593 rfl ?_
      refine vv_aload_nR C dL_law_594 rfl ?_
      refine vv_iload_n C dL_law_595 rfl ?_
      refine vv_iconst C dL_law_596 ic_1 ?_
      refine vv_iadd C dL_law_597 ?_
      refine vs_eqi (v9 := nI (i + 1)) (nI_add _ _) ?_
      refine vv_ildsX C dL_law_598 hsX (xn_in (by omega) (by omega)) ?_
      refine vl_calli C dL_law_599 (pr_third g hfl hN S hR _) mb_X11_third mv_X11_third lk_L_65 ce_0 rfl rfl rfl rfl ⟨⟨Nat.le_of_ble_eq_true rfl, Nat.le_of_ble_eq_true rfl⟩, ⟨hk.1, hk.2⟩, Nat.le_of_ble_eq_true rfl⟩ (fun r599 S599 p599 => ?_)
      refine vv_aload_n C dL_law_602 rfl ?_
      refine vv_aload_nR C dL_law_603 rfl ?_
      refine vv_iload_n C dL_law_604 rfl ?_
      refine vv_iconst C dL_law_605 ic_1 ?_
      refine vv_iadd C dL_law_606 ?_
      refine vs_eqi (v9 := nI (i + 1)) (nI_add _ _) ?_
      refine vv_ildsX C dL_law_607 hsX (xn_in (by omega) (by omega)) ?_
      refine vl_calli C dL_law_608 p599 mb_X12_third mv_X12_third lk_L_68 ce_65 rfl rfl rfl rfl ⟨⟨Nat.le_of_ble_eq_true rfl, Nat.le_of_ble_eq_true rfl⟩, ⟨hk.1, hk.2⟩, Nat.le_of_ble_eq_true rfl⟩ (fun r608 S608 p608 => ?_)
      refine vv_icmp_eq (tgt := 1524) C dL_law_611 (by decide) (fun q611 => ?_) (fun q611 => ?_)
      · skip
        refine vw_iinc (lv9 := [_, _, _, _]) C dL_law_1524 rfl ic_6 (by decide) rfl rfl ?_
        refine vv_goto (tgt := 18) C dL_law_1527 (by decide) ?_
        rw [show nI i + 6 = nI (i + 6) from nI_add i 6]
        exact ih (i + 6) S608 p608.2 (by omega) (by omega)
      · exact absurd p608.1.symm q611
    by_cases h13 : xs (nI i).toNatClampNeg &&& 63 = 13
    · refine vs_eqi (v9 := 13) h13 ?_
      refine vv_tableIn (tgt := 616) (off := 583) C dL_law_33 (by decide +kernel) (by decide +kernel) (by decide +kernel) (by decide) ?_
      refine vv_aload_n C dL_law_616 rfl ?_
      refine vv_aload_nR C dL_law_617 rfl ?_
      refine vv_iload_n C dL_law_618 rfl ?_
      refine vv_iconst C dL_law_619 ic_1 ?_
      refine vv_iadd C dL_law_620 ?_
      refine vs_eqi (v9 := nI (i + 1)) (nI_add _ _) ?_
      refine vv_ildsX C dL_law_621 hsX (xn_in (by omega) (by omega)) ?_
      refine vv_aload_nR C dL_law_622 rfl ?_
      refine vv_iload_n C dL_law_623 rfl ?_
      refine vv_iconst C dL_law_624 ic_2 ?_
      refine vv_iadd C dL_law_625 ?_
      refine vs_eqi (v9 := nI (i + 2)) (nI_add _ _) ?_
      refine vv_ildsX C dL_law_626 hsX (xn_in (by omega) (by omega)) ?_
      refine vl_calli C dL_law_627 (pr_next g hfl hN S hR _ _) mb_X11_next mv_X11_next lk_L_69 ce_0 rfl rfl rfl rfl ⟨⟨Nat.le_of_ble_eq_true rfl, Nat.le_of_ble_eq_true rfl⟩, ⟨hk.1, hk.2⟩, Nat.le_of_ble_eq_true rfl⟩ (fun r627 S627 p627 => ?_)
      refine vv_aload_n C dL_law_630 rfl ?_
      refine vv_aload_nR C dL_law_631 rfl ?_
      refine vv_iload_n C dL_law_632 rfl ?_
      refine vv_iconst C dL_law_633 ic_1 ?_
      refine vv_iadd C dL_law_634 ?_
      refine vs_eqi (v9 := nI (i + 1)) (nI_add _ _) ?_
      refine vv_ildsX C dL_law_635 hsX (xn_in (by omega) (by omega)) ?_
      refine vv_aload_nR C dL_law_636 rfl ?_
      refine vv_iload_n C dL_law_637 rfl ?_
      refine vv_iconst C dL_law_638 ic_2 ?_
      refine vv_iadd C dL_law_639 ?_
      refine vs_eqi (v9 := nI (i + 2)) (nI_add _ _) ?_
      refine vv_ildsX C dL_law_640 hsX (xn_in (by omega) (by omega)) ?_
      refine vl_calli C dL_law_641 p627 mb_X12_next mv_X12_next lk_L_72 ce_65 rfl rfl rfl rfl ⟨⟨Nat.le_of_ble_eq_true rfl, Nat.le_of_ble_eq_true rfl⟩, ⟨hk.1, hk.2⟩, Nat.le_of_ble_eq_true rfl⟩ (fun r641 S641 p641 => ?_)
      refine vv_icmp_eq (tgt := 1524) C dL_law_644 (by decide) (fun q644 => ?_) (fun q644 => ?_)
      · skip
        refine vw_iinc (lv9 := [_, _, _, _]) C dL_law_1524 rfl ic_6 (by decide) rfl rfl ?_
        refine vv_goto (tgt := 18) C dL_law_1527 (by decide) ?_
        rw [show nI i + 6 = nI (i + 6) from nI_add i 6]
        exact ih (i + 6) S641 p641.2 (by omega) (by omega)
      · exact absurd p641.1.symm q644
    by_cases h14 : xs (nI i).toNatClampNeg &&& 63 = 14
    · refine vs_eqi (v9 := 14) h14 ?_
      refine vv_tableIn (tgt := 649) (off := 616) C dL_law_33 (by decide +kernel) (by decide +kernel) (by decide +kernel) (by decide) ?_
      refine vv_aload_n C dL_law_649 rfl ?_
      refine vv_aload_nR C dL_law_650 rfl ?_
      refine vv_iload_n C dL_law_651 rfl ?_
      refine vv_iconst C dL_law_652 ic_1 ?_
      refine vv_iadd C dL_law_653 ?_
      refine vs_eqi (v9 := nI (i + 1)) (nI_add _ _) ?_
      refine vv_ildsX C dL_law_654 hsX (xn_in (by omega) (by omega)) ?_
      refine vv_aload_nR C dL_law_655 rfl ?_
      refine vv_iload_n C dL_law_656 rfl ?_
      refine vv_iconst C dL_law_657 ic_2 ?_
      refine vv_iadd C dL_law_658 ?_
      refine vs_eqi (v9 := nI (i + 2)) (nI_add _ _) ?_
      refine vv_ildsX C dL_law_659 hsX (xn_in (by omega) (by omega)) ?_
      refine vl_calli C dL_law_660 (pr_many g hfl hN S hR _ _) mb_X11_many mv_X11_many lk_L_73 ce_0 rfl rfl rfl rfl ⟨⟨Nat.le_of_ble_eq_true rfl, Nat.le_of_ble_eq_true rfl⟩, ⟨hk.1, hk.2⟩, Nat.le_of_ble_eq_true rfl⟩ (fun r660 S660 p660 => ?_)
      refine vv_aload_n C dL_law_663 rfl ?_
      refine vv_aload_nR C dL_law_664 rfl ?_
      refine vv_iload_n C dL_law_665 rfl ?_
      refine vv_iconst C dL_law_666 ic_1 ?_
      refine vv_iadd C dL_law_667 ?_
      refine vs_eqi (v9 := nI (i + 1)) (nI_add _ _) ?_
      refine vv_ildsX C dL_law_668 hsX (xn_in (by omega) (by omega)) ?_
      refine vv_aload_nR C dL_law_669 rfl ?_
      refine vv_iload_n C dL_law_670 rfl ?_
      refine vv_iconst C dL_law_671 ic_2 ?_
      refine vv_iadd C dL_law_672 ?_
      refine vs_eqi (v9 := nI (i + 2)) (nI_add _ _) ?_
      refine vv_ildsX C dL_law_673 hsX (xn_in (by omega) (by omega)) ?_
      refine vl_calli C dL_law_674 p660 mb_X12_many mv_X12_many lk_L_76 ce_65 rfl rfl rfl rfl ⟨⟨Nat.le_of_ble_eq_true rfl, Nat.le_of_ble_eq_true rfl⟩, ⟨hk.1, hk.2⟩, Nat.le_of_ble_eq_true rfl⟩ (fun r674 S674 p674 => ?_)
      refine vv_icmp_eq (tgt := 1524) C dL_law_677 (by decide) (fun q677 => ?_) (fun q677 => ?_)
      · skip
        refine vw_iinc (lv9 := [_, _, _, _]) C dL_law_1524 rfl ic_6 (by decide) rfl rfl ?_
        refine vv_goto (tgt := 18) C dL_law_1527 (by decide) ?_
        rw [show nI i + 6 = nI (i + 6) from nI_add i 6]
        exact ih (i + 6) S674 p674.2 (by omega) (by omega)
      · exact absurd p674.1.symm q677
    by_cases h15 : xs (nI i).toNatClampNeg &&& 63 = 15
    · refine vs_eqi (v9 := 15) h15 ?_
      refine vv_tableIn (tgt := 682) (off := 649) C dL_law_33 (by decide +kernel) (by decide +kernel) (by decide +kernel) (by decide) ?_
      refine vv_aload_n C dL_law_682 rfl ?_
      refine vv_aload_nR C dL_law_683 rfl ?_
      refine vv_iload_n C dL_law_684 rfl ?_
      refine vv_iconst C dL_law_685 ic_1 ?_
      refine vv_iadd C dL_law_686 ?_
      refine vs_eqi (v9 := nI (i + 1)) (nI_add _ _) ?_
      refine vv_ildsX C dL_law_687 hsX (xn_in (by omega) (by omega)) ?_
      refine vv_aload_nR C dL_law_688 rfl ?_
      refine vv_iload_n C dL_law_689 rfl ?_
      refine vv_iconst C dL_law_690 ic_2 ?_
      refine vv_iadd C dL_law_691 ?_
      refine vs_eqi (v9 := nI (i + 2)) (nI_add _ _) ?_
      refine vv_ildsX C dL_law_692 hsX (xn_in (by omega) (by omega)) ?_
      refine vv_aload_nR C dL_law_693 rfl ?_
      refine vv_iload_n C dL_law_694 rfl ?_
      refine vv_iconst C dL_law_695 ic_3 ?_
      refine vv_iadd C dL_law_696 ?_
      refine vs_eqi (v9 := nI (i + 3)) (nI_add _ _) ?_
      refine vv_ildsX C dL_law_697 hsX (xn_in (by omega) (by omega)) ?_
      refine vl_calli C dL_law_698 (pr_gap g hfl hN S hR _ _ _) mb_X11_gap mv_X11_gap lk_L_77 ce_0 rfl rfl rfl rfl ⟨⟨Nat.le_of_ble_eq_true rfl, Nat.le_of_ble_eq_true rfl⟩, ⟨hk.1, hk.2⟩, Nat.le_of_ble_eq_true rfl⟩ (fun r698 S698 p698 => ?_)
      refine vv_aload_n C dL_law_701 rfl ?_
      refine vv_aload_nR C dL_law_702 rfl ?_
      refine vv_iload_n C dL_law_703 rfl ?_
      refine vv_iconst C dL_law_704 ic_1 ?_
      refine vv_iadd C dL_law_705 ?_
      refine vs_eqi (v9 := nI (i + 1)) (nI_add _ _) ?_
      refine vv_ildsX C dL_law_706 hsX (xn_in (by omega) (by omega)) ?_
      refine vv_aload_nR C dL_law_707 rfl ?_
      refine vv_iload_n C dL_law_708 rfl ?_
      refine vv_iconst C dL_law_709 ic_2 ?_
      refine vv_iadd C dL_law_710 ?_
      refine vs_eqi (v9 := nI (i + 2)) (nI_add _ _) ?_
      refine vv_ildsX C dL_law_711 hsX (xn_in (by omega) (by omega)) ?_
      refine vv_aload_nR C dL_law_712 rfl ?_
      refine vv_iload_n C dL_law_713 rfl ?_
      refine vv_iconst C dL_law_714 ic_3 ?_
      refine vv_iadd C dL_law_715 ?_
      refine vs_eqi (v9 := nI (i + 3)) (nI_add _ _) ?_
      refine vv_ildsX C dL_law_716 hsX (xn_in (by omega) (by omega)) ?_
      refine vl_calli C dL_law_717 p698 mb_X12_gap mv_X12_gap lk_L_80 ce_65 rfl rfl rfl rfl ⟨⟨Nat.le_of_ble_eq_true rfl, Nat.le_of_ble_eq_true rfl⟩, ⟨hk.1, hk.2⟩, Nat.le_of_ble_eq_true rfl⟩ (fun r717 S717 p717 => ?_)
      refine vv_icmp_eq (tgt := 1524) C dL_law_720 (by decide) (fun q720 => ?_) (fun q720 => ?_)
      · skip
        refine vw_iinc (lv9 := [_, _, _, _]) C dL_law_1524 rfl ic_6 (by decide) rfl rfl ?_
        refine vv_goto (tgt := 18) C dL_law_1527 (by decide) ?_
        rw [show nI i + 6 = nI (i + 6) from nI_add i 6]
        exact ih (i + 6) S717 p717.2 (by omega) (by omega)
      · exact absurd p717.1.symm q720
    by_cases h16 : xs (nI i).toNatClampNeg &&& 63 = 16
    · refine vs_eqi (v9 := 16) h16 ?_
      refine vv_tableIn (tgt := 725) (off := 692) C dL_law_33 (by decide +kernel) (by decide +kernel) (by decide +kernel) (by decide) ?_
      refine vv_aload_n C dL_law_725 rfl ?_
      refine vv_aload_nR C dL_law_726 rfl ?_
      refine vv_iload_n C dL_law_727 rfl ?_
      refine vv_iconst C dL_law_728 ic_1 ?_
      refine vv_iadd C dL_law_729 ?_
      refine vs_eqi (v9 := nI (i + 1)) (nI_add _ _) ?_
      refine vv_ildsX C dL_law_730 hsX (xn_in (by omega) (by omega)) ?_
      refine vv_aload_nR C dL_law_731 rfl ?_
      refine vv_iload_n C dL_law_732 rfl ?_
      refine vv_iconst C dL_law_733 ic_2 ?_
      refine vv_iadd C dL_law_734 ?_
      refine vs_eqi (v9 := nI (i + 2)) (nI_add _ _) ?_
      refine vv_ildsX C dL_law_735 hsX (xn_in (by omega) (by omega)) ?_
      refine vl_calli C dL_law_736 (pr_feed g hfl hN S hR _ _) mb_X11_feed mv_X11_feed lk_L_81 ce_0 rfl rfl rfl rfl ⟨⟨Nat.le_of_ble_eq_true rfl, Nat.le_of_ble_eq_true rfl⟩, ⟨hk.1, hk.2⟩, Nat.le_of_ble_eq_true rfl⟩ (fun r736 S736 p736 => ?_)
      refine vv_aload_n C dL_law_739 rfl ?_
      refine vv_aload_nR C dL_law_740 rfl ?_
      refine vv_iload_n C dL_law_741 rfl ?_
      refine vv_iconst C dL_law_742 ic_1 ?_
      refine vv_iadd C dL_law_743 ?_
      refine vs_eqi (v9 := nI (i + 1)) (nI_add _ _) ?_
      refine vv_ildsX C dL_law_744 hsX (xn_in (by omega) (by omega)) ?_
      refine vv_aload_nR C dL_law_745 rfl ?_
      refine vv_iload_n C dL_law_746 rfl ?_
      refine vv_iconst C dL_law_747 ic_2 ?_
      refine vv_iadd C dL_law_748 ?_
      refine vs_eqi (v9 := nI (i + 2)) (nI_add _ _) ?_
      refine vv_ildsX C dL_law_749 hsX (xn_in (by omega) (by omega)) ?_
      refine vl_calli C dL_law_750 p736 mb_X12_feed mv_X12_feed lk_L_84 ce_65 rfl rfl rfl rfl ⟨⟨Nat.le_of_ble_eq_true rfl, Nat.le_of_ble_eq_true rfl⟩, ⟨hk.1, hk.2⟩, Nat.le_of_ble_eq_true rfl⟩ (fun r750 S750 p750 => ?_)
      refine vv_icmp_eq (tgt := 1524) C dL_law_753 (by decide) (fun q753 => ?_) (fun q753 => ?_)
      · skip
        refine vw_iinc (lv9 := [_, _, _, _]) C dL_law_1524 rfl ic_6 (by decide) rfl rfl ?_
        refine vv_goto (tgt := 18) C dL_law_1527 (by decide) ?_
        rw [show nI i + 6 = nI (i + 6) from nI_add i 6]
        exact ih (i + 6) S750 p750.2 (by omega) (by omega)
      · exact absurd p750.1.symm q753
    by_cases h17 : xs (nI i).toNatClampNeg &&& 63 = 17
    · refine vs_eqi (v9 := 17) h17 ?_
      refine vv_tableIn (tgt := 758) (off := 725) C dL_law_33 (by decide +kernel) (by decide +kernel) (by decide +kernel) (by decide) ?_
      refine vv_aload_n C dL_law_758 rfl ?_
      refine vl_calli C dL_law_759 (pr_seller g hfl hN S hR) mb_X11_seller mv_X11_seller lk_L_85 ce_0 rfl rfl rfl rfl ⟨⟨Nat.le_of_ble_eq_true rfl, Nat.le_of_ble_eq_true rfl⟩, ⟨hk.1, hk.2⟩, Nat.le_of_ble_eq_true rfl⟩ (fun r759 S759 p759 => ?_)
      refine vv_aload_n C dL_law_762 rfl ?_
      refine vl_calli C dL_law_763 p759 mb_X12_seller mv_X12_seller lk_L_89 ce_65 rfl rfl rfl rfl ⟨⟨Nat.le_of_ble_eq_true rfl, Nat.le_of_ble_eq_true rfl⟩, ⟨hk.1, hk.2⟩, Nat.le_of_ble_eq_true rfl⟩ (fun r763 S763 p763 => ?_)
      refine vv_icmp_eq (tgt := 1524) C dL_law_766 (by decide) (fun q766 => ?_) (fun q766 => ?_)
      · skip
        refine vw_iinc (lv9 := [_, _, _, _]) C dL_law_1524 rfl ic_6 (by decide) rfl rfl ?_
        refine vv_goto (tgt := 18) C dL_law_1527 (by decide) ?_
        rw [show nI i + 6 = nI (i + 6) from nI_add i 6]
        exact ih (i + 6) S763 p763.2 (by omega) (by omega)
      · exact absurd p763.1.symm q766
    by_cases h18 : xs (nI i).toNatClampNeg &&& 63 = 18
    · refine vs_eqi (v9 := 18) h18 ?_
      refine vv_tableIn (tgt := 771) (off := 738) C dL_law_33 (by decide +kernel) (by decide +kernel) (by decide +kernel) (by decide) ?_
      refine vv_aload_n C dL_law_771 rfl ?_
      refine vv_aload_nR C dL_law_772 rfl ?_
      refine vv_iload_n C dL_law_773 rfl ?_
      refine vv_iconst C dL_law_774 ic_1 ?_
      refine vv_iadd C dL_law_775 ?_
      refine vs_eqi (v9 := nI (i + 1)) (nI_add _ _) ?_
      refine vv_ildsX C dL_law_776 hsX (xn_in (by omega) (by omega)) ?_
      refine vv_aload_nR C dL_law_777 rfl ?_
      refine vv_iload_n C dL_law_778 rfl ?_
      refine vv_iconst C dL_law_779 ic_2 ?_
      refine vv_iadd C dL_law_780 ?_
      refine vs_eqi (v9 := nI (i + 2)) (nI_add _ _) ?_
      refine vv_ildsX C dL_law_781 hsX (xn_in (by omega) (by omega)) ?_
      refine vv_aload_nR C dL_law_782 rfl ?_
      refine vv_iload_n C dL_law_783 rfl ?_
      refine vv_iconst C dL_law_784 ic_3 ?_
      refine vv_iadd C dL_law_785 ?_
      refine vs_eqi (v9 := nI (i + 3)) (nI_add _ _) ?_
      refine vv_ildsX C dL_law_786 hsX (xn_in (by omega) (by omega)) ?_
      refine vl_calli C dL_law_787 (pr_chosen g hfl hN S hR _ _ _) mb_X11_chosen mv_X11_chosen lk_L_90 ce_0 rfl rfl rfl rfl ⟨⟨Nat.le_of_ble_eq_true rfl, Nat.le_of_ble_eq_true rfl⟩, ⟨hk.1, hk.2⟩, Nat.le_of_ble_eq_true rfl⟩ (fun r787 S787 p787 => ?_)
      refine vv_aload_n C dL_law_790 rfl ?_
      refine vv_aload_nR C dL_law_791 rfl ?_
      refine vv_iload_n C dL_law_792 rfl ?_
      refine vv_iconst C dL_law_793 ic_1 ?_
      refine vv_iadd C dL_law_794 ?_
      refine vs_eqi (v9 := nI (i + 1)) (nI_add _ _) ?_
      refine vv_ildsX C dL_law_795 hsX (xn_in (by omega) (by omega)) ?_
      refine vv_aload_nR C dL_law_796 rfl ?_
      refine vv_iload_n C dL_law_797 rfl ?_
      refine vv_iconst C dL_law_798 ic_2 ?_
      refine vv_iadd C dL_law_799 ?_
      refine vs_eqi (v9 := nI (i + 2)) (nI_add _ _) ?_
      refine vv_ildsX C dL_law_800 hsX (xn_in (by omega) (by omega)) ?_
      refine vv_aload_nR C dL_law_801 rfl ?_
      refine vv_iload_n C dL_law_802 rfl ?_
      refine vv_iconst C dL_law_803 ic_3 ?_
      refine vv_iadd C dL_law_804 ?_
      refine vs_eqi (v9 := nI (i + 3)) (nI_add _ _) ?_
      refine vv_ildsX C dL_law_805 hsX (xn_in (by omega) (by omega)) ?_
      refine vl_calli C dL_law_806 p787 mb_X12_chosen mv_X12_chosen lk_L_93 ce_65 rfl rfl rfl rfl ⟨⟨Nat.le_of_ble_eq_true rfl, Nat.le_of_ble_eq_true rfl⟩, ⟨hk.1, hk.2⟩, Nat.le_of_ble_eq_true rfl⟩ (fun r806 S806 p806 => ?_)
      refine vv_icmp_eq (tgt := 1524) C dL_law_809 (by decide) (fun q809 => ?_) (fun q809 => ?_)
      · skip
        refine vw_iinc (lv9 := [_, _, _, _]) C dL_law_1524 rfl ic_6 (by decide) rfl rfl ?_
        refine vv_goto (tgt := 18) C dL_law_1527 (by decide) ?_
        rw [show nI i + 6 = nI (i + 6) from nI_add i 6]
        exact ih (i + 6) S806 p806.2 (by omega) (by omega)
      · exact absurd p806.1.symm q809
    by_cases h19 : xs (nI i).toNatClampNeg &&& 63 = 19
    · refine vs_eqi (v9 := 19) h19 ?_
      refine vv_tableIn (tgt := 814) (off := 781) C dL_law_33 (by decide +kernel) (by decide +kernel) (by decide +kernel) (by decide) ?_
      refine vv_aload_n C dL_law_814 rfl ?_
      refine vv_aload_nR C dL_law_815 rfl ?_
      refine vv_iload_n C dL_law_816 rfl ?_
      refine vv_iconst C dL_law_817 ic_1 ?_
      refine vv_iadd C dL_law_818 ?_
      refine vs_eqi (v9 := nI (i + 1)) (nI_add _ _) ?_
      refine vv_ildsX C dL_law_819 hsX (xn_in (by omega) (by omega)) ?_
      refine vv_aload_nR C dL_law_820 rfl ?_
      refine vv_iload_n C dL_law_821 rfl ?_
      refine vv_iconst C dL_law_822 ic_2 ?_
      refine vv_iadd C dL_law_823 ?_
      refine vs_eqi (v9 := nI (i + 2)) (nI_add _ _) ?_
      refine vv_ildsX C dL_law_824 hsX (xn_in (by omega) (by omega)) ?_
      refine vl_calli C dL_law_825 (pr_rent g hfl hN S hR _ _) mb_X11_rent mv_X11_rent lk_L_94 ce_0 rfl rfl rfl rfl ⟨⟨Nat.le_of_ble_eq_true rfl, Nat.le_of_ble_eq_true rfl⟩, ⟨hk.1, hk.2⟩, Nat.le_of_ble_eq_true rfl⟩ (fun r825 S825 p825 => ?_)
      refine vv_aload_n C dL_law_828 rfl ?_
      refine vv_aload_nR C dL_law_829 rfl ?_
      refine vv_iload_n C dL_law_830 rfl ?_
      refine vv_iconst C dL_law_831 ic_1 ?_
      refine vv_iadd C dL_law_832 ?_
      refine vs_eqi (v9 := nI (i + 1)) (nI_add _ _) ?_
      refine vv_ildsX C dL_law_833 hsX (xn_in (by omega) (by omega)) ?_
      refine vv_aload_nR C dL_law_834 rfl ?_
      refine vv_iload_n C dL_law_835 rfl ?_
      refine vv_iconst C dL_law_836 ic_2 ?_
      refine vv_iadd C dL_law_837 ?_
      refine vs_eqi (v9 := nI (i + 2)) (nI_add _ _) ?_
      refine vv_ildsX C dL_law_838 hsX (xn_in (by omega) (by omega)) ?_
      refine vl_calli C dL_law_839 p825 mb_X12_rent mv_X12_rent lk_L_97 ce_65 rfl rfl rfl rfl ⟨⟨Nat.le_of_ble_eq_true rfl, Nat.le_of_ble_eq_true rfl⟩, ⟨hk.1, hk.2⟩, Nat.le_of_ble_eq_true rfl⟩ (fun r839 S839 p839 => ?_)
      refine vv_icmp_eq (tgt := 1524) C dL_law_842 (by decide) (fun q842 => ?_) (fun q842 => ?_)
      · skip
        refine vw_iinc (lv9 := [_, _, _, _]) C dL_law_1524 rfl ic_6 (by decide) rfl rfl ?_
        refine vv_goto (tgt := 18) C dL_law_1527 (by decide) ?_
        rw [show nI i + 6 = nI (i + 6) from nI_add i 6]
        exact ih (i + 6) S839 p839.2 (by omega) (by omega)
      · exact absurd p839.1.symm q842
    by_cases h20 : xs (nI i).toNatClampNeg &&& 63 = 20
    · refine vs_eqi (v9 := 20) h20 ?_
      refine vv_tableIn (tgt := 847) (off := 814) C dL_law_33 (by decide +kernel) (by decide +kernel) (by decide +kernel) (by decide) ?_
      refine vv_aload_n C dL_law_847 rfl ?_
      refine vv_aload_nR C dL_law_848 rfl ?_
      refine vv_iload_n C dL_law_849 rfl ?_
      refine vv_iconst C dL_law_850 ic_1 ?_
      refine vv_iadd C dL_law_851 ?_
      refine vs_eqi (v9 := nI (i + 1)) (nI_add _ _) ?_
      refine vv_ildsX C dL_law_852 hsX (xn_in (by omega) (by omega)) ?_
      refine vl_calli C dL_law_853 (pr_tax g hfl hN S hR _) mb_X11_tax mv_X11_tax lk_L_98 ce_0 rfl rfl rfl rfl ⟨⟨Nat.le_of_ble_eq_true rfl, Nat.le_of_ble_eq_true rfl⟩, ⟨hk.1, hk.2⟩, Nat.le_of_ble_eq_true rfl⟩ (fun r853 S853 p853 => ?_)
      refine vv_aload_n C dL_law_856 rfl ?_
      refine vv_aload_nR C dL_law_857 rfl ?_
      refine vv_iload_n C dL_law_858 rfl ?_
      refine vv_iconst C dL_law_859 ic_1 ?_
      refine vv_iadd C dL_law_860 ?_
      refine vs_eqi (v9 := nI (i + 1)) (nI_add _ _) ?_
      refine vv_ildsX C dL_law_861 hsX (xn_in (by omega) (by omega)) ?_
      refine vl_calli C dL_law_862 p853 mb_X12_tax mv_X12_tax lk_L_101 ce_65 rfl rfl rfl rfl ⟨⟨Nat.le_of_ble_eq_true rfl, Nat.le_of_ble_eq_true rfl⟩, ⟨hk.1, hk.2⟩, Nat.le_of_ble_eq_true rfl⟩ (fun r862 S862 p862 => ?_)
      refine vv_icmp_eq (tgt := 1524) C dL_law_865 (by decide) (fun q865 => ?_) (fun q865 => ?_)
      · skip
        refine vw_iinc (lv9 := [_, _, _, _]) C dL_law_1524 rfl ic_6 (by decide) rfl rfl ?_
        refine vv_goto (tgt := 18) C dL_law_1527 (by decide) ?_
        rw [show nI i + 6 = nI (i + 6) from nI_add i 6]
        exact ih (i + 6) S862 p862.2 (by omega) (by omega)
      · exact absurd p862.1.symm q865
    by_cases h21 : xs (nI i).toNatClampNeg &&& 63 = 21
    · refine vs_eqi (v9 := 21) h21 ?_
      refine vv_tableIn (tgt := 870) (off := 837) C dL_law_33 (by decide +kernel) (by decide +kernel) (by decide +kernel) (by decide) ?_
      refine vv_aload_n C dL_law_870 rfl ?_
      refine vv_aload_nR C dL_law_871 rfl ?_
      refine vv_iload_n C dL_law_872 rfl ?_
      refine vv_iconst C dL_law_873 ic_1 ?_
      refine vv_iadd C dL_law_874 ?_
      refine vs_eqi (v9 := nI (i + 1)) (nI_add _ _) ?_
      refine vv_ildsX C dL_law_875 hsX (xn_in (by omega) (by omega)) ?_
      refine vv_aload_nR C dL_law_876 rfl ?_
      refine vv_iload_n C dL_law_877 rfl ?_
      refine vv_iconst C dL_law_878 ic_2 ?_
      refine vv_iadd C dL_law_879 ?_
      refine vs_eqi (v9 := nI (i + 2)) (nI_add _ _) ?_
      refine vv_ildsX C dL_law_880 hsX (xn_in (by omega) (by omega)) ?_
      refine vl_calli C dL_law_881 (pr_rounded g hfl hN S hR _ _) mb_X11_rounded mv_X11_rounded lk_L_102 ce_0 rfl rfl rfl rfl ⟨⟨Nat.le_of_ble_eq_true rfl, Nat.le_of_ble_eq_true rfl⟩, ⟨hk.1, hk.2⟩, Nat.le_of_ble_eq_true rfl⟩ (fun r881 S881 p881 => ?_)
      refine vv_aload_n C dL_law_884 rfl ?_
      refine vv_aload_nR C dL_law_885 rfl ?_
      refine vv_iload_n C dL_law_886 rfl ?_
      refine vv_iconst C dL_law_887 ic_1 ?_
      refine vv_iadd C dL_law_888 ?_
      refine vs_eqi (v9 := nI (i + 1)) (nI_add _ _) ?_
      refine vv_ildsX C dL_law_889 hsX (xn_in (by omega) (by omega)) ?_
      refine vv_aload_nR C dL_law_890 rfl ?_
      refine vv_iload_n C dL_law_891 rfl ?_
      refine vv_iconst C dL_law_892 ic_2 ?_
      refine vv_iadd C dL_law_893 ?_
      refine vs_eqi (v9 := nI (i + 2)) (nI_add _ _) ?_
      refine vv_ildsX C dL_law_894 hsX (xn_in (by omega) (by omega)) ?_
      refine vl_calli C dL_law_895 p881 mb_X12_rounded mv_X12_rounded lk_L_105 ce_65 rfl rfl rfl rfl ⟨⟨Nat.le_of_ble_eq_true rfl, Nat.le_of_ble_eq_true rfl⟩, ⟨hk.1, hk.2⟩, Nat.le_of_ble_eq_true rfl⟩ (fun r895 S895 p895 => ?_)
      refine vv_icmp_eq (tgt := 1524) C dL_law_898 (by decide) (fun q898 => ?_) (fun q898 => ?_)
      · skip
        refine vw_iinc (lv9 := [_, _, _, _]) C dL_law_1524 rfl ic_6 (by decide) rfl rfl ?_
        refine vv_goto (tgt := 18) C dL_law_1527 (by decide) ?_
        rw [show nI i + 6 = nI (i + 6) from nI_add i 6]
        exact ih (i + 6) S895 p895.2 (by omega) (by omega)
      · exact absurd p895.1.symm q898
    by_cases h22 : xs (nI i).toNatClampNeg &&& 63 = 22
    · refine vs_eqi (v9 := 22) h22 ?_
      refine vv_tableIn (tgt := 903) (off := 870) C dL_law_33 (by decide +kernel) (by decide +kernel) (by decide +kernel) (by decide) ?_
      refine vv_aload_n C dL_law_903 rfl ?_
      refine vv_aload_nR C dL_law_904 rfl ?_
      refine vv_iload_n C dL_law_905 rfl ?_
      refine vv_iconst C dL_law_906 ic_1 ?_
      refine vv_iadd C dL_law_907 ?_
      refine vs_eqi (v9 := nI (i + 1)) (nI_add _ _) ?_
      refine vv_ildsX C dL_law_908 hsX (xn_in (by omega) (by omega)) ?_
      refine vv_aload_nR C dL_law_909 rfl ?_
      refine vv_iload_n C dL_law_910 rfl ?_
      refine vv_iconst C dL_law_911 ic_2 ?_
      refine vv_iadd C dL_law_912 ?_
      refine vs_eqi (v9 := nI (i + 2)) (nI_add _ _) ?_
      refine vv_ildsX C dL_law_913 hsX (xn_in (by omega) (by omega)) ?_
      refine vv_aload_nR C dL_law_914 rfl ?_
      refine vv_iload_n C dL_law_915 rfl ?_
      refine vv_iconst C dL_law_916 ic_3 ?_
      refine vv_iadd C dL_law_917 ?_
      refine vs_eqi (v9 := nI (i + 3)) (nI_add _ _) ?_
      refine vv_ildsX C dL_law_918 hsX (xn_in (by omega) (by omega)) ?_
      refine vl_calli C dL_law_919 (pr_shares g hfl hN S hR _ _ _) mb_X11_shares mv_X11_shares lk_L_106 ce_0 rfl rfl rfl rfl ⟨⟨Nat.le_of_ble_eq_true rfl, Nat.le_of_ble_eq_true rfl⟩, ⟨hk.1, hk.2⟩, Nat.le_of_ble_eq_true rfl⟩ (fun r919 S919 p919 => ?_)
      refine vv_aload_n C dL_law_922 rfl ?_
      refine vv_aload_nR C dL_law_923 rfl ?_
      refine vv_iload_n C dL_law_924 rfl ?_
      refine vv_iconst C dL_law_925 ic_1 ?_
      refine vv_iadd C dL_law_926 ?_
      refine vs_eqi (v9 := nI (i + 1)) (nI_add _ _) ?_
      refine vv_ildsX C dL_law_927 hsX (xn_in (by omega) (by omega)) ?_
      refine vv_aload_nR C dL_law_928 rfl ?_
      refine vv_iload_n C dL_law_929 rfl ?_
      refine vv_iconst C dL_law_930 ic_2 ?_
      refine vv_iadd C dL_law_931 ?_
      refine vs_eqi (v9 := nI (i + 2)) (nI_add _ _) ?_
      refine vv_ildsX C dL_law_932 hsX (xn_in (by omega) (by omega)) ?_
      refine vv_aload_nR C dL_law_933 rfl ?_
      refine vv_iload_n C dL_law_934 rfl ?_
      refine vv_iconst C dL_law_935 ic_3 ?_
      refine vv_iadd C dL_law_936 ?_
      refine vs_eqi (v9 := nI (i + 3)) (nI_add _ _) ?_
      refine vv_ildsX C dL_law_937 hsX (xn_in (by omega) (by omega)) ?_
      refine vl_calli C dL_law_938 p919 mb_X12_shares mv_X12_shares lk_L_109 ce_65 rfl rfl rfl rfl ⟨⟨Nat.le_of_ble_eq_true rfl, Nat.le_of_ble_eq_true rfl⟩, ⟨hk.1, hk.2⟩, Nat.le_of_ble_eq_true rfl⟩ (fun r938 S938 p938 => ?_)
      refine vv_icmp_eq (tgt := 1524) C dL_law_941 (by decide) (fun q941 => ?_) (fun q941 => ?_)
      · skip
        refine vw_iinc (lv9 := [_, _, _, _]) C dL_law_1524 rfl ic_6 (by decide) rfl rfl ?_
        refine vv_goto (tgt := 18) C dL_law_1527 (by decide) ?_
        rw [show nI i + 6 = nI (i + 6) from nI_add i 6]
        exact ih (i + 6) S938 p938.2 (by omega) (by omega)
      · exact absurd p938.1.symm q941
    by_cases h23 : xs (nI i).toNatClampNeg &&& 63 = 23
    · refine vs_eqi (v9 := 23) h23 ?_
      refine vv_tableIn (tgt := 946) (off := 913) C dL_law_33 (by decide +kernel) (by decide +kernel) (by decide +kernel) (by decide) ?_
      refine vv_aload_n C dL_law_946 rfl ?_
      refine vv_aload_nR C dL_law_947 rfl ?_
      refine vv_iload_n C dL_law_948 rfl ?_
      refine vv_iconst C dL_law_949 ic_1 ?_
      refine vv_iadd C dL_law_950 ?_
      refine vs_eqi (v9 := nI (i + 1)) (nI_add _ _) ?_
      refine vv_ildsX C dL_law_951 hsX (xn_in (by omega) (by omega)) ?_
      refine vv_aload_nR C dL_law_952 rfl ?_
      refine vv_iload_n C dL_law_953 rfl ?_
      refine vv_iconst C dL_law_954 ic_2 ?_
      refine vv_iadd C dL_law_955 ?_
      refine vs_eqi (v9 := nI (i + 2)) (nI_add _ _) ?_
      refine vv_ildsX C dL_law_956 hsX (xn_in (by omega) (by omega)) ?_
      refine vl_calli C dL_law_957 (pr_debt g hfl hN S hR _ _) mb_X11_debt mv_X11_debt lk_L_110 ce_0 rfl rfl rfl rfl ⟨⟨Nat.le_of_ble_eq_true rfl, Nat.le_of_ble_eq_true rfl⟩, ⟨hk.1, hk.2⟩, Nat.le_of_ble_eq_true rfl⟩ (fun r957 S957 p957 => ?_)
      refine vv_aload_n C dL_law_960 rfl ?_
      refine vv_aload_nR C dL_law_961 rfl ?_
      refine vv_iload_n C dL_law_962 rfl ?_
      refine vv_iconst C dL_law_963 ic_1 ?_
      refine vv_iadd C dL_law_964 ?_
      refine vs_eqi (v9 := nI (i + 1)) (nI_add _ _) ?_
      refine vv_ildsX C dL_law_965 hsX (xn_in (by omega) (by omega)) ?_
      refine vv_aload_nR C dL_law_966 rfl ?_
      refine vv_iload_n C dL_law_967 rfl ?_
      refine vv_iconst C dL_law_968 ic_2 ?_
      refine vv_iadd C dL_law_969 ?_
      refine vs_eqi (v9 := nI (i + 2)) (nI_add _ _) ?_
      refine vv_ildsX C dL_law_970 hsX (xn_in (by omega) (by omega)) ?_
      refine vl_calli C dL_law_971 p957 mb_X12_debt mv_X12_debt lk_L_113 ce_65 rfl rfl rfl rfl ⟨⟨Nat.le_of_ble_eq_true rfl, Nat.le_of_ble_eq_true rfl⟩, ⟨hk.1, hk.2⟩, Nat.le_of_ble_eq_true rfl⟩ (fun r971 S971 p971 => ?_)
      refine vv_icmp_eq (tgt := 1524) C dL_law_974 (by decide) (fun q974 => ?_) (fun q974 => ?_)
      · skip
        refine vw_iinc (lv9 := [_, _, _, _]) C dL_law_1524 rfl ic_6 (by decide) rfl rfl ?_
        refine vv_goto (tgt := 18) C dL_law_1527 (by decide) ?_
        rw [show nI i + 6 = nI (i + 6) from nI_add i 6]
        exact ih (i + 6) S971 p971.2 (by omega) (by omega)
      · exact absurd p971.1.symm q974
    by_cases h24 : xs (nI i).toNatClampNeg &&& 63 = 24
    · refine vs_eqi (v9 := 24) h24 ?_
      refine vv_tableIn (tgt := 979) (off := 946) C dL_law_33 (by decide +kernel) (by decide +kernel) (by decide +kernel) (by decide) ?_
      refine vv_aload_n C dL_law_979 rfl ?_
      refine vv_aload_nR C dL_law_980 rfl ?_
      refine vv_iload_n C dL_law_981 rfl ?_
      refine vv_iconst C dL_law_982 ic_1 ?_
      refine vv_iadd C dL_law_983 ?_
      refine vs_eqi (v9 := nI (i + 1)) (nI_add _ _) ?_
      refine vv_ildsX C dL_law_984 hsX (xn_in (by omega) (by omega)) ?_
      refine vl_calli C dL_law_985 (pr_owes g hfl hN S hR _) mb_X11_owes mv_X11_owes lk_L_114 ce_0 rfl rfl rfl rfl ⟨⟨Nat.le_of_ble_eq_true rfl, Nat.le_of_ble_eq_true rfl⟩, ⟨hk.1, hk.2⟩, Nat.le_of_ble_eq_true rfl⟩ (fun r985 S985 p985 => ?_)
      refine vv_aload_n C dL_law_988 rfl ?_
      refine vv_aload_nR C dL_law_989 rfl ?_
      refine vv_iload_n C dL_law_990 rfl ?_
      refine vv_iconst C dL_law_991 ic_1 ?_
      refine vv_iadd C dL_law_992 ?_
      refine vs_eqi (v9 := nI (i + 1)) (nI_add _ _) ?_
      refine vv_ildsX C dL_law_993 hsX (xn_in (by omega) (by omega)) ?_
      refine vl_calli C dL_law_994 p985 mb_X12_owes mv_X12_owes lk_L_117 ce_65 rfl rfl rfl rfl ⟨⟨Nat.le_of_ble_eq_true rfl, Nat.le_of_ble_eq_true rfl⟩, ⟨hk.1, hk.2⟩, Nat.le_of_ble_eq_true rfl⟩ (fun r994 S994 p994 => ?_)
      refine vv_icmp_eq (tgt := 1524) C dL_law_997 (by decide) (fun q997 => ?_) (fun q997 => ?_)
      · skip
        refine vw_iinc (lv9 := [_, _, _, _]) C dL_law_1524 rfl ic_6 (by decide) rfl rfl ?_
        refine vv_goto (tgt := 18) C dL_law_1527 (by decide) ?_
        rw [show nI i + 6 = nI (i + 6) from nI_add i 6]
        exact ih (i + 6) S994 p994.2 (by omega) (by omega)
      · exact absurd p994.1.symm q997
    by_cases h25 : xs (nI i).toNatClampNeg &&& 63 = 25
    · refine vs_eqi (v9 := 25) h25 ?_
      refine vv_tableIn (tgt := 1002) (off := 969) C dL_law_33 (by decide +kernel) (by decide +kernel) (by decide +kernel) (by decide) ?_
      refine vv_aload_n C dL_law_1002 rfl ?_
      refine vl_calli C dL_law_1003 (pr_judge g hfl hN S hR) mb_X11_judge mv_X11_judge lk_L_118 ce_0 rfl rfl rfl rfl ⟨⟨Nat.le_of_ble_eq_true rfl, Nat.le_of_ble_eq_true rfl⟩, ⟨hk.1, hk.2⟩, Nat.le_of_ble_eq_true rfl⟩ (fun r1003 S1003 p1003 => ?_)
      refine vv_aload_n C dL_law_1006 rfl ?_
      refine vl_calli C dL_law_1007 p1003 mb_X12_judge mv_X12_judge lk_L_121 ce_65 rfl rfl rfl rfl ⟨⟨Nat.le_of_ble_eq_true rfl, Nat.le_of_ble_eq_true rfl⟩, ⟨hk.1, hk.2⟩, Nat.le_of_ble_eq_true rfl⟩ (fun r1007 S1007 p1007 => ?_)
      refine vv_icmp_eq (tgt := 1524) C dL_law_1010 (by decide) (fun q1010 => ?_) (fun q1010 => ?_)
      · skip
        refine vw_iinc (lv9 := [_, _, _, _]) C dL_law_1524 rfl ic_6 (by decide) rfl rfl ?_
        refine vv_goto (tgt := 18) C dL_law_1527 (by decide) ?_
        rw [show nI i + 6 = nI (i + 6) from nI_add i 6]
        exact ih (i + 6) S1007 p1007.2 (by omega) (by omega)
      · exact absurd p1007.1.symm q1010
    by_cases h26 : xs (nI i).toNatClampNeg &&& 63 = 26
    · refine vs_eqi (v9 := 26) h26 ?_
      refine vv_tableIn (tgt := 1015) (off := 982) C dL_law_33 (by decide +kernel) (by decide +kernel) (by decide +kernel) (by decide) ?_
      refine vv_aload_n C dL_law_1015 rfl ?_
      refine vl_calli C dL_law_1016 (pr_round g hfl hN S hR) mb_X11_round mv_X11_round lk_L_122 ce_0 rfl rfl rfl rfl ⟨⟨Nat.le_of_ble_eq_true rfl, Nat.le_of_ble_eq_true rfl⟩, ⟨hk.1, hk.2⟩, Nat.le_of_ble_eq_true rfl⟩ (fun r1016 S1016 p1016 => ?_)
      refine vv_aload_n C dL_law_1019 rfl ?_
      refine vl_calli C dL_law_1020 p1016 mb_X12_round mv_X12_round lk_L_125 ce_65 rfl rfl rfl rfl ⟨⟨Nat.le_of_ble_eq_true rfl, Nat.le_of_ble_eq_true rfl⟩, ⟨hk.1, hk.2⟩, Nat.le_of_ble_eq_true rfl⟩ (fun r1020 S1020 p1020 => ?_)
      refine vv_icmp_eq (tgt := 1524) C dL_law_1023 (by decide) (fun q1023 => ?_) (fun q1023 => ?_)
      · skip
        refine vw_iinc (lv9 := [_, _, _, _]) C dL_law_1524 rfl ic_6 (by decide) rfl rfl ?_
        refine vv_goto (tgt := 18) C dL_law_1527 (by decide) ?_
        rw [show nI i + 6 = nI (i + 6) from nI_add i 6]
        exact ih (i + 6) S1020 p1020.2 (by omega) (by omega)
      · exact absurd p1020.1.symm q1023
    by_cases h27 : xs (nI i).toNatClampNeg &&& 63 = 27
    · refine vs_eqi (v9 := 27) h27 ?_
      refine vv_tableIn (tgt := 1028) (off := 995) C dL_law_33 (by decide +kernel) (by decide +kernel) (by decide +kernel) (by decide) ?_
      refine vv_aload_n C dL_law_1028 rfl ?_
      refine vl_calli C dL_law_1029 (pr_struck g hfl hN S hR) mb_X11_struck mv_X11_struck lk_L_126 ce_0 rfl rfl rfl rfl ⟨⟨Nat.le_of_ble_eq_true rfl, Nat.le_of_ble_eq_true rfl⟩, ⟨hk.1, hk.2⟩, Nat.le_of_ble_eq_true rfl⟩ (fun r1029 S1029 p1029 => ?_)
      refine vv_aload_n C dL_law_1032 rfl ?_
      refine vl_calli C dL_law_1033 p1029 mb_X12_struck mv_X12_struck lk_L_129 ce_65 rfl rfl rfl rfl ⟨⟨Nat.le_of_ble_eq_true rfl, Nat.le_of_ble_eq_true rfl⟩, ⟨hk.1, hk.2⟩, Nat.le_of_ble_eq_true rfl⟩ (fun r1033 S1033 p1033 => ?_)
      refine vv_icmp_eq (tgt := 1524) C dL_law_1036 (by decide) (fun q1036 => ?_) (fun q1036 => ?_)
      · skip
        refine vw_iinc (lv9 := [_, _, _, _]) C dL_law_1524 rfl ic_6 (by decide) rfl rfl ?_
        refine vv_goto (tgt := 18) C dL_law_1527 (by decide) ?_
        rw [show nI i + 6 = nI (i + 6) from nI_add i 6]
        exact ih (i + 6) S1033 p1033.2 (by omega) (by omega)
      · exact absurd p1033.1.symm q1036
    by_cases h28 : xs (nI i).toNatClampNeg &&& 63 = 28
    · refine vs_eqi (v9 := 28) h28 ?_
      refine vv_tableIn (tgt := 1041) (off := 1008) C dL_law_33 (by decide +kernel) (by decide +kernel) (by decide +kernel) (by decide) ?_
      refine vv_aload_n C dL_law_1041 rfl ?_
      refine vv_aload_nR C dL_law_1042 rfl ?_
      refine vv_iload_n C dL_law_1043 rfl ?_
      refine vv_iconst C dL_law_1044 ic_1 ?_
      refine vv_iadd C dL_law_1045 ?_
      refine vs_eqi (v9 := nI (i + 1)) (nI_add _ _) ?_
      refine vv_ildsX C dL_law_1046 hsX (xn_in (by omega) (by omega)) ?_
      refine vl_calli C dL_law_1047 (pr_settle g hfl hN S hR _) mb_X11_settle mv_X11_settle lk_L_130 ce_0 rfl rfl rfl rfl ⟨⟨Nat.le_of_ble_eq_true rfl, Nat.le_of_ble_eq_true rfl⟩, ⟨hk.1, hk.2⟩, Nat.le_of_ble_eq_true rfl⟩ (fun r1047 S1047 p1047 => ?_)
      refine vv_aload_n C dL_law_1050 rfl ?_
      refine vv_aload_nR C dL_law_1051 rfl ?_
      refine vv_iload_n C dL_law_1052 rfl ?_
      refine vv_iconst C dL_law_1053 ic_1 ?_
      refine vv_iadd C dL_law_1054 ?_
      refine vs_eqi (v9 := nI (i + 1)) (nI_add _ _) ?_
      refine vv_ildsX C dL_law_1055 hsX (xn_in (by omega) (by omega)) ?_
      refine vl_calli C dL_law_1056 p1047 mb_X12_settle mv_X12_settle lk_L_133 ce_65 rfl rfl rfl rfl ⟨⟨Nat.le_of_ble_eq_true rfl, Nat.le_of_ble_eq_true rfl⟩, ⟨hk.1, hk.2⟩, Nat.le_of_ble_eq_true rfl⟩ (fun r1056 S1056 p1056 => ?_)
      refine vv_icmp_eq (tgt := 1524) C dL_law_1059 (by decide) (fun q1059 => ?_) (fun q1059 => ?_)
      · skip
        refine vw_iinc (lv9 := [_, _, _, _]) C dL_law_1524 rfl ic_6 (by decide) rfl rfl ?_
        refine vv_goto (tgt := 18) C dL_law_1527 (by decide) ?_
        rw [show nI i + 6 = nI (i + 6) from nI_add i 6]
        exact ih (i + 6) S1056 p1056.2 (by omega) (by omega)
      · exact absurd p1056.1.symm q1059
    by_cases h29 : xs (nI i).toNatClampNeg &&& 63 = 29
    · refine vs_eqi (v9 := 29) h29 ?_
      refine vv_tableIn (tgt := 1064) (off := 1031) C dL_law_33 (by decide +kernel) (by decide +kernel) (by decide +kernel) (by decide) ?_
      refine vv_aload_n C dL_law_1064 rfl ?_
      refine vv_aload_nR C dL_law_1065 rfl ?_
      refine vv_iload_n C dL_law_1066 rfl ?_
      refine vv_iconst C dL_law_1067 ic_1 ?_
      refine vv_iadd C dL_law_1068 ?_
      refine vs_eqi (v9 := nI (i + 1)) (nI_add _ _) ?_
      refine vv_ildsX C dL_law_1069 hsX (xn_in (by omega) (by omega)) ?_
      refine vv_aload_nR C dL_law_1070 rfl ?_
      refine vv_iload_n C dL_law_1071 rfl ?_
      refine vv_iconst C dL_law_1072 ic_2 ?_
      refine vv_iadd C dL_law_1073 ?_
      refine vs_eqi (v9 := nI (i + 2)) (nI_add _ _) ?_
      refine vv_ildsX C dL_law_1074 hsX (xn_in (by omega) (by omega)) ?_
      refine vv_aload_nR C dL_law_1075 rfl ?_
      refine vv_iload_n C dL_law_1076 rfl ?_
      refine vv_iconst C dL_law_1077 ic_3 ?_
      refine vv_iadd C dL_law_1078 ?_
      refine vs_eqi (v9 := nI (i + 3)) (nI_add _ _) ?_
      refine vv_ildsX C dL_law_1079 hsX (xn_in (by omega) (by omega)) ?_
      refine vl_calli C dL_law_1080 (pr_looked g hfl hN S hR _ _ _) mb_X11_looked mv_X11_looked lk_L_134 ce_0 rfl rfl rfl rfl ⟨⟨Nat.le_of_ble_eq_true rfl, Nat.le_of_ble_eq_true rfl⟩, ⟨hk.1, hk.2⟩, Nat.le_of_ble_eq_true rfl⟩ (fun r1080 S1080 p1080 => ?_)
      refine vv_aload_n C dL_law_1083 rfl ?_
      refine vv_aload_nR C dL_law_1084 rfl ?_
      refine vv_iload_n C dL_law_1085 rfl ?_
      refine vv_iconst C dL_law_1086 ic_1 ?_
      refine vv_iadd C dL_law_1087 ?_
      refine vs_eqi (v9 := nI (i + 1)) (nI_add _ _) ?_
      refine vv_ildsX C dL_law_1088 hsX (xn_in (by omega) (by omega)) ?_
      refine vv_aload_nR C dL_law_1089 rfl ?_
      refine vv_iload_n C dL_law_1090 rfl ?_
      refine vv_iconst C dL_law_1091 ic_2 ?_
      refine vv_iadd C dL_law_1092 ?_
      refine vs_eqi (v9 := nI (i + 2)) (nI_add _ _) ?_
      refine vv_ildsX C dL_law_1093 hsX (xn_in (by omega) (by omega)) ?_
      refine vv_aload_nR C dL_law_1094 rfl ?_
      refine vv_iload_n C dL_law_1095 rfl ?_
      refine vv_iconst C dL_law_1096 ic_3 ?_
      refine vv_iadd C dL_law_1097 ?_
      refine vs_eqi (v9 := nI (i + 3)) (nI_add _ _) ?_
      refine vv_ildsX C dL_law_1098 hsX (xn_in (by omega) (by omega)) ?_
      refine vl_calli C dL_law_1099 p1080 mb_X12_looked mv_X12_looked lk_L_137 ce_65 rfl rfl rfl rfl ⟨⟨Nat.le_of_ble_eq_true rfl, Nat.le_of_ble_eq_true rfl⟩, ⟨hk.1, hk.2⟩, Nat.le_of_ble_eq_true rfl⟩ (fun r1099 S1099 p1099 => ?_)
      refine vv_icmp_eq (tgt := 1524) C dL_law_1102 (by decide) (fun q1102 => ?_) (fun q1102 => ?_)
      · skip
        refine vw_iinc (lv9 := [_, _, _, _]) C dL_law_1524 rfl ic_6 (by decide) rfl rfl ?_
        refine vv_goto (tgt := 18) C dL_law_1527 (by decide) ?_
        rw [show nI i + 6 = nI (i + 6) from nI_add i 6]
        exact ih (i + 6) S1099 p1099.2 (by omega) (by omega)
      · exact absurd p1099.1.symm q1102
    by_cases h30 : xs (nI i).toNatClampNeg &&& 63 = 30
    · refine vs_eqi (v9 := 30) h30 ?_
      refine vv_tableIn (tgt := 1107) (off := 1074) C dL_law_33 (by decide +kernel) (by decide +kernel) (by decide +kernel) (by decide) ?_
      refine vv_aload_n C dL_law_1107 rfl ?_
      refine vl_calli C dL_law_1108 (pr_undo g hfl hN S hR) mb_X11_undo mv_X11_undo lk_L_138 ce_0 rfl rfl rfl rfl ⟨⟨Nat.le_of_ble_eq_true rfl, Nat.le_of_ble_eq_true rfl⟩, ⟨hk.1, hk.2⟩, Nat.le_of_ble_eq_true rfl⟩ (fun r1108 S1108 p1108 => ?_)
      refine vv_aload_n C dL_law_1111 rfl ?_
      refine vl_calli C dL_law_1112 p1108 mb_X12_undo mv_X12_undo lk_L_141 ce_65 rfl rfl rfl rfl ⟨⟨Nat.le_of_ble_eq_true rfl, Nat.le_of_ble_eq_true rfl⟩, ⟨hk.1, hk.2⟩, Nat.le_of_ble_eq_true rfl⟩ (fun r1112 S1112 p1112 => ?_)
      refine vv_icmp_eq (tgt := 1524) C dL_law_1115 (by decide) (fun q1115 => ?_) (fun q1115 => ?_)
      · skip
        refine vw_iinc (lv9 := [_, _, _, _]) C dL_law_1524 rfl ic_6 (by decide) rfl rfl ?_
        refine vv_goto (tgt := 18) C dL_law_1527 (by decide) ?_
        rw [show nI i + 6 = nI (i + 6) from nI_add i 6]
        exact ih (i + 6) S1112 p1112.2 (by omega) (by omega)
      · exact absurd p1112.1.symm q1115
    by_cases h31 : xs (nI i).toNatClampNeg &&& 63 = 31
    · refine vs_eqi (v9 := 31) h31 ?_
      refine vv_tableIn (tgt := 1120) (off := 1087) C dL_law_33 (by decide +kernel) (by decide +kernel) (by decide +kernel) (by decide) ?_
      refine vv_aload_n C dL_law_1120 rfl ?_
      refine vl_calli C dL_law_1121 (pr_redo g hfl hN S hR) mb_X11_redo mv_X11_redo lk_L_142 ce_0 rfl rfl rfl rfl ⟨⟨Nat.le_of_ble_eq_true rfl, Nat.le_of_ble_eq_true rfl⟩, ⟨hk.1, hk.2⟩, Nat.le_of_ble_eq_true rfl⟩ (fun r1121 S1121 p1121 => ?_)
      refine vv_aload_n C dL_law_1124 rfl ?_
      refine vl_calli C dL_law_1125 p1121 mb_X12_redo mv_X12_redo lk_L_145 ce_65 rfl rfl rfl rfl ⟨⟨Nat.le_of_ble_eq_true rfl, Nat.le_of_ble_eq_true rfl⟩, ⟨hk.1, hk.2⟩, Nat.le_of_ble_eq_true rfl⟩ (fun r1125 S1125 p1125 => ?_)
      refine vv_icmp_eq (tgt := 1524) C dL_law_1128 (by decide) (fun q1128 => ?_) (fun q1128 => ?_)
      · skip
        refine vw_iinc (lv9 := [_, _, _, _]) C dL_law_1524 rfl ic_6 (by decide) rfl rfl ?_
        refine vv_goto (tgt := 18) C dL_law_1527 (by decide) ?_
        rw [show nI i + 6 = nI (i + 6) from nI_add i 6]
        exact ih (i + 6) S1125 p1125.2 (by omega) (by omega)
      · exact absurd p1125.1.symm q1128
    by_cases h32 : xs (nI i).toNatClampNeg &&& 63 = 32
    · refine vs_eqi (v9 := 32) h32 ?_
      refine vv_tableIn (tgt := 1133) (off := 1100) C dL_law_33 (by decide +kernel) (by decide +kernel) (by decide +kernel) (by decide) ?_
      refine vv_aload_n C dL_law_1133 rfl ?_
      refine vv_aload_nR C dL_law_1134 rfl ?_
      refine vv_iload_n C dL_law_1135 rfl ?_
      refine vv_iconst C dL_law_1136 ic_1 ?_
      refine vv_iadd C dL_law_1137 ?_
      refine vs_eqi (v9 := nI (i + 1)) (nI_add _ _) ?_
      refine vv_ildsX C dL_law_1138 hsX (xn_in (by omega) (by omega)) ?_
      refine vl_calli C dL_law_1139 (pr_body g hfl hN S hR _) mb_X11_body mv_X11_body lk_L_146 ce_0 rfl rfl rfl rfl ⟨⟨Nat.le_of_ble_eq_true rfl, Nat.le_of_ble_eq_true rfl⟩, ⟨hk.1, hk.2⟩, Nat.le_of_ble_eq_true rfl⟩ (fun r1139 S1139 p1139 => ?_)
      refine vv_aload_n C dL_law_1142 rfl ?_
      refine vv_aload_nR C dL_law_1143 rfl ?_
      refine vv_iload_n C dL_law_1144 rfl ?_
      refine vv_iconst C dL_law_1145 ic_1 ?_
      refine vv_iadd C dL_law_1146 ?_
      refine vs_eqi (v9 := nI (i + 1)) (nI_add _ _) ?_
      refine vv_ildsX C dL_law_1147 hsX (xn_in (by omega) (by omega)) ?_
      refine vl_calli C dL_law_1148 p1139 mb_X12_body mv_X12_body lk_L_149 ce_65 rfl rfl rfl rfl ⟨⟨Nat.le_of_ble_eq_true rfl, Nat.le_of_ble_eq_true rfl⟩, ⟨hk.1, hk.2⟩, Nat.le_of_ble_eq_true rfl⟩ (fun r1148 S1148 p1148 => ?_)
      refine vv_icmp_eq (tgt := 1524) C dL_law_1151 (by decide) (fun q1151 => ?_) (fun q1151 => ?_)
      · skip
        refine vw_iinc (lv9 := [_, _, _, _]) C dL_law_1524 rfl ic_6 (by decide) rfl rfl ?_
        refine vv_goto (tgt := 18) C dL_law_1527 (by decide) ?_
        rw [show nI i + 6 = nI (i + 6) from nI_add i 6]
        exact ih (i + 6) S1148 p1148.2 (by omega) (by omega)
      · exact absurd p1148.1.symm q1151
    by_cases h33 : xs (nI i).toNatClampNeg &&& 63 = 33
    · refine vs_eqi (v9 := 33) h33 ?_
      refine vv_tableIn (tgt := 1156) (off := 1123) C dL_law_33 (by decide +kernel) (by decide +kernel) (by decide +kernel) (by decide) ?_
      refine vv_aload_n C dL_law_1156 rfl ?_
      refine vv_aload_nR C dL_law_1157 rfl ?_
      refine vv_iload_n C dL_law_1158 rfl ?_
      refine vv_iconst C dL_law_1159 ic_1 ?_
      refine vv_iadd C dL_law_1160 ?_
      refine vs_eqi (v9 := nI (i + 1)) (nI_add _ _) ?_
      refine vv_ildsX C dL_law_1161 hsX (xn_in (by omega) (by omega)) ?_
      refine vv_aload_nR C dL_law_1162 rfl ?_
      refine vv_iload_n C dL_law_1163 rfl ?_
      refine vv_iconst C dL_law_1164 ic_2 ?_
      refine vv_iadd C dL_law_1165 ?_
      refine vs_eqi (v9 := nI (i + 2)) (nI_add _ _) ?_
      refine vv_ildsX C dL_law_1166 hsX (xn_in (by omega) (by omega)) ?_
      refine vv_aload_nR C dL_law_1167 rfl ?_
      refine vv_iload_n C dL_law_1168 rfl ?_
      refine vv_iconst C dL_law_1169 ic_3 ?_
      refine vv_iadd C dL_law_1170 ?_
      refine vs_eqi (v9 := nI (i + 3)) (nI_add _ _) ?_
      refine vv_ildsX C dL_law_1171 hsX (xn_in (by omega) (by omega)) ?_
      refine vl_calli C dL_law_1172 (pr_act g hfl hN S hR _ _ _) mb_X11_act mv_X11_act lk_L_150 ce_0 rfl rfl rfl rfl ⟨⟨Nat.le_of_ble_eq_true rfl, Nat.le_of_ble_eq_true rfl⟩, ⟨hk.1, hk.2⟩, Nat.le_of_ble_eq_true rfl⟩ (fun r1172 S1172 p1172 => ?_)
      refine vv_aload_n C dL_law_1175 rfl ?_
      refine vv_aload_nR C dL_law_1176 rfl ?_
      refine vv_iload_n C dL_law_1177 rfl ?_
      refine vv_iconst C dL_law_1178 ic_1 ?_
      refine vv_iadd C dL_law_1179 ?_
      refine vs_eqi (v9 := nI (i + 1)) (nI_add _ _) ?_
      refine vv_ildsX C dL_law_1180 hsX (xn_in (by omega) (by omega)) ?_
      refine vv_aload_nR C dL_law_1181 rfl ?_
      refine vv_iload_n C dL_law_1182 rfl ?_
      refine vv_iconst C dL_law_1183 ic_2 ?_
      refine vv_iadd C dL_law_1184 ?_
      refine vs_eqi (v9 := nI (i + 2)) (nI_add _ _) ?_
      refine vv_ildsX C dL_law_1185 hsX (xn_in (by omega) (by omega)) ?_
      refine vv_aload_nR C dL_law_1186 rfl ?_
      refine vv_iload_n C dL_law_1187 rfl ?_
      refine vv_iconst C dL_law_1188 ic_3 ?_
      refine vv_iadd C dL_law_1189 ?_
      refine vs_eqi (v9 := nI (i + 3)) (nI_add _ _) ?_
      refine vv_ildsX C dL_law_1190 hsX (xn_in (by omega) (by omega)) ?_
      refine vl_calli C dL_law_1191 p1172 mb_X12_act mv_X12_act lk_L_153 ce_65 rfl rfl rfl rfl ⟨⟨Nat.le_of_ble_eq_true rfl, Nat.le_of_ble_eq_true rfl⟩, ⟨hk.1, hk.2⟩, Nat.le_of_ble_eq_true rfl⟩ (fun r1191 S1191 p1191 => ?_)
      refine vv_icmp_eq (tgt := 1524) C dL_law_1194 (by decide) (fun q1194 => ?_) (fun q1194 => ?_)
      · skip
        refine vw_iinc (lv9 := [_, _, _, _]) C dL_law_1524 rfl ic_6 (by decide) rfl rfl ?_
        refine vv_goto (tgt := 18) C dL_law_1527 (by decide) ?_
        rw [show nI i + 6 = nI (i + 6) from nI_add i 6]
        exact ih (i + 6) S1191 p1191.2 (by omega) (by omega)
      · exact absurd p1191.1.symm q1194
    by_cases h34 : xs (nI i).toNatClampNeg &&& 63 = 34
    · refine vs_eqi (v9 := 34) h34 ?_
      refine vv_tableIn (tgt := 1199) (off := 1166) C dL_law_33 (by decide +kernel) (by decide +kernel) (by decide +kernel) (by decide) ?_
      refine vv_aload_n C dL_law_1199 rfl ?_
      refine vv_aload_nR C dL_law_1200 rfl ?_
      refine vv_iload_n C dL_law_1201 rfl ?_
      refine vv_iconst C dL_law_1202 ic_1 ?_
      refine vv_iadd C dL_law_1203 ?_
      refine vs_eqi (v9 := nI (i + 1)) (nI_add _ _) ?_
      refine vv_ildsX C dL_law_1204 hsX (xn_in (by omega) (by omega)) ?_
      refine vl_calli C dL_law_1205 (pr_trace g hfl hN S hR _) mb_X11_trace mv_X11_trace lk_L_154 ce_0 rfl rfl rfl rfl ⟨⟨Nat.le_of_ble_eq_true rfl, Nat.le_of_ble_eq_true rfl⟩, ⟨hk.1, hk.2⟩, Nat.le_of_ble_eq_true rfl⟩ (fun r1205 S1205 p1205 => ?_)
      refine vv_aload_n C dL_law_1208 rfl ?_
      refine vv_aload_nR C dL_law_1209 rfl ?_
      refine vv_iload_n C dL_law_1210 rfl ?_
      refine vv_iconst C dL_law_1211 ic_1 ?_
      refine vv_iadd C dL_law_1212 ?_
      refine vs_eqi (v9 := nI (i + 1)) (nI_add _ _) ?_
      refine vv_ildsX C dL_law_1213 hsX (xn_in (by omega) (by omega)) ?_
      refine vl_calli C dL_law_1214 p1205 mb_X12_trace mv_X12_trace lk_L_157 ce_65 rfl rfl rfl rfl ⟨⟨Nat.le_of_ble_eq_true rfl, Nat.le_of_ble_eq_true rfl⟩, ⟨hk.1, hk.2⟩, Nat.le_of_ble_eq_true rfl⟩ (fun r1214 S1214 p1214 => ?_)
      refine vv_icmp_eq (tgt := 1524) C dL_law_1217 (by decide) (fun q1217 => ?_) (fun q1217 => ?_)
      · skip
        refine vw_iinc (lv9 := [_, _, _, _]) C dL_law_1524 rfl ic_6 (by decide) rfl rfl ?_
        refine vv_goto (tgt := 18) C dL_law_1527 (by decide) ?_
        rw [show nI i + 6 = nI (i + 6) from nI_add i 6]
        exact ih (i + 6) S1214 p1214.2 (by omega) (by omega)
      · exact absurd p1214.1.symm q1217
    by_cases h35 : xs (nI i).toNatClampNeg &&& 63 = 35
    · refine vs_eqi (v9 := 35) h35 ?_
      refine vv_tableIn (tgt := 1222) (off := 1189) C dL_law_33 (by decide +kernel) (by decide +kernel) (by decide +kernel) (by decide) ?_
      refine vv_aload_n C dL_law_1222 rfl ?_
      refine vv_aload_nR C dL_law_1223 rfl ?_
      refine vv_iload_n C dL_law_1224 rfl ?_
      refine vv_iconst C dL_law_1225 ic_1 ?_
      refine vv_iadd C dL_law_1226 ?_
      refine vs_eqi (v9 := nI (i + 1)) (nI_add _ _) ?_
      refine vv_ildsX C dL_law_1227 hsX (xn_in (by omega) (by omega)) ?_
      refine vv_aload_nR C dL_law_1228 rfl ?_
      refine vv_iload_n C dL_law_1229 rfl ?_
      refine vv_iconst C dL_law_1230 ic_2 ?_
      refine vv_iadd C dL_law_1231 ?_
      refine vs_eqi (v9 := nI (i + 2)) (nI_add _ _) ?_
      refine vv_ildsX C dL_law_1232 hsX (xn_in (by omega) (by omega)) ?_
      refine vl_calli C dL_law_1233 (pr_keep g hfl hN S hR _ _) mb_X11_keep mv_X11_keep lk_L_158 ce_0 rfl rfl rfl rfl ⟨⟨Nat.le_of_ble_eq_true rfl, Nat.le_of_ble_eq_true rfl⟩, ⟨hk.1, hk.2⟩, Nat.le_of_ble_eq_true rfl⟩ (fun r1233 S1233 p1233 => ?_)
      refine vv_aload_n C dL_law_1236 rfl ?_
      refine vv_aload_nR C dL_law_1237 rfl ?_
      refine vv_iload_n C dL_law_1238 rfl ?_
      refine vv_iconst C dL_law_1239 ic_1 ?_
      refine vv_iadd C dL_law_1240 ?_
      refine vs_eqi (v9 := nI (i + 1)) (nI_add _ _) ?_
      refine vv_ildsX C dL_law_1241 hsX (xn_in (by omega) (by omega)) ?_
      refine vv_aload_nR C dL_law_1242 rfl ?_
      refine vv_iload_n C dL_law_1243 rfl ?_
      refine vv_iconst C dL_law_1244 ic_2 ?_
      refine vv_iadd C dL_law_1245 ?_
      refine vs_eqi (v9 := nI (i + 2)) (nI_add _ _) ?_
      refine vv_ildsX C dL_law_1246 hsX (xn_in (by omega) (by omega)) ?_
      refine vl_calli C dL_law_1247 p1233 mb_X12_keep mv_X12_keep lk_L_161 ce_65 rfl rfl rfl rfl ⟨⟨Nat.le_of_ble_eq_true rfl, Nat.le_of_ble_eq_true rfl⟩, ⟨hk.1, hk.2⟩, Nat.le_of_ble_eq_true rfl⟩ (fun r1247 S1247 p1247 => ?_)
      refine vv_icmp_eq (tgt := 1524) C dL_law_1250 (by decide) (fun q1250 => ?_) (fun q1250 => ?_)
      · skip
        refine vw_iinc (lv9 := [_, _, _, _]) C dL_law_1524 rfl ic_6 (by decide) rfl rfl ?_
        refine vv_goto (tgt := 18) C dL_law_1527 (by decide) ?_
        rw [show nI i + 6 = nI (i + 6) from nI_add i 6]
        exact ih (i + 6) S1247 p1247.2 (by omega) (by omega)
      · exact absurd p1247.1.symm q1250
    by_cases h36 : xs (nI i).toNatClampNeg &&& 63 = 36
    · refine vs_eqi (v9 := 36) h36 ?_
      refine vv_tableIn (tgt := 1255) (off := 1222) C dL_law_33 (by decide +kernel) (by decide +kernel) (by decide +kernel) (by decide) ?_
      refine vv_aload_n C dL_law_1255 rfl ?_
      refine vv_aload_nR C dL_law_1256 rfl ?_
      refine vv_iload_n C dL_law_1257 rfl ?_
      refine vv_iconst C dL_law_1258 ic_1 ?_
      refine vv_iadd C dL_law_1259 ?_
      refine vs_eqi (v9 := nI (i + 1)) (nI_add _ _) ?_
      refine vv_ildsX C dL_law_1260 hsX (xn_in (by omega) (by omega)) ?_
      refine vv_aload_nR C dL_law_1261 rfl ?_
      refine vv_iload_n C dL_law_1262 rfl ?_
      refine vv_iconst C dL_law_1263 ic_2 ?_
      refine vv_iadd C dL_law_1264 ?_
      refine vs_eqi (v9 := nI (i + 2)) (nI_add _ _) ?_
      refine vv_ildsX C dL_law_1265 hsX (xn_in (by omega) (by omega)) ?_
      refine vv_aload_nR C dL_law_1266 rfl ?_
      refine vv_iload_n C dL_law_1267 rfl ?_
      refine vv_iconst C dL_law_1268 ic_3 ?_
      refine vv_iadd C dL_law_1269 ?_
      refine vs_eqi (v9 := nI (i + 3)) (nI_add _ _) ?_
      refine vv_ildsX C dL_law_1270 hsX (xn_in (by omega) (by omega)) ?_
      refine vl_calli C dL_law_1271 (pr_row g hfl hN S hR _ _ _) mb_X11_row mv_X11_row lk_L_162 ce_0 rfl rfl rfl rfl ⟨⟨Nat.le_of_ble_eq_true rfl, Nat.le_of_ble_eq_true rfl⟩, ⟨hk.1, hk.2⟩, Nat.le_of_ble_eq_true rfl⟩ (fun r1271 S1271 p1271 => ?_)
      refine vv_aload_n C dL_law_1274 rfl ?_
      refine vv_aload_nR C dL_law_1275 rfl ?_
      refine vv_iload_n C dL_law_1276 rfl ?_
      refine vv_iconst C dL_law_1277 ic_1 ?_
      refine vv_iadd C dL_law_1278 ?_
      refine vs_eqi (v9 := nI (i + 1)) (nI_add _ _) ?_
      refine vv_ildsX C dL_law_1279 hsX (xn_in (by omega) (by omega)) ?_
      refine vv_aload_nR C dL_law_1280 rfl ?_
      refine vv_iload_n C dL_law_1281 rfl ?_
      refine vv_iconst C dL_law_1282 ic_2 ?_
      refine vv_iadd C dL_law_1283 ?_
      refine vs_eqi (v9 := nI (i + 2)) (nI_add _ _) ?_
      refine vv_ildsX C dL_law_1284 hsX (xn_in (by omega) (by omega)) ?_
      refine vv_aload_nR C dL_law_1285 rfl ?_
      refine vv_iload_n C dL_law_1286 rfl ?_
      refine vv_iconst C dL_law_1287 ic_3 ?_
      refine vv_iadd C dL_law_1288 ?_
      refine vs_eqi (v9 := nI (i + 3)) (nI_add _ _) ?_
      refine vv_ildsX C dL_law_1289 hsX (xn_in (by omega) (by omega)) ?_
      refine vl_calli C dL_law_1290 p1271 mb_X12_row mv_X12_row lk_L_165 ce_65 rfl rfl rfl rfl ⟨⟨Nat.le_of_ble_eq_true rfl, Nat.le_of_ble_eq_true rfl⟩, ⟨hk.1, hk.2⟩, Nat.le_of_ble_eq_true rfl⟩ (fun r1290 S1290 p1290 => ?_)
      refine vv_icmp_eq (tgt := 1524) C dL_law_1293 (by decide) (fun q1293 => ?_) (fun q1293 => ?_)
      · skip
        refine vw_iinc (lv9 := [_, _, _, _]) C dL_law_1524 rfl ic_6 (by decide) rfl rfl ?_
        refine vv_goto (tgt := 18) C dL_law_1527 (by decide) ?_
        rw [show nI i + 6 = nI (i + 6) from nI_add i 6]
        exact ih (i + 6) S1290 p1290.2 (by omega) (by omega)
      · exact absurd p1290.1.symm q1293
    by_cases h37 : xs (nI i).toNatClampNeg &&& 63 = 37
    · refine vs_eqi (v9 := 37) h37 ?_
      refine vv_tableIn (tgt := 1298) (off := 1265) C dL_law_33 (by decide +kernel) (by decide +kernel) (by decide +kernel) (by decide) ?_
      refine vv_aload_n C dL_law_1298 rfl ?_
      refine vv_aload_nR C dL_law_1299 rfl ?_
      refine vv_iload_n C dL_law_1300 rfl ?_
      refine vv_iconst C dL_law_1301 ic_1 ?_
      refine vv_iadd C dL_law_1302 ?_
      refine vs_eqi (v9 := nI (i + 1)) (nI_add _ _) ?_
      refine vv_ildsX C dL_law_1303 hsX (xn_in (by omega) (by omega)) ?_
      refine vv_aload_nR C dL_law_1304 rfl ?_
      refine vv_iload_n C dL_law_1305 rfl ?_
      refine vv_iconst C dL_law_1306 ic_2 ?_
      refine vv_iadd C dL_law_1307 ?_
      refine vs_eqi (v9 := nI (i + 2)) (nI_add _ _) ?_
      refine vv_ildsX C dL_law_1308 hsX (xn_in (by omega) (by omega)) ?_
      refine vv_aload_nR C dL_law_1309 rfl ?_
      refine vv_iload_n C dL_law_1310 rfl ?_
      refine vv_iconst C dL_law_1311 ic_3 ?_
      refine vv_iadd C dL_law_1312 ?_
      refine vs_eqi (v9 := nI (i + 3)) (nI_add _ _) ?_
      refine vv_ildsX C dL_law_1313 hsX (xn_in (by omega) (by omega)) ?_
      refine vv_i2l C dL_law_1314 ?_
      refine vv_bipush C dL_law_1315 bp_32 ?_
      refine vv_lshl C dL_law_1317 ?_
      refine vv_aload_nR C dL_law_1318 rfl ?_
      refine vv_iload_n C dL_law_1319 rfl ?_
      refine vv_iconst C dL_law_1320 ic_4 ?_
      refine vv_iadd C dL_law_1321 ?_
      refine vs_eqi (v9 := nI (i + 4)) (nI_add _ _) ?_
      refine vv_ildsX C dL_law_1322 hsX (xn_in (by omega) (by omega)) ?_
      refine vv_i2l C dL_law_1323 ?_
      refine vv_ldc2 C dL_law_1324 kc_L_166 ?_
      refine vv_land C dL_law_1327 ?_
      refine vv_lor C dL_law_1328 ?_
      refine vl_calli C dL_law_1329 (pr_put g hfl hN S hR _ _ _) mb_X11_put mv_X11_put lk_L_168 ce_0 rfl rfl rfl rfl ⟨⟨Nat.le_of_ble_eq_true rfl, Nat.le_of_ble_eq_true rfl⟩, ⟨hk.1, hk.2⟩, Nat.le_of_ble_eq_true rfl⟩ (fun r1329 S1329 p1329 => ?_)
      refine vv_aload_n C dL_law_1332 rfl ?_
      refine vv_aload_nR C dL_law_1333 rfl ?_
      refine vv_iload_n C dL_law_1334 rfl ?_
      refine vv_iconst C dL_law_1335 ic_1 ?_
      refine vv_iadd C dL_law_1336 ?_
      refine vs_eqi (v9 := nI (i + 1)) (nI_add _ _) ?_
      refine vv_ildsX C dL_law_1337 hsX (xn_in (by omega) (by omega)) ?_
      refine vv_aload_nR C dL_law_1338 rfl ?_
      refine vv_iload_n C dL_law_1339 rfl ?_
      refine vv_iconst C dL_law_1340 ic_2 ?_
      refine vv_iadd C dL_law_1341 ?_
      refine vs_eqi (v9 := nI (i + 2)) (nI_add _ _) ?_
      refine vv_ildsX C dL_law_1342 hsX (xn_in (by omega) (by omega)) ?_
      refine vv_aload_nR C dL_law_1343 rfl ?_
      refine vv_iload_n C dL_law_1344 rfl ?_
      refine vv_iconst C dL_law_1345 ic_3 ?_
      refine vv_iadd C dL_law_1346 ?_
      refine vs_eqi (v9 := nI (i + 3)) (nI_add _ _) ?_
      refine vv_ildsX C dL_law_1347 hsX (xn_in (by omega) (by omega)) ?_
      refine vv_i2l C dL_law_1348 ?_
      refine vv_bipush C dL_law_1349 bp_32 ?_
      refine vv_lshl C dL_law_1351 ?_
      refine vv_aload_nR C dL_law_1352 rfl ?_
      refine vv_iload_n C dL_law_1353 rfl ?_
      refine vv_iconst C dL_law_1354 ic_4 ?_
      refine vv_iadd C dL_law_1355 ?_
      refine vs_eqi (v9 := nI (i + 4)) (nI_add _ _) ?_
      refine vv_ildsX C dL_law_1356 hsX (xn_in (by omega) (by omega)) ?_
      refine vv_i2l C dL_law_1357 ?_
      refine vv_ldc2 C dL_law_1358 kc_L_166 ?_
      refine vv_land C dL_law_1361 ?_
      refine vv_lor C dL_law_1362 ?_
      refine vl_calli C dL_law_1363 p1329 mb_X12_put mv_X12_put lk_L_172 ce_65 rfl rfl rfl rfl ⟨⟨Nat.le_of_ble_eq_true rfl, Nat.le_of_ble_eq_true rfl⟩, ⟨hk.1, hk.2⟩, Nat.le_of_ble_eq_true rfl⟩ (fun r1363 S1363 p1363 => ?_)
      refine vv_icmp_eq (tgt := 1524) C dL_law_1366 (by decide) (fun q1366 => ?_) (fun q1366 => ?_)
      · skip
        refine vw_iinc (lv9 := [_, _, _, _]) C dL_law_1524 rfl ic_6 (by decide) rfl rfl ?_
        refine vv_goto (tgt := 18) C dL_law_1527 (by decide) ?_
        rw [show nI i + 6 = nI (i + 6) from nI_add i 6]
        exact ih (i + 6) S1363 p1363.2 (by omega) (by omega)
      · exact absurd p1363.1.symm q1366
    by_cases h38 : xs (nI i).toNatClampNeg &&& 63 = 38
    · refine vs_eqi (v9 := 38) h38 ?_
      refine vv_tableIn (tgt := 1371) (off := 1338) C dL_law_33 (by decide +kernel) (by decide +kernel) (by decide +kernel) (by decide) ?_
      refine vv_aload_n C dL_law_1371 rfl ?_
      refine vv_aload_nR C dL_law_1372 rfl ?_
      refine vv_iload_n C dL_law_1373 rfl ?_
      refine vv_iconst C dL_law_1374 ic_1 ?_
      refine vv_iadd C dL_law_1375 ?_
      refine vs_eqi (v9 := nI (i + 1)) (nI_add _ _) ?_
      refine vv_ildsX C dL_law_1376 hsX (xn_in (by omega) (by omega)) ?_
      refine vv_aload_nR C dL_law_1377 rfl ?_
      refine vv_iload_n C dL_law_1378 rfl ?_
      refine vv_iconst C dL_law_1379 ic_2 ?_
      refine vv_iadd C dL_law_1380 ?_
      refine vs_eqi (v9 := nI (i + 2)) (nI_add _ _) ?_
      refine vv_ildsX C dL_law_1381 hsX (xn_in (by omega) (by omega)) ?_
      refine vl_calll C dL_law_1382 (pr_element g hfl hN S hR _ _) mb_X11_element mv_X11_element lk_L_173 ce_0 rfl rfl rfl rfl ⟨⟨Nat.le_of_ble_eq_true rfl, Nat.le_of_ble_eq_true rfl⟩, ⟨hk.1, hk.2⟩, Nat.le_of_ble_eq_true rfl⟩ (fun r1382 S1382 p1382 => ?_)
      refine vv_aload_n C dL_law_1385 rfl ?_
      refine vv_aload_nR C dL_law_1386 rfl ?_
      refine vv_iload_n C dL_law_1387 rfl ?_
      refine vv_iconst C dL_law_1388 ic_1 ?_
      refine vv_iadd C dL_law_1389 ?_
      refine vs_eqi (v9 := nI (i + 1)) (nI_add _ _) ?_
      refine vv_ildsX C dL_law_1390 hsX (xn_in (by omega) (by omega)) ?_
      refine vv_aload_nR C dL_law_1391 rfl ?_
      refine vv_iload_n C dL_law_1392 rfl ?_
      refine vv_iconst C dL_law_1393 ic_2 ?_
      refine vv_iadd C dL_law_1394 ?_
      refine vs_eqi (v9 := nI (i + 2)) (nI_add _ _) ?_
      refine vv_ildsX C dL_law_1395 hsX (xn_in (by omega) (by omega)) ?_
      refine vl_calll C dL_law_1396 p1382 mb_X12_element mv_X12_element lk_L_176 ce_65 rfl rfl rfl rfl ⟨⟨Nat.le_of_ble_eq_true rfl, Nat.le_of_ble_eq_true rfl⟩, ⟨hk.1, hk.2⟩, Nat.le_of_ble_eq_true rfl⟩ (fun r1396 S1396 p1396 => ?_)
      refine vv_lcmp C dL_law_1399 ?_
      refine vv_if_eq (tgt := 1524) C dL_law_1400 (by decide) (fun q1400 => ?_) (fun q1400 => ?_)
      · skip
        refine vw_iinc (lv9 := [_, _, _, _]) C dL_law_1524 rfl ic_6 (by decide) rfl rfl ?_
        refine vv_goto (tgt := 18) C dL_law_1527 (by decide) ?_
        rw [show nI i + 6 = nI (i + 6) from nI_add i 6]
        exact ih (i + 6) S1396 p1396.2 (by omega) (by omega)
      · exact absurd ((lg_cmp_eq _ _).mpr p1396.1.symm) q1400
    by_cases h39 : xs (nI i).toNatClampNeg &&& 63 = 39
    · refine vs_eqi (v9 := 39) h39 ?_
      refine vv_tableIn (tgt := 1405) (off := 1372) C dL_law_33 (by decide +kernel) (by decide +kernel) (by decide +kernel) (by decide) ?_
      refine vv_aload_n C dL_law_1405 rfl ?_
      refine vv_aload_nR C dL_law_1406 rfl ?_
      refine vv_iload_n C dL_law_1407 rfl ?_
      refine vv_iconst C dL_law_1408 ic_1 ?_
      refine vv_iadd C dL_law_1409 ?_
      refine vs_eqi (v9 := nI (i + 1)) (nI_add _ _) ?_
      refine vv_ildsX C dL_law_1410 hsX (xn_in (by omega) (by omega)) ?_
      refine vv_aload_nR C dL_law_1411 rfl ?_
      refine vv_iload_n C dL_law_1412 rfl ?_
      refine vv_iconst C dL_law_1413 ic_2 ?_
      refine vv_iadd C dL_law_1414 ?_
      refine vs_eqi (v9 := nI (i + 2)) (nI_add _ _) ?_
      refine vv_ildsX C dL_law_1415 hsX (xn_in (by omega) (by omega)) ?_
      refine vv_aload_nR C dL_law_1416 rfl ?_
      refine vv_iload_n C dL_law_1417 rfl ?_
      refine vv_iconst C dL_law_1418 ic_3 ?_
      refine vv_iadd C dL_law_1419 ?_
      refine vs_eqi (v9 := nI (i + 3)) (nI_add _ _) ?_
      refine vv_ildsX C dL_law_1420 hsX (xn_in (by omega) (by omega)) ?_
      refine vv_aload_nR C dL_law_1421 rfl ?_
      refine vv_iload_n C dL_law_1422 rfl ?_
      refine vv_iconst C dL_law_1423 ic_4 ?_
      refine vv_iadd C dL_law_1424 ?_
      refine vs_eqi (v9 := nI (i + 4)) (nI_add _ _) ?_
      refine vv_ildsX C dL_law_1425 hsX (xn_in (by omega) (by omega)) ?_
      refine vv_aload_nR C dL_law_1426 rfl ?_
      refine vv_iload_n C dL_law_1427 rfl ?_
      refine vv_iconst C dL_law_1428 ic_5 ?_
      refine vv_iadd C dL_law_1429 ?_
      refine vs_eqi (v9 := nI (i + 5)) (nI_add _ _) ?_
      refine vv_ildsX C dL_law_1430 hsX (xn_in (by omega) (by omega)) ?_
      refine vl_calli C dL_law_1431 (pr_shift g hfl hN S hR _ _ _ _ _) mb_X11_shift mv_X11_shift lk_L_177 ce_0 rfl rfl rfl rfl ⟨⟨Nat.le_of_ble_eq_true rfl, Nat.le_of_ble_eq_true rfl⟩, ⟨hk.1, hk.2⟩, Nat.le_of_ble_eq_true rfl⟩ (fun r1431 S1431 p1431 => ?_)
      refine vv_aload_n C dL_law_1434 rfl ?_
      refine vv_aload_nR C dL_law_1435 rfl ?_
      refine vv_iload_n C dL_law_1436 rfl ?_
      refine vv_iconst C dL_law_1437 ic_1 ?_
      refine vv_iadd C dL_law_1438 ?_
      refine vs_eqi (v9 := nI (i + 1)) (nI_add _ _) ?_
      refine vv_ildsX C dL_law_1439 hsX (xn_in (by omega) (by omega)) ?_
      refine vv_aload_nR C dL_law_1440 rfl ?_
      refine vv_iload_n C dL_law_1441 rfl ?_
      refine vv_iconst C dL_law_1442 ic_2 ?_
      refine vv_iadd C dL_law_1443 ?_
      refine vs_eqi (v9 := nI (i + 2)) (nI_add _ _) ?_
      refine vv_ildsX C dL_law_1444 hsX (xn_in (by omega) (by omega)) ?_
      refine vv_aload_nR C dL_law_1445 rfl ?_
      refine vv_iload_n C dL_law_1446 rfl ?_
      refine vv_iconst C dL_law_1447 ic_3 ?_
      refine vv_iadd C dL_law_1448 ?_
      refine vs_eqi (v9 := nI (i + 3)) (nI_add _ _) ?_
      refine vv_ildsX C dL_law_1449 hsX (xn_in (by omega) (by omega)) ?_
      refine vv_aload_nR C dL_law_1450 rfl ?_
      refine vv_iload_n C dL_law_1451 rfl ?_
      refine vv_iconst C dL_law_1452 ic_4 ?_
      refine vv_iadd C dL_law_1453 ?_
      refine vs_eqi (v9 := nI (i + 4)) (nI_add _ _) ?_
      refine vv_ildsX C dL_law_1454 hsX (xn_in (by omega) (by omega)) ?_
      refine vv_aload_nR C dL_law_1455 rfl ?_
      refine vv_iload_n C dL_law_1456 rfl ?_
      refine vv_iconst C dL_law_1457 ic_5 ?_
      refine vv_iadd C dL_law_1458 ?_
      refine vs_eqi (v9 := nI (i + 5)) (nI_add _ _) ?_
      refine vv_ildsX C dL_law_1459 hsX (xn_in (by omega) (by omega)) ?_
      refine vl_calli C dL_law_1460 p1431 mb_X12_shift mv_X12_shift lk_L_181 ce_65 rfl rfl rfl rfl ⟨⟨Nat.le_of_ble_eq_true rfl, Nat.le_of_ble_eq_true rfl⟩, ⟨hk.1, hk.2⟩, Nat.le_of_ble_eq_true rfl⟩ (fun r1460 S1460 p1460 => ?_)
      refine vv_icmp_eq (tgt := 1524) C dL_law_1463 (by decide) (fun q1463 => ?_) (fun q1463 => ?_)
      · skip
        refine vw_iinc (lv9 := [_, _, _, _]) C dL_law_1524 rfl ic_6 (by decide) rfl rfl ?_
        refine vv_goto (tgt := 18) C dL_law_1527 (by decide) ?_
        rw [show nI i + 6 = nI (i + 6) from nI_add i 6]
        exact ih (i + 6) S1460 p1460.2 (by omega) (by omega)
      · exact absurd p1460.1.symm q1463
    by_cases h40 : xs (nI i).toNatClampNeg &&& 63 = 40
    · refine vs_eqi (v9 := 40) h40 ?_
      refine vv_tableIn (tgt := 1468) (off := 1435) C dL_law_33 (by decide +kernel) (by decide +kernel) (by decide +kernel) (by decide) ?_
      refine vv_aload_n C dL_law_1468 rfl ?_
      refine vv_aload_nR C dL_law_1469 rfl ?_
      refine vv_iload_n C dL_law_1470 rfl ?_
      refine vv_iconst C dL_law_1471 ic_1 ?_
      refine vv_iadd C dL_law_1472 ?_
      refine vs_eqi (v9 := nI (i + 1)) (nI_add _ _) ?_
      refine vv_ildsX C dL_law_1473 hsX (xn_in (by omega) (by omega)) ?_
      refine vv_aload_nR C dL_law_1474 rfl ?_
      refine vv_iload_n C dL_law_1475 rfl ?_
      refine vv_iconst C dL_law_1476 ic_2 ?_
      refine vv_iadd C dL_law_1477 ?_
      refine vs_eqi (v9 := nI (i + 2)) (nI_add _ _) ?_
      refine vv_ildsX C dL_law_1478 hsX (xn_in (by omega) (by omega)) ?_
      refine vl_calli C dL_law_1479 (pr_taken g hfl hN S hR _ _) mb_X11_taken mv_X11_taken lk_L_182 ce_0 rfl rfl rfl rfl ⟨⟨Nat.le_of_ble_eq_true rfl, Nat.le_of_ble_eq_true rfl⟩, ⟨hk.1, hk.2⟩, Nat.le_of_ble_eq_true rfl⟩ (fun r1479 S1479 p1479 => ?_)
      refine vv_aload_n C dL_law_1482 rfl ?_
      refine vv_aload_nR C dL_law_1483 rfl ?_
      refine vv_iload_n C dL_law_1484 rfl ?_
      refine vv_iconst C dL_law_1485 ic_1 ?_
      refine vv_iadd C dL_law_1486 ?_
      refine vs_eqi (v9 := nI (i + 1)) (nI_add _ _) ?_
      refine vv_ildsX C dL_law_1487 hsX (xn_in (by omega) (by omega)) ?_
      refine vv_aload_nR C dL_law_1488 rfl ?_
      refine vv_iload_n C dL_law_1489 rfl ?_
      refine vv_iconst C dL_law_1490 ic_2 ?_
      refine vv_iadd C dL_law_1491 ?_
      refine vs_eqi (v9 := nI (i + 2)) (nI_add _ _) ?_
      refine vv_ildsX C dL_law_1492 hsX (xn_in (by omega) (by omega)) ?_
      refine vl_calli C dL_law_1493 p1479 mb_X12_taken mv_X12_taken lk_L_185 ce_65 rfl rfl rfl rfl ⟨⟨Nat.le_of_ble_eq_true rfl, Nat.le_of_ble_eq_true rfl⟩, ⟨hk.1, hk.2⟩, Nat.le_of_ble_eq_true rfl⟩ (fun r1493 S1493 p1493 => ?_)
      refine vv_icmp_eq (tgt := 1524) C dL_law_1496 (by decide) (fun q1496 => ?_) (fun q1496 => ?_)
      · skip
        refine vw_iinc (lv9 := [_, _, _, _]) C dL_law_1524 rfl ic_6 (by decide) rfl rfl ?_
        refine vv_goto (tgt := 18) C dL_law_1527 (by decide) ?_
        rw [show nI i + 6 = nI (i + 6) from nI_add i 6]
        exact ih (i + 6) S1493 p1493.2 (by omega) (by omega)
      · exact absurd p1493.1.symm q1496
    by_cases h41 : xs (nI i).toNatClampNeg &&& 63 = 41
    · refine vs_eqi (v9 := 41) h41 ?_
      refine vv_tableIn (tgt := 1501) (off := 1468) C dL_law_33 (by decide +kernel) (by decide +kernel) (by decide +kernel) (by decide) ?_
      refine vv_aload_n C dL_law_1501 rfl ?_
      refine vv_aload_nR C dL_law_1502 rfl ?_
      refine vv_iload_n C dL_law_1503 rfl ?_
      refine vv_iconst C dL_law_1504 ic_1 ?_
      refine vv_iadd C dL_law_1505 ?_
      refine vs_eqi (v9 := nI (i + 1)) (nI_add _ _) ?_
      refine vv_ildsX C dL_law_1506 hsX (xn_in (by omega) (by omega)) ?_
      refine vl_calli C dL_law_1507 (pr_count g hfl hN S hR _) mb_X11_count mv_X11_count lk_L_186 ce_0 rfl rfl rfl rfl ⟨⟨Nat.le_of_ble_eq_true rfl, Nat.le_of_ble_eq_true rfl⟩, ⟨hk.1, hk.2⟩, Nat.le_of_ble_eq_true rfl⟩ (fun r1507 S1507 p1507 => ?_)
      refine vv_aload_n C dL_law_1510 rfl ?_
      refine vv_aload_nR C dL_law_1511 rfl ?_
      refine vv_iload_n C dL_law_1512 rfl ?_
      refine vv_iconst C dL_law_1513 ic_1 ?_
      refine vv_iadd C dL_law_1514 ?_
      refine vs_eqi (v9 := nI (i + 1)) (nI_add _ _) ?_
      refine vv_ildsX C dL_law_1515 hsX (xn_in (by omega) (by omega)) ?_
      refine vl_calli C dL_law_1516 p1507 mb_X12_count mv_X12_count lk_L_189 ce_65 rfl rfl rfl rfl ⟨⟨Nat.le_of_ble_eq_true rfl, Nat.le_of_ble_eq_true rfl⟩, ⟨hk.1, hk.2⟩, Nat.le_of_ble_eq_true rfl⟩ (fun r1516 S1516 p1516 => ?_)
      refine vv_icmp_eq (tgt := 1524) C dL_law_1519 (by decide) (fun q1519 => ?_) (fun q1519 => ?_)
      · skip
        refine vw_iinc (lv9 := [_, _, _, _]) C dL_law_1524 rfl ic_6 (by decide) rfl rfl ?_
        refine vv_goto (tgt := 18) C dL_law_1527 (by decide) ?_
        rw [show nI i + 6 = nI (i + 6) from nI_add i 6]
        exact ih (i + 6) S1516 p1516.2 (by omega) (by omega)
      · exact absurd p1516.1.symm q1519
    have a0 : (xs (nI i).toNatClampNeg &&& 63).toInt ≠ 0 := fun z => h0 (Int32.toInt_inj.mp z)
    have a1 : (xs (nI i).toNatClampNeg &&& 63).toInt ≠ 1 := fun z => h1 (Int32.toInt_inj.mp z)
    have a2 : (xs (nI i).toNatClampNeg &&& 63).toInt ≠ 2 := fun z => h2 (Int32.toInt_inj.mp z)
    have a3 : (xs (nI i).toNatClampNeg &&& 63).toInt ≠ 3 := fun z => h3 (Int32.toInt_inj.mp z)
    have a4 : (xs (nI i).toNatClampNeg &&& 63).toInt ≠ 4 := fun z => h4 (Int32.toInt_inj.mp z)
    have a5 : (xs (nI i).toNatClampNeg &&& 63).toInt ≠ 5 := fun z => h5 (Int32.toInt_inj.mp z)
    have a6 : (xs (nI i).toNatClampNeg &&& 63).toInt ≠ 6 := fun z => h6 (Int32.toInt_inj.mp z)
    have a7 : (xs (nI i).toNatClampNeg &&& 63).toInt ≠ 7 := fun z => h7 (Int32.toInt_inj.mp z)
    have a8 : (xs (nI i).toNatClampNeg &&& 63).toInt ≠ 8 := fun z => h8 (Int32.toInt_inj.mp z)
    have a9 : (xs (nI i).toNatClampNeg &&& 63).toInt ≠ 9 := fun z => h9 (Int32.toInt_inj.mp z)
    have a10 : (xs (nI i).toNatClampNeg &&& 63).toInt ≠ 10 := fun z => h10 (Int32.toInt_inj.mp z)
    have a11 : (xs (nI i).toNatClampNeg &&& 63).toInt ≠ 11 := fun z => h11 (Int32.toInt_inj.mp z)
    have a12 : (xs (nI i).toNatClampNeg &&& 63).toInt ≠ 12 := fun z => h12 (Int32.toInt_inj.mp z)
    have a13 : (xs (nI i).toNatClampNeg &&& 63).toInt ≠ 13 := fun z => h13 (Int32.toInt_inj.mp z)
    have a14 : (xs (nI i).toNatClampNeg &&& 63).toInt ≠ 14 := fun z => h14 (Int32.toInt_inj.mp z)
    have a15 : (xs (nI i).toNatClampNeg &&& 63).toInt ≠ 15 := fun z => h15 (Int32.toInt_inj.mp z)
    have a16 : (xs (nI i).toNatClampNeg &&& 63).toInt ≠ 16 := fun z => h16 (Int32.toInt_inj.mp z)
    have a17 : (xs (nI i).toNatClampNeg &&& 63).toInt ≠ 17 := fun z => h17 (Int32.toInt_inj.mp z)
    have a18 : (xs (nI i).toNatClampNeg &&& 63).toInt ≠ 18 := fun z => h18 (Int32.toInt_inj.mp z)
    have a19 : (xs (nI i).toNatClampNeg &&& 63).toInt ≠ 19 := fun z => h19 (Int32.toInt_inj.mp z)
    have a20 : (xs (nI i).toNatClampNeg &&& 63).toInt ≠ 20 := fun z => h20 (Int32.toInt_inj.mp z)
    have a21 : (xs (nI i).toNatClampNeg &&& 63).toInt ≠ 21 := fun z => h21 (Int32.toInt_inj.mp z)
    have a22 : (xs (nI i).toNatClampNeg &&& 63).toInt ≠ 22 := fun z => h22 (Int32.toInt_inj.mp z)
    have a23 : (xs (nI i).toNatClampNeg &&& 63).toInt ≠ 23 := fun z => h23 (Int32.toInt_inj.mp z)
    have a24 : (xs (nI i).toNatClampNeg &&& 63).toInt ≠ 24 := fun z => h24 (Int32.toInt_inj.mp z)
    have a25 : (xs (nI i).toNatClampNeg &&& 63).toInt ≠ 25 := fun z => h25 (Int32.toInt_inj.mp z)
    have a26 : (xs (nI i).toNatClampNeg &&& 63).toInt ≠ 26 := fun z => h26 (Int32.toInt_inj.mp z)
    have a27 : (xs (nI i).toNatClampNeg &&& 63).toInt ≠ 27 := fun z => h27 (Int32.toInt_inj.mp z)
    have a28 : (xs (nI i).toNatClampNeg &&& 63).toInt ≠ 28 := fun z => h28 (Int32.toInt_inj.mp z)
    have a29 : (xs (nI i).toNatClampNeg &&& 63).toInt ≠ 29 := fun z => h29 (Int32.toInt_inj.mp z)
    have a30 : (xs (nI i).toNatClampNeg &&& 63).toInt ≠ 30 := fun z => h30 (Int32.toInt_inj.mp z)
    have a31 : (xs (nI i).toNatClampNeg &&& 63).toInt ≠ 31 := fun z => h31 (Int32.toInt_inj.mp z)
    have a32 : (xs (nI i).toNatClampNeg &&& 63).toInt ≠ 32 := fun z => h32 (Int32.toInt_inj.mp z)
    have a33 : (xs (nI i).toNatClampNeg &&& 63).toInt ≠ 33 := fun z => h33 (Int32.toInt_inj.mp z)
    have a34 : (xs (nI i).toNatClampNeg &&& 63).toInt ≠ 34 := fun z => h34 (Int32.toInt_inj.mp z)
    have a35 : (xs (nI i).toNatClampNeg &&& 63).toInt ≠ 35 := fun z => h35 (Int32.toInt_inj.mp z)
    have a36 : (xs (nI i).toNatClampNeg &&& 63).toInt ≠ 36 := fun z => h36 (Int32.toInt_inj.mp z)
    have a37 : (xs (nI i).toNatClampNeg &&& 63).toInt ≠ 37 := fun z => h37 (Int32.toInt_inj.mp z)
    have a38 : (xs (nI i).toNatClampNeg &&& 63).toInt ≠ 38 := fun z => h38 (Int32.toInt_inj.mp z)
    have a39 : (xs (nI i).toNatClampNeg &&& 63).toInt ≠ 39 := fun z => h39 (Int32.toInt_inj.mp z)
    have a40 : (xs (nI i).toNatClampNeg &&& 63).toInt ≠ 40 := fun z => h40 (Int32.toInt_inj.mp z)
    have a41 : (xs (nI i).toNatClampNeg &&& 63).toInt ≠ 41 := fun z => h41 (Int32.toInt_inj.mp z)
    refine vv_tableOut (tgt := 1524) C dL_law_33 (by omega) (by decide) ?_
    refine vw_iinc (lv9 := [_, _, _, _]) C dL_law_1524 rfl ic_6 (by decide) rfl rfl ?_
    refine vv_goto (tgt := 18) C dL_law_1527 (by decide) ?_
    rw [show nI i + 6 = nI (i + 6) from nI_add i 6]
    exact ih (i + 6) S hR (by omega) (by omega)
