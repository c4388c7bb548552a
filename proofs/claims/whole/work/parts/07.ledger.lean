/-! THE LEDGER: what is held, the changes (where, was, is), how many are done, how many are kept -/
abbrev lg_L : Type := (Nat → Int32) × (Nat → Nat) × (Nat → Int32) × (Nat → Int32) × Nat × Nat
def lg_bec (L : lg_L) (p : Nat) (v : Int32) : lg_L := match L with
  | (H, A, B, C, d, _) => if H p = v then L else if d = 40 then (upd H p v, va_up (fun k => A (k + 1)) 39 p, va_up (fun k => B (k + 1)) 39 (H p), va_up (fun k => C (k + 1)) 39 v, 40, 40) else (upd H p v, va_up A d p, va_up B d (H p), va_up C d v, d + 1, d + 1)
def lg_und (L : lg_L) : lg_L := match L with
  | (H, A, B, C, d, n) => (upd H (A (d - 1)) (B (d - 1)), A, B, C, d - 1, n)
def lg_red (L : lg_L) : lg_L := match L with
  | (H, A, B, C, d, n) => (upd H (A d) (C d), A, B, C, d + 1, n)
def lg_ok (L : lg_L) : Prop := match L with
  | (_, A, _, _, d, n) => d ≤ n ∧ n ≤ 40 ∧ ∀ k, k < n → A k < 96
/-- the class's ledger -/
def lg_X (S : vs_S) (L : lg_L) : Prop := match L with
  | (H, A, B, C, d, n) => H = S.2.1 19 ∧ S.1 7 = nI d ∧ S.1 8 = nI (n - d) ∧ ∃ o, o < 40 ∧ S.1 6 = nI o ∧ ∀ k, k < n → S.2.1 20 ((o + k) % 40) = nI (A k) ∧ S.2.1 21 ((o + k) % 40) = B k ∧ S.2.1 22 ((o + k) % 40) = C k
/-- the reference's -/
def lg_M (S : vs_S) (L : lg_L) : Prop := match L with
  | (H, A, B, C, d, n) => H = S.2.1 66 ∧ S.1 22 = nI d ∧ S.1 21 = nI n ∧ ∀ k, k < n → S.2.1 67 k = nI (A k) ∧ S.2.1 68 k = B k ∧ S.2.1 69 k = C k
theorem lg_bec_ok {L : lg_L} {p : Nat} {v : Int32} (h : lg_ok L) (hp : p < 96) : lg_ok (lg_bec L p v) := by
  obtain ⟨H, A, B, C, d, n⟩ := L
  have h0 := h
  obtain ⟨h1, h2, h3⟩ := h
  unfold lg_bec
  dsimp only
  split
  · exact h0
  · split
    · refine ⟨by omega, by omega, fun k hk => ?_⟩
      unfold va_up
      split
      · exact hp
      · exact h3 _ (by omega)
    · refine ⟨by omega, by omega, fun k hk => ?_⟩
      unfold va_up
      split
      · exact hp
      · exact h3 _ (by omega)
theorem lg_und_ok {L : lg_L} (h : lg_ok L) : lg_ok (lg_und L) := by
  obtain ⟨H, A, B, C, d, n⟩ := L
  obtain ⟨h1, h2, h3⟩ := h
  exact ⟨by omega, h2, h3⟩
theorem lg_red_ok {L : lg_L} (h : lg_ok L) (hn : L.2.2.2.2.1 < L.2.2.2.2.2) : lg_ok (lg_red L) := by
  obtain ⟨H, A, B, C, d, n⟩ := L
  obtain ⟨h1, h2, h3⟩ := h
  exact ⟨hn, h2, h3⟩
theorem xn_upd {α : Type} {f : Nat → Int32} {k j : Nat} {x : Int32} : upd f k x j = if j = k then x else f j := by
  by_cases h : j = k
  · rw [if_pos h, h]; exact pk_us
  · rw [if_neg h]; exact pk_un h
/-- a change written at the place i -/
def lg_fin (S : vs_S) (i d p : Nat) (w v : Int32) : vs_S := vs_ua (vs_us (vs_us (vs_ua (vs_ua (vs_ua S 20 (upd (S.2.1 20) i (nI p))) 21 (upd (S.2.1 21) i w)) 22 (upd (S.2.1 22) i v)) 7 (nI (d + 1))) 8 0) 19 (upd (S.2.1 19) p v)
def lgX_bec (S : vs_S) (L : lg_L) (p : Nat) (v : Int32) : Int32 → vs_S → Prop := fun r S1 => r = S.2.1 19 p ∧ lg_X S1 (lg_bec L p v) ∧ vs_fr [6, 7, 8] [19, 20, 21, 22] [] S S1
theorem lg_fin_fr {S0 S : vs_S} {i d p : Nat} {w v : Int32} (h : vs_fr [6, 7, 8] [19, 20, 21, 22] [] S0 S) : vs_fr [6, 7, 8] [19, 20, 21, 22] [] S0 (lg_fin S i d p w v) :=
  (((((h.ua (i := 20) (by decide)).ua (i := 21) (by decide)).ua (i := 22) (by decide)).us (k := 7) (by decide)).us (k := 8) (by decide)).ua (i := 19) (by decide)
theorem lg_fin1 {S : vs_S} {A : Nat → Nat} {B C : Nat → Int32} {d n o p : Nat} {v : Int32} (hk : lg_ok (S.2.1 19, A, B, C, d, n)) (ho : o < 40) (e3 : S.1 6 = nI o) (e4 : ∀ k, k < n → S.2.1 20 ((o + k) % 40) = nI (A k) ∧ S.2.1 21 ((o + k) % 40) = B k ∧ S.2.1 22 ((o + k) % 40) = C k) (hne : ¬ S.2.1 19 p = v) (hd : ¬ d = 40) : lgX_bec S (S.2.1 19, A, B, C, d, n) p v (S.2.1 19 p) (lg_fin S ((o + d) % 40) d p (S.2.1 19 p) v) := by
  obtain ⟨k1, k2, k3⟩ := hk
  refine ⟨rfl, ?_, lg_fin_fr vs_fr.rf⟩
  unfold lg_bec
  dsimp only
  rw [if_neg hne, if_neg hd]
  refine ⟨rfl, rfl, by show (0 : Int32) = nI (d + 1 - (d + 1)); rw [Nat.sub_self]; rfl, o, ho, e3, fun k hk => ?_⟩
  show upd (S.2.1 20) ((o + d) % 40) (nI p) ((o + k) % 40) = _ ∧ upd (S.2.1 21) ((o + d) % 40) (S.2.1 19 p) ((o + k) % 40) = _ ∧ upd (S.2.1 22) ((o + d) % 40) v ((o + k) % 40) = _
  unfold va_up
  by_cases e : k = d
  · subst e
    rw [pk_us, pk_us, pk_us, if_pos rfl, if_pos rfl, if_pos rfl]
    exact ⟨rfl, rfl, rfl⟩
  · have hn : (o + k) % 40 ≠ (o + d) % 40 := by omega
    rw [pk_un hn, pk_un hn, pk_un hn, if_neg e, if_neg e, if_neg e]
    exact e4 k (by omega)
theorem lg_fin2 {S : vs_S} {A : Nat → Nat} {B C : Nat → Int32} {n o p : Nat} {v : Int32} (hk : lg_ok (S.2.1 19, A, B, C, 40, n)) (ho : o < 40) (e4 : ∀ k, k < n → S.2.1 20 ((o + k) % 40) = nI (A k) ∧ S.2.1 21 ((o + k) % 40) = B k ∧ S.2.1 22 ((o + k) % 40) = C k) (hne : ¬ S.2.1 19 p = v) : lgX_bec S (S.2.1 19, A, B, C, 40, n) p v (S.2.1 19 p) (lg_fin (vs_us (vs_us S 6 (nI ((o + 1) % 40))) 7 (nI 39)) (((o + 1) % 40 + 39) % 40) 39 p (S.2.1 19 p) v) := by
  obtain ⟨k1, k2, k3⟩ := hk
  refine ⟨rfl, ?_, lg_fin_fr ((vs_fr.rf.us (k := 6) (by decide)).us (k := 7) (by decide))⟩
  unfold lg_bec
  dsimp only
  rw [if_neg hne, if_pos rfl]
  refine ⟨rfl, rfl, rfl, (o + 1) % 40, Nat.mod_lt _ (by omega), rfl, fun k hk => ?_⟩
  show upd (S.2.1 20) (((o + 1) % 40 + 39) % 40) (nI p) (((o + 1) % 40 + k) % 40) = _ ∧ upd (S.2.1 21) (((o + 1) % 40 + 39) % 40) (S.2.1 19 p) (((o + 1) % 40 + k) % 40) = _ ∧ upd (S.2.1 22) (((o + 1) % 40 + 39) % 40) v (((o + 1) % 40 + k) % 40) = _
  unfold va_up
  by_cases e : k = 39
  · subst e
    rw [pk_us, pk_us, pk_us, if_pos rfl, if_pos rfl, if_pos rfl]
    exact ⟨rfl, rfl, rfl⟩
  · have hn : ((o + 1) % 40 + k) % 40 ≠ ((o + 1) % 40 + 39) % 40 := by omega
    rw [pk_un hn, pk_un hn, pk_un hn, if_neg e, if_neg e, if_neg e]
    rw [show ((o + 1) % 40 + k) % 40 = (o + (k + 1)) % 40 by omega]
    exact e4 (k + 1) (by omega)
/-- the reference's: the kept changes move down by one, up to j -/
def lg_sh {α : Type} (f : Nat → α) (j : Nat) : Nat → α := fun i => if i + 1 < j then f (i + 1) else f i
def lg_shS (S : vs_S) (j : Nat) : vs_S := vs_ua (vs_ua (vs_ua S 67 (lg_sh (S.2.1 67) j)) 68 (lg_sh (S.2.1 68) j)) 69 (lg_sh (S.2.1 69) j)
theorem lg_sh1 {f : Nat → Int32} {j : Nat} (h : 1 ≤ j) : upd (lg_sh f j) (j - 1) (lg_sh f j j) = lg_sh f (j + 1) := by
  funext i
  by_cases e : i = j - 1
  · subst e
    rw [pk_us]
    unfold lg_sh
    rw [if_neg (by omega), if_pos (by omega), Nat.sub_add_cancel h]
  · rw [pk_un e]
    unfold lg_sh
    by_cases e2 : i + 1 < j
    · rw [if_pos e2, if_pos (by omega)]
    · rw [if_neg e2, if_neg (by omega)]
theorem lg_sh0 {f : Nat → Int32} : lg_sh f 1 = f := by
  funext i
  unfold lg_sh
  rw [if_neg (by omega)]
theorem lg_shS1 {S : vs_S} : lg_shS S 1 = S := by
  unfold lg_shS
  rw [lg_sh0, lg_sh0, lg_sh0]
  obtain ⟨s, a, l⟩ := S
  unfold vs_ua
  simp only
  congr 1
  congr 1
  funext j
  split
  · next h => rw [h]
  · split
    · next h => rw [h]
    · split
      · next h => rw [h]
      · rfl
def lgM_fin (S : vs_S) (d p : Nat) (w v : Int32) : vs_S := vs_ua (vs_us (vs_us (vs_ua (vs_ua (vs_ua S 67 (upd (S.2.1 67) d (nI p))) 68 (upd (S.2.1 68) d w)) 69 (upd (S.2.1 69) d v)) 22 (nI (d + 1))) 21 (nI (d + 1))) 66 (upd (S.2.1 66) p v)
def lgM_bec (S : vs_S) (L : lg_L) (p : Nat) (v : Int32) : Int32 → vs_S → Prop := fun r S1 => r = S.2.1 66 p ∧ lg_M S1 (lg_bec L p v) ∧ vs_fr [21, 22] [66, 67, 68, 69] [] S S1
theorem lgM_fin_fr {S0 S : vs_S} {d p : Nat} {w v : Int32} (h : vs_fr [21, 22] [66, 67, 68, 69] [] S0 S) : vs_fr [21, 22] [66, 67, 68, 69] [] S0 (lgM_fin S d p w v) :=
  (((((h.ua (i := 67) (by decide)).ua (i := 68) (by decide)).ua (i := 69) (by decide)).us (k := 22) (by decide)).us (k := 21) (by decide)).ua (i := 66) (by decide)
theorem lgM_fin1 {S : vs_S} {A : Nat → Nat} {B C : Nat → Int32} {d n p : Nat} {v : Int32} (hk : lg_ok (S.2.1 66, A, B, C, d, n)) (e4 : ∀ k, k < n → S.2.1 67 k = nI (A k) ∧ S.2.1 68 k = B k ∧ S.2.1 69 k = C k) (hne : ¬ S.2.1 66 p = v) (hd : ¬ d = 40) : lgM_bec S (S.2.1 66, A, B, C, d, n) p v (S.2.1 66 p) (lgM_fin S d p (S.2.1 66 p) v) := by
  obtain ⟨k1, k2, k3⟩ := hk
  refine ⟨rfl, ?_, lgM_fin_fr vs_fr.rf⟩
  unfold lg_bec
  dsimp only
  rw [if_neg hne, if_neg hd]
  refine ⟨rfl, rfl, rfl, fun k hk => ?_⟩
  show upd (S.2.1 67) d (nI p) k = _ ∧ upd (S.2.1 68) d (S.2.1 66 p) k = _ ∧ upd (S.2.1 69) d v k = _
  unfold va_up
  by_cases e : k = d
  · subst e
    rw [pk_us, pk_us, pk_us, if_pos rfl, if_pos rfl, if_pos rfl]
    exact ⟨rfl, rfl, rfl⟩
  · rw [pk_un e, pk_un e, pk_un e, if_neg e, if_neg e, if_neg e]
    exact e4 k (by omega)
theorem lgM_fin2 {S : vs_S} {A : Nat → Nat} {B C : Nat → Int32} {n p : Nat} {v : Int32} (hk : lg_ok (S.2.1 66, A, B, C, 40, n)) (e4 : ∀ k, k < n → S.2.1 67 k = nI (A k) ∧ S.2.1 68 k = B k ∧ S.2.1 69 k = C k) (hne : ¬ S.2.1 66 p = v) : lgM_bec S (S.2.1 66, A, B, C, 40, n) p v (S.2.1 66 p) (lgM_fin (vs_us (lg_shS S 40) 22 (nI 39)) 39 p (S.2.1 66 p) v) := by
  obtain ⟨k1, k2, k3⟩ := hk
  refine ⟨rfl, ?_, lgM_fin_fr ((((vs_fr.rf.ua (i := 67) (by decide)).ua (i := 68) (by decide)).ua (i := 69) (by decide)).us (k := 22) (by decide))⟩
  unfold lg_bec
  dsimp only
  rw [if_neg hne, if_pos rfl]
  refine ⟨rfl, rfl, rfl, fun k hk => ?_⟩
  show upd (lg_sh (S.2.1 67) 40) 39 (nI p) k = _ ∧ upd (lg_sh (S.2.1 68) 40) 39 (S.2.1 66 p) k = _ ∧ upd (lg_sh (S.2.1 69) 40) 39 v k = _
  unfold va_up
  by_cases e : k = 39
  · subst e
    rw [pk_us, pk_us, pk_us, if_pos rfl, if_pos rfl, if_pos rfl]
    exact ⟨rfl, rfl, rfl⟩
  · rw [pk_un e, pk_un e, pk_un e, if_neg e, if_neg e, if_neg e]
    unfold lg_sh
    rw [if_pos (by omega), if_pos (by omega), if_pos (by omega)]
    exact e4 (k + 1) (by omega)

set_option maxRecDepth 20000 in
theorem c_X2_become (g : vv_G) (S : vs_S) (H : Nat → Int32) (A : Nat → Nat) (B C0 : Nat → Int32) (d n : Nat) (hL : lg_X S (H, A, B, C0, d, n)) (hk : lg_ok (H, A, B, C0, d, n)) (p : Nat) (hp : p < 96) (v : Int32) : vs_KI g yX2_become cX2_become 5 (some .int) 2 [vv_r g 18, .int (nI p), .int v] S (lgX_bec S (H, A, B, C0, d, n) p v) := by
  have hL0 := hL
  obtain ⟨e0, e1, e2, o, ho, e3, e4⟩ := hL
  have hk0 := hk
  obtain ⟨k1, k2, k3⟩ := hk
  subst e0
  have hpc : (nI p).toNatClampNeg = p := xn_cl (by omega)
  refine vs_ofI (lv := [_, _, _, _, _]) mb_X2_become (Nat.le_of_ble_eq_true rfl) rfl (fun x C F => ?_)
  have tail : ∀ (S2 : vs_S) (o2 d2 : Nat), o2 < 40 → d2 < 40 → S2.1 6 = nI o2 → S2.1 7 = nI d2 → lgX_bec S (S.2.1 19, A, B, C0, d, n) p v (S.2.1 19 p) (lg_fin S2 ((o2 + d2) % 40) d2 p (S.2.1 19 p) v) → vv_V g x 5 0 0 46 [some (vv_r g 18), some (.int (nI p)), some (.int v), some (.int (S.2.1 19 p)), none] [] (vs_cells g S2) := by
    intro S2 o2 d2 ho2 hd2 h6 h7 hP
    have hi : (o2 + d2) % 40 < 40 := Nat.mod_lt _ (by omega)
    generalize hie : (o2 + d2) % 40 = i at hi hP
    refine vv_aload_n C dX2_become_46 rfl ?_
    refine vs_caliF C dX2_become_47 (c_X2_behindDone g _) mb_X2_behindDone mv_X2_behindDone lk_X2_31 ce_18 rfl rfl rfl rfl ⟨Nat.le_of_ble_eq_true rfl, Nat.le_of_ble_eq_true rfl, Nat.le_of_ble_eq_true rfl⟩ ?_
    refine vs_eqi (v9 := nI i) (by rw [h6, h7, nI_add, xn_lit, xn_mod (by omega) (by omega), hie]) ?_
    refine vw_istore (lv9 := [_, _, _, _, _]) C dX2_become_50 (by decide) rfl rfl ?_
    refine vv_aload_n C dX2_become_52 rfl ?_
    refine gf_X2_place C dX2_become_53 fg_X2_15 ?_
    refine vv_iload C dX2_become_56 rfl ?_
    refine vv_iload_n C dX2_become_58 rfl ?_
    refine st_20 C dX2_become_59 (xn_in hi (by omega)) ?_
    refine vv_aload_n C dX2_become_60 rfl ?_
    refine gf_X2_before C dX2_become_61 fg_X2_18 ?_
    refine vv_iload C dX2_become_64 rfl ?_
    refine vv_iload_n C dX2_become_66 rfl ?_
    refine st_21 C dX2_become_67 (xn_in hi (by omega)) ?_
    refine vv_aload_n C dX2_become_68 rfl ?_
    refine gf_X2_after C dX2_become_69 fg_X2_21 ?_
    refine vv_iload C dX2_become_72 rfl ?_
    refine vv_iload_n C dX2_become_74 rfl ?_
    refine st_22 C dX2_become_75 (xn_in hi (by omega)) ?_
    refine vv_aload_n C dX2_become_76 rfl ?_
    refine vv_dup C dX2_become_77 rfl ?_
    refine gf_X2_done C dX2_become_78 fg_X2_24 ?_
    refine vs_eqi (v9 := nI d2) (h7) ?_
    refine vv_iconst C dX2_become_81 ic_1 ?_
    refine vv_iadd C dX2_become_82 ?_
    refine vs_eqi (v9 := nI (d2 + 1)) (nI_1 d2) ?_
    refine pf_X2_done C dX2_become_83 fp_X2_24 ?_
    refine vv_aload_n C dX2_become_86 rfl ?_
    refine vv_iconst C dX2_become_87 ic_0 ?_
    refine pf_X2_undone C dX2_become_88 fp_X2_35 ?_
    refine vv_aload_n C dX2_become_91 rfl ?_
    refine gf_X2_held C dX2_become_92 fg_X2_11 ?_
    refine vv_iload_n C dX2_become_95 rfl ?_
    refine vv_iload_n C dX2_become_96 rfl ?_
    refine st_19 C dX2_become_97 (xn_in hp (by omega)) ?_
    refine vs_eqS (S9 := lg_fin S2 i d2 p (S.2.1 19 p) v) (by rw [xn_cl (show i < 2 ^ 31 by omega), hpc]; rfl) ?_
    refine vv_iload_n C dX2_become_98 rfl ?_
    exact vs_iret C F dX2_become_99 rfl hP
  refine vv_aload_n C dX2_become_0 rfl ?_
  refine gf_X2_held C dX2_become_1 fg_X2_11 ?_
  refine vv_iload_n C dX2_become_4 rfl ?_
  refine ld_19 C dX2_become_5 (xn_in hp (by omega)) ?_
  refine vs_eqi (v9 := S.2.1 19 p) (by rw [hpc]) ?_
  refine vw_istore_n (lv9 := [_, _, _, _, _]) C dX2_become_6 (by decide) rfl rfl ?_
  refine vv_iload_n C dX2_become_7 rfl ?_
  refine vv_iload_n C dX2_become_8 rfl ?_
  refine vv_icmp_ne (tgt := 14) C dX2_become_9 (by decide) (fun q9 => ?_) (fun q9 => ?_)
  · refine vv_aload_n C dX2_become_14 rfl ?_
    refine gf_X2_done C dX2_become_15 fg_X2_24 ?_
    refine vv_bipush C dX2_become_18 bp_40 ?_
    refine vv_icmp_ne (tgt := 46) C dX2_become_20 (by decide) (fun q20 => ?_) (fun q20 => ?_)
    · exact tail S o d ho (by have : ¬ d = 40 := fun e => q20 (by rw [e1, e, xn_lit]); omega) e3 e1 (lg_fin1 hk0 ho e3 e4 (fun e => q9 e.symm) (fun e => q20 (by rw [e1, e, xn_lit])))
    · have hd : d = 40 := by rw [e1, xn_lit] at q20; exact (xn_eq (by omega) (by omega)).mp q20
      subst hd
      have e40 : S.1 7 = nI 40 := e1
      refine vv_aload_n C dX2_become_23 rfl ?_
      refine vv_aload_n C dX2_become_24 rfl ?_
      refine gf_X2_oldest C dX2_become_25 fg_X2_28 ?_
      refine vs_eqi (v9 := nI o) (e3) ?_
      refine vv_iconst C dX2_become_28 ic_1 ?_
      refine vv_iadd C dX2_become_29 ?_
      refine vv_bipush C dX2_become_30 bp_40 ?_
      refine vv_irem C dX2_become_32 (by decide) ?_
      refine vs_eqi (v9 := nI ((o + 1) % 40)) (by rw [nI_1, xn_lit, xn_mod (by omega) (by omega)]) ?_
      refine pf_X2_oldest C dX2_become_33 fp_X2_28 ?_
      refine vv_aload_n C dX2_become_36 rfl ?_
      refine vv_dup C dX2_become_37 rfl ?_
      refine gf_X2_done C dX2_become_38 fg_X2_24 ?_
      refine vs_eqi (v9 := nI 40) (e40) ?_
      refine vv_iconst C dX2_become_41 ic_1 ?_
      refine vv_isub C dX2_become_42 ?_
      refine vs_eqi (v9 := nI 39) (rfl) ?_
      refine pf_X2_done C dX2_become_43 fp_X2_24 ?_
      exact tail _ ((o + 1) % 40) 39 (Nat.mod_lt _ (by omega)) (by omega) rfl rfl (lg_fin2 hk0 ho e4 (fun e => q9 e.symm))
  · refine vv_iload_n C dX2_become_12 rfl ?_
    exact vs_iret C F dX2_become_13 rfl ⟨rfl, by rw [lg_bec, if_pos q9.symm]; exact hL0, vs_fr.rf⟩
set_option maxRecDepth 20000 in
theorem c_X2_takeBack (g : vv_G) (S : vs_S) (H : Nat → Int32) (A : Nat → Nat) (B C0 : Nat → Int32) (d n : Nat) (hL : lg_X S (H, A, B, C0, d, n)) (hk : lg_ok (H, A, B, C0, d, n)) : vs_KI g yX2_takeBack cX2_takeBack 1 (some .int) 2 [vv_r g 18] S (fun r S1 => r = (if d = 0 then -5 else nI (d - 1)) ∧ lg_X S1 (if d = 0 then (H, A, B, C0, d, n) else lg_und (H, A, B, C0, d, n)) ∧ vs_fr [6, 7, 8] [19, 20, 21, 22] [] S S1) := by
  have hL0 := hL
  obtain ⟨e0, e1, e2, o, ho, e3, e4⟩ := hL
  have hk0 := hk
  obtain ⟨k1, k2, k3⟩ := hk
  subst e0
  refine vs_ofI (lv := [_]) mb_X2_takeBack (Nat.le_of_ble_eq_true rfl) rfl (fun x C F => ?_)
  refine vv_aload_n C dX2_takeBack_0 rfl ?_
  refine gf_X2_done C dX2_takeBack_1 fg_X2_24 ?_
  refine vv_if_ne (tgt := 10) C dX2_takeBack_4 (by decide) (fun q4 => ?_) (fun q4 => ?_)
  · have hd : ¬ d = 0 := fun e => q4 (by rw [e1, e]; rfl)
    have hm : (o + (d - 1)) % 40 < 40 := Nat.mod_lt _ (by omega)
    obtain ⟨g1, g2, g3⟩ := e4 (d - 1) (by omega)
    have g4 := k3 (d - 1) (by omega)
    refine vv_aload_n C dX2_takeBack_10 rfl ?_
    refine vv_dup C dX2_takeBack_11 rfl ?_
    refine gf_X2_done C dX2_takeBack_12 fg_X2_24 ?_
    refine vs_eqi (v9 := nI d) (e1) ?_
    refine vv_iconst C dX2_takeBack_15 ic_1 ?_
    refine vv_isub C dX2_takeBack_16 ?_
    refine vs_eqi (v9 := nI (d - 1)) (by rw [xn_lit, xn_sub (by omega)]) ?_
    refine pf_X2_done C dX2_takeBack_17 fp_X2_24 ?_
    refine vv_aload_n C dX2_takeBack_20 rfl ?_
    refine vv_dup C dX2_takeBack_21 rfl ?_
    refine gf_X2_undone C dX2_takeBack_22 fg_X2_35 ?_
    refine vs_eqi (v9 := nI (n - d)) (e2) ?_
    refine vv_iconst C dX2_takeBack_25 ic_1 ?_
    refine vv_iadd C dX2_takeBack_26 ?_
    refine vs_eqi (v9 := nI (n - (d - 1))) (by rw [nI_1]; congr 1; omega) ?_
    refine pf_X2_undone C dX2_takeBack_27 fp_X2_35 ?_
    refine vv_aload_n C dX2_takeBack_30 rfl ?_
    refine gf_X2_held C dX2_takeBack_31 fg_X2_11 ?_
    refine vv_aload_n C dX2_takeBack_34 rfl ?_
    refine gf_X2_place C dX2_takeBack_35 fg_X2_15 ?_
    refine vv_aload_n C dX2_takeBack_38 rfl ?_
    refine vs_caliF C dX2_takeBack_39 (c_X2_behindDone g _) mb_X2_behindDone mv_X2_behindDone lk_X2_31 ce_18 rfl rfl rfl rfl ⟨Nat.le_of_ble_eq_true rfl, Nat.le_of_ble_eq_true rfl, Nat.le_of_ble_eq_true rfl⟩ ?_
    refine vs_eqi (v9 := nI ((o + (d - 1)) % 40)) (by show (S.1 6 + nI (d - 1)) % 40 = _; rw [e3, nI_add, xn_lit, xn_mod (by omega) (by omega)]) ?_
    refine ld_20 C dX2_takeBack_42 (xn_in hm (by omega)) ?_
    refine vs_eqi (v9 := nI (A (d - 1))) (by rw [xn_cl (by omega)]; exact g1) ?_
    refine vv_aload_n C dX2_takeBack_43 rfl ?_
    refine gf_X2_before C dX2_takeBack_44 fg_X2_18 ?_
    refine vv_aload_n C dX2_takeBack_47 rfl ?_
    refine vs_caliF C dX2_takeBack_48 (c_X2_behindDone g _) mb_X2_behindDone mv_X2_behindDone lk_X2_31 ce_18 rfl rfl rfl rfl ⟨Nat.le_of_ble_eq_true rfl, Nat.le_of_ble_eq_true rfl, Nat.le_of_ble_eq_true rfl⟩ ?_
    refine vs_eqi (v9 := nI ((o + (d - 1)) % 40)) (by show (S.1 6 + nI (d - 1)) % 40 = _; rw [e3, nI_add, xn_lit, xn_mod (by omega) (by omega)]) ?_
    refine ld_21 C dX2_takeBack_51 (xn_in hm (by omega)) ?_
    refine vs_eqi (v9 := B (d - 1)) (by rw [xn_cl (by omega)]; exact g2) ?_
    refine st_19 C dX2_takeBack_52 (xn_in g4 (by omega)) ?_
    refine vv_aload_n C dX2_takeBack_53 rfl ?_
    refine gf_X2_done C dX2_takeBack_54 fg_X2_24 ?_
    exact vs_iret C F dX2_takeBack_57 rfl ⟨by rw [if_neg hd]; rfl, by rw [if_neg hd]; exact ⟨by rw [xn_cl (by omega)]; rfl, rfl, rfl, o, ho, e3, e4⟩, ((vs_fr.rf.us (by decide)).us (by decide)).ua (by decide)⟩
  · have hd : d = 0 := by rw [e1] at q4; exact (xn_eq (by omega) (by omega)).mp q4
    refine vv_bipush C dX2_takeBack_7 bp_m5 ?_
    exact vs_iret C F dX2_takeBack_9 rfl ⟨by rw [if_pos hd], by rw [if_pos hd]; exact hL0, vs_fr.rf⟩
set_option maxRecDepth 20000 in
theorem c_X2_doAgain (g : vv_G) (S : vs_S) (H : Nat → Int32) (A : Nat → Nat) (B C0 : Nat → Int32) (d n : Nat) (hL : lg_X S (H, A, B, C0, d, n)) (hk : lg_ok (H, A, B, C0, d, n)) : vs_KI g yX2_doAgain cX2_doAgain 1 (some .int) 2 [vv_r g 18] S (fun r S1 => r = (if n = d then -5 else nI (n - (d + 1))) ∧ lg_X S1 (if n = d then (H, A, B, C0, d, n) else lg_red (H, A, B, C0, d, n)) ∧ vs_fr [6, 7, 8] [19, 20, 21, 22] [] S S1) := by
  have hL0 := hL
  obtain ⟨e0, e1, e2, o, ho, e3, e4⟩ := hL
  have hk0 := hk
  obtain ⟨k1, k2, k3⟩ := hk
  subst e0
  refine vs_ofI (lv := [_]) mb_X2_doAgain (Nat.le_of_ble_eq_true rfl) rfl (fun x C F => ?_)
  refine vv_aload_n C dX2_doAgain_0 rfl ?_
  refine gf_X2_undone C dX2_doAgain_1 fg_X2_35 ?_
  refine vv_if_ne (tgt := 10) C dX2_doAgain_4 (by decide) (fun q4 => ?_) (fun q4 => ?_)
  · have hd : ¬ n = d := fun e => q4 (by rw [e2, e, Nat.sub_self]; rfl)
    have hm : (o + d) % 40 < 40 := Nat.mod_lt _ (by omega)
    obtain ⟨g1, g2, g3⟩ := e4 d (by omega)
    have g4 := k3 d (by omega)
    refine vv_aload_n C dX2_doAgain_10 rfl ?_
    refine gf_X2_held C dX2_doAgain_11 fg_X2_11 ?_
    refine vv_aload_n C dX2_doAgain_14 rfl ?_
    refine gf_X2_place C dX2_doAgain_15 fg_X2_15 ?_
    refine vv_aload_n C dX2_doAgain_18 rfl ?_
    refine vs_caliF C dX2_doAgain_19 (c_X2_behindDone g _) mb_X2_behindDone mv_X2_behindDone lk_X2_31 ce_18 rfl rfl rfl rfl ⟨Nat.le_of_ble_eq_true rfl, Nat.le_of_ble_eq_true rfl, Nat.le_of_ble_eq_true rfl⟩ ?_
    refine vs_eqi (v9 := nI ((o + d) % 40)) (by rw [e3, e1, nI_add, xn_lit, xn_mod (by omega) (by omega)]) ?_
    refine ld_20 C dX2_doAgain_22 (xn_in hm (by omega)) ?_
    refine vs_eqi (v9 := nI (A d)) (by rw [xn_cl (by omega)]; exact g1) ?_
    refine vv_aload_n C dX2_doAgain_23 rfl ?_
    refine gf_X2_after C dX2_doAgain_24 fg_X2_21 ?_
    refine vv_aload_n C dX2_doAgain_27 rfl ?_
    refine vs_caliF C dX2_doAgain_28 (c_X2_behindDone g _) mb_X2_behindDone mv_X2_behindDone lk_X2_31 ce_18 rfl rfl rfl rfl ⟨Nat.le_of_ble_eq_true rfl, Nat.le_of_ble_eq_true rfl, Nat.le_of_ble_eq_true rfl⟩ ?_
    refine vs_eqi (v9 := nI ((o + d) % 40)) (by rw [e3, e1, nI_add, xn_lit, xn_mod (by omega) (by omega)]) ?_
    refine ld_22 C dX2_doAgain_31 (xn_in hm (by omega)) ?_
    refine vs_eqi (v9 := C0 d) (by rw [xn_cl (by omega)]; exact g3) ?_
    refine st_19 C dX2_doAgain_32 (xn_in g4 (by omega)) ?_
    refine vv_aload_n C dX2_doAgain_33 rfl ?_
    refine vv_dup C dX2_doAgain_34 rfl ?_
    refine gf_X2_done C dX2_doAgain_35 fg_X2_24 ?_
    refine vs_eqi (v9 := nI d) (e1) ?_
    refine vv_iconst C dX2_doAgain_38 ic_1 ?_
    refine vv_iadd C dX2_doAgain_39 ?_
    refine vs_eqi (v9 := nI (d + 1)) (nI_1 d) ?_
    refine pf_X2_done C dX2_doAgain_40 fp_X2_24 ?_
    refine vv_aload_n C dX2_doAgain_43 rfl ?_
    refine vv_dup C dX2_doAgain_44 rfl ?_
    refine gf_X2_undone C dX2_doAgain_45 fg_X2_35 ?_
    refine vs_eqi (v9 := nI (n - d)) (e2) ?_
    refine vv_iconst C dX2_doAgain_48 ic_1 ?_
    refine vv_isub C dX2_doAgain_49 ?_
    refine vs_eqi (v9 := nI (n - (d + 1))) (by rw [xn_lit, xn_sub (by omega)]; congr 1) ?_
    refine pf_X2_undone C dX2_doAgain_50 fp_X2_35 ?_
    refine vv_aload_n C dX2_doAgain_53 rfl ?_
    refine gf_X2_undone C dX2_doAgain_54 fg_X2_35 ?_
    exact vs_iret C F dX2_doAgain_57 rfl ⟨by rw [if_neg hd]; rfl, by rw [if_neg hd]; exact ⟨by rw [xn_cl (by omega)]; rfl, rfl, rfl, o, ho, e3, e4⟩, ((vs_fr.rf.ua (by decide)).us (by decide)).us (by decide)⟩
  · have hd : n = d := by rw [e2] at q4; have := (xn_eq (a := n - d) (b := 0) (by omega) (by omega)).mp q4; omega
    refine vv_bipush C dX2_doAgain_7 bp_m5 ?_
    exact vs_iret C F dX2_doAgain_9 rfl ⟨by rw [if_pos hd], by rw [if_pos hd]; exact hL0, vs_fr.rf⟩
theorem vs_ext {S T : vs_S} (h1 : ∀ k, S.1 k = T.1 k) (h2 : ∀ i, S.2.1 i = T.2.1 i) (h3 : ∀ j, S.2.2 j = T.2.2 j) : S = T := by
  obtain ⟨s, a, l⟩ := S
  obtain ⟨s', a', l'⟩ := T
  have e1 : s = s' := funext h1
  have e2 : a = a' := funext h2
  have e3 : l = l' := funext h3
  rw [e1, e2, e3]
theorem lg_shS2 {S : vs_S} {j t : Nat} (h1 : 1 ≤ j) (ht : t = j - 1) : vs_ua (vs_ua (vs_ua (lg_shS S j) 67 (upd (lg_sh (S.2.1 67) j) t (lg_sh (S.2.1 67) j j))) 68 (upd (lg_sh (S.2.1 68) j) t (lg_sh (S.2.1 68) j j))) 69 (upd (lg_sh (S.2.1 69) j) t (lg_sh (S.2.1 69) j j)) = lg_shS S (j + 1) := by
  subst ht
  rw [lg_sh1 h1, lg_sh1 h1, lg_sh1 h1]
  refine vs_ext (fun _ => rfl) (fun i => ?_) (fun _ => rfl)
  unfold lg_shS
  simp only [vs_ua2]
  split
  · rfl
  · split
    · rfl
    · split <;> rfl
set_option maxRecDepth 20000 in
theorem c_X12_becomes (g : vv_G) (S : vs_S) (H : Nat → Int32) (A : Nat → Nat) (B C0 : Nat → Int32) (d n : Nat) (hL : lg_M S (H, A, B, C0, d, n)) (hk : lg_ok (H, A, B, C0, d, n)) (p : Nat) (hp : p < 96) (v : Int32) : vs_KI g yX12_becomes cX12_becomes 5 (some .int) 1 [vv_r g 65, .int (nI p), .int v] S (lgM_bec S (H, A, B, C0, d, n) p v) := by
  have hL0 := hL
  obtain ⟨e0, e1, e2, e4⟩ := hL
  have hk0 := hk
  obtain ⟨k1, k2, k3⟩ := hk
  subst e0
  have hpc : (nI p).toNatClampNeg = p := xn_cl (by omega)
  refine vs_ofI (lv := [_, _, _, _, _]) mb_X12_becomes (Nat.le_of_ble_eq_true rfl) rfl (fun x C F => ?_)
  refine vv_aload_n C dX12_becomes_0 rfl ?_
  refine gf_X12_may C dX12_becomes_1 fg_X12_9 ?_
  refine vv_iload_n C dX12_becomes_4 rfl ?_
  refine ld_66 C dX12_becomes_5 (xn_in hp (by omega)) ?_
  refine vs_eqi (v9 := S.2.1 66 p) (by rw [hpc]) ?_
  refine vw_istore_n (lv9 := [_, _, _, _, _]) C dX12_becomes_6 (by decide) rfl rfl ?_
  refine vv_iload_n C dX12_becomes_7 rfl ?_
  refine vv_iload_n C dX12_becomes_8 rfl ?_
  refine vv_icmp_ne (tgt := 14) C dX12_becomes_9 (by decide) (fun q9 => ?_) (fun q9 => ?_)
  · have hne : ¬ S.2.1 66 p = v := q9
    have tail : ∀ (S2 : vs_S) (d2 : Nat) (w5 : Option Value), d2 < 40 → S2.1 22 = nI d2 → lgM_bec S (S.2.1 66, A, B, C0, d, n) p v (S.2.1 66 p) (lgM_fin S2 d2 p (S.2.1 66 p) v) → vv_V g x 5 0 0 97 [some (vv_r g 65), some (.int (nI p)), some (.int v), some (.int (S.2.1 66 p)), w5] [] (vs_cells g S2) := by
      intro S2 d2 w5 hd2 h7 hP
      refine vv_aload_n C dX12_becomes_97 rfl ?_
      refine gf_X12_changeAt C dX12_becomes_98 fg_X12_13 ?_
      refine vv_aload_n C dX12_becomes_101 rfl ?_
      refine gf_X12_done C dX12_becomes_102 fg_X12_84 ?_
      refine vs_eqi (v9 := nI d2) (h7) ?_
      refine vv_iload_n C dX12_becomes_105 rfl ?_
      refine st_67 C dX12_becomes_106 (xn_in hd2 (by omega)) ?_
      refine vv_aload_n C dX12_becomes_107 rfl ?_
      refine gf_X12_changeWas C dX12_becomes_108 fg_X12_16 ?_
      refine vv_aload_n C dX12_becomes_111 rfl ?_
      refine gf_X12_done C dX12_becomes_112 fg_X12_84 ?_
      refine vs_eqi (v9 := nI d2) (h7) ?_
      refine vv_iload_n C dX12_becomes_115 rfl ?_
      refine st_68 C dX12_becomes_116 (xn_in hd2 (by omega)) ?_
      refine vv_aload_n C dX12_becomes_117 rfl ?_
      refine gf_X12_changeIs C dX12_becomes_118 fg_X12_19 ?_
      refine vv_aload_n C dX12_becomes_121 rfl ?_
      refine gf_X12_done C dX12_becomes_122 fg_X12_84 ?_
      refine vs_eqi (v9 := nI d2) (h7) ?_
      refine vv_iload_n C dX12_becomes_125 rfl ?_
      refine st_69 C dX12_becomes_126 (xn_in hd2 (by omega)) ?_
      refine vv_aload_n C dX12_becomes_127 rfl ?_
      refine vv_dup C dX12_becomes_128 rfl ?_
      refine gf_X12_done C dX12_becomes_129 fg_X12_84 ?_
      refine vs_eqi (v9 := nI d2) (h7) ?_
      refine vv_iconst C dX12_becomes_132 ic_1 ?_
      refine vv_iadd C dX12_becomes_133 ?_
      refine vs_eqi (v9 := nI (d2 + 1)) (nI_1 d2) ?_
      refine pf_X12_done C dX12_becomes_134 fp_X12_84 ?_
      refine vv_aload_n C dX12_becomes_137 rfl ?_
      refine vv_aload_n C dX12_becomes_138 rfl ?_
      refine gf_X12_done C dX12_becomes_139 fg_X12_84 ?_
      refine pf_X12_keptMany C dX12_becomes_142 fp_X12_87 ?_
      refine vv_aload_n C dX12_becomes_145 rfl ?_
      refine gf_X12_may C dX12_becomes_146 fg_X12_9 ?_
      refine vv_iload_n C dX12_becomes_149 rfl ?_
      refine vv_iload_n C dX12_becomes_150 rfl ?_
      refine st_66 C dX12_becomes_151 (xn_in hp (by omega)) ?_
      refine vs_eqS (S9 := lgM_fin S2 d2 p (S.2.1 66 p) v) (by rw [xn_cl (show d2 < 2 ^ 31 by omega), hpc]; rfl) ?_
      refine vv_iload_n C dX12_becomes_152 rfl ?_
      exact vs_iret C F dX12_becomes_153 rfl hP
    have loop : d = 40 → ∀ (m j : Nat), j + m = 40 → 1 ≤ j → vv_V g x 5 0 0 26 [some (vv_r g 65), some (.int (nI p)), some (.int v), some (.int (S.2.1 66 p)), some (.int (nI j))] [] (vs_cells g (lg_shS S j)) := by
      intro hd m
      subst hd
      induction m with
      | zero =>
        intro j hj h1
        have hj2 : j = 40 := by omega
        subst hj2
        refine vv_iload C dX12_becomes_26 rfl ?_
        refine vv_bipush C dX12_becomes_28 bp_40 ?_
        refine vv_icmp_ge (tgt := 87) C dX12_becomes_30 (by decide) (fun q30 => ?_) (fun q30 => ?_)
        · refine vv_aload_n C dX12_becomes_87 rfl ?_
          refine vv_dup C dX12_becomes_88 rfl ?_
          refine gf_X12_done C dX12_becomes_89 fg_X12_84 ?_
          refine vs_eqi (v9 := nI 40) (e1) ?_
          refine vv_iconst C dX12_becomes_92 ic_1 ?_
          refine vv_isub C dX12_becomes_93 ?_
          refine vs_eqi (v9 := nI 39) (rfl) ?_
          refine pf_X12_done C dX12_becomes_94 fp_X12_84 ?_
          exact tail _ 39 _ (by omega) rfl (lgM_fin2 hk0 e4 (fun e => q9 e))
        · exact absurd (Int32.le_refl _) q30
      | succ m ih =>
        intro j hj h1
        refine vv_iload C dX12_becomes_26 rfl ?_
        refine vv_bipush C dX12_becomes_28 bp_40 ?_
        refine vv_icmp_ge (tgt := 87) C dX12_becomes_30 (by decide) (fun q30 => ?_) (fun q30 => ?_)
        · exact absurd q30 (by rw [xn_lit, xn_le (by omega) (by omega)]; omega)
        · refine vv_aload_n C dX12_becomes_33 rfl ?_
          refine gf_X12_changeAt C dX12_becomes_34 fg_X12_13 ?_
          refine vv_iload C dX12_becomes_37 rfl ?_
          refine vv_iconst C dX12_becomes_39 ic_1 ?_
          refine vv_isub C dX12_becomes_40 ?_
          refine vs_eqi (v9 := nI (j - 1)) (by rw [xn_lit, xn_sub h1]) ?_
          refine vv_aload_n C dX12_becomes_41 rfl ?_
          refine gf_X12_changeAt C dX12_becomes_42 fg_X12_13 ?_
          refine vv_iload C dX12_becomes_45 rfl ?_
          refine ld_67 C dX12_becomes_47 (xn_in (by omega) (by omega)) ?_
          refine vs_eqi (v9 := lg_sh (S.2.1 67) j j) (by rw [xn_cl (show j < 2 ^ 31 by omega)]; rfl) ?_
          refine st_67 C dX12_becomes_48 (xn_in (by omega) (by omega)) ?_
          refine vv_aload_n C dX12_becomes_49 rfl ?_
          refine gf_X12_changeWas C dX12_becomes_50 fg_X12_16 ?_
          refine vv_iload C dX12_becomes_53 rfl ?_
          refine vv_iconst C dX12_becomes_55 ic_1 ?_
          refine vv_isub C dX12_becomes_56 ?_
          refine vs_eqi (v9 := nI (j - 1)) (by rw [xn_lit, xn_sub h1]) ?_
          refine vv_aload_n C dX12_becomes_57 rfl ?_
          refine gf_X12_changeWas C dX12_becomes_58 fg_X12_16 ?_
          refine vv_iload C dX12_becomes_61 rfl ?_
          refine ld_68 C dX12_becomes_63 (xn_in (by omega) (by omega)) ?_
          refine vs_eqi (v9 := lg_sh (S.2.1 68) j j) (by rw [xn_cl (show j < 2 ^ 31 by omega)]; rfl) ?_
          refine st_68 C dX12_becomes_64 (xn_in (by omega) (by omega)) ?_
          refine vv_aload_n C dX12_becomes_65 rfl ?_
          refine gf_X12_changeIs C dX12_becomes_66 fg_X12_19 ?_
          refine vv_iload C dX12_becomes_69 rfl ?_
          refine vv_iconst C dX12_becomes_71 ic_1 ?_
          refine vv_isub C dX12_becomes_72 ?_
          refine vs_eqi (v9 := nI (j - 1)) (by rw [xn_lit, xn_sub h1]) ?_
          refine vv_aload_n C dX12_becomes_73 rfl ?_
          refine gf_X12_changeIs C dX12_becomes_74 fg_X12_19 ?_
          refine vv_iload C dX12_becomes_77 rfl ?_
          refine ld_69 C dX12_becomes_79 (xn_in (by omega) (by omega)) ?_
          refine vs_eqi (v9 := lg_sh (S.2.1 69) j j) (by rw [xn_cl (show j < 2 ^ 31 by omega)]; rfl) ?_
          refine st_69 C dX12_becomes_80 (xn_in (by omega) (by omega)) ?_
          refine vs_eqS (S9 := lg_shS S (j + 1)) (lg_shS2 h1 (xn_cl (by omega))) ?_
          refine vw_iinc (lv9 := [_, _, _, _, _]) C dX12_becomes_81 rfl ic_1 (by decide) rfl rfl ?_
          refine vv_goto (tgt := 26) C dX12_becomes_84 (by decide) ?_
          rw [nI_1]
          exact ih (j + 1) (by omega) (by omega)
    refine vv_aload_n C dX12_becomes_14 rfl ?_
    refine gf_X12_done C dX12_becomes_15 fg_X12_84 ?_
    refine vv_bipush C dX12_becomes_18 bp_40 ?_
    refine vv_icmp_ne (tgt := 97) C dX12_becomes_20 (by decide) (fun q20 => ?_) (fun q20 => ?_)
    · exact tail S d _ (by have : ¬ d = 40 := fun e => q20 (by rw [e1, e, xn_lit]); omega) e1 (lgM_fin1 hk0 e4 (fun e => q9 e) (fun e => q20 (by rw [e1, e, xn_lit])))
    · refine vv_iconst C dX12_becomes_23 ic_1 ?_
      refine vw_istore (lv9 := [_, _, _, _, _]) C dX12_becomes_24 (by decide) rfl rfl ?_
      have := loop (by rw [e1, xn_lit] at q20; exact (xn_eq (by omega) (by omega)).mp q20) 39 1 rfl (Nat.le_refl _)
      rw [lg_shS1] at this
      exact this
  · refine vv_iload_n C dX12_becomes_12 rfl ?_
    exact vs_iret C F dX12_becomes_13 rfl ⟨rfl, by rw [lg_bec, if_pos q9]; exact hL0, vs_fr.rf⟩
set_option maxRecDepth 20000 in
theorem c_X12_undo (g : vv_G) (S : vs_S) (H : Nat → Int32) (A : Nat → Nat) (B C0 : Nat → Int32) (d n : Nat) (hL : lg_M S (H, A, B, C0, d, n)) (hk : lg_ok (H, A, B, C0, d, n)) : vs_KI g yX12_undo cX12_undo 1 (some .int) 1 [vv_r g 65] S (fun r S1 => r = (if d = 0 then -5 else nI (d - 1)) ∧ lg_M S1 (if d = 0 then (H, A, B, C0, d, n) else lg_und (H, A, B, C0, d, n)) ∧ vs_fr [21, 22] [66, 67, 68, 69] [] S S1) := by
  have hL0 := hL
  obtain ⟨e0, e1, e2, e4⟩ := hL
  have hk0 := hk
  obtain ⟨k1, k2, k3⟩ := hk
  subst e0
  refine vs_ofI (lv := [_]) mb_X12_undo (Nat.le_of_ble_eq_true rfl) rfl (fun x C F => ?_)
  refine vv_aload_n C dX12_undo_0 rfl ?_
  refine gf_X12_done C dX12_undo_1 fg_X12_84 ?_
  refine vv_if_ne (tgt := 10) C dX12_undo_4 (by decide) (fun q4 => ?_) (fun q4 => ?_)
  · have hd : ¬ d = 0 := fun e => q4 (by rw [e1, e]; rfl)
    obtain ⟨g1, g2, g3⟩ := e4 (d - 1) (by omega)
    have g4 := k3 (d - 1) (by omega)
    refine vv_aload_n C dX12_undo_10 rfl ?_
    refine vv_dup C dX12_undo_11 rfl ?_
    refine gf_X12_done C dX12_undo_12 fg_X12_84 ?_
    refine vs_eqi (v9 := nI d) (e1) ?_
    refine vv_iconst C dX12_undo_15 ic_1 ?_
    refine vv_isub C dX12_undo_16 ?_
    refine vs_eqi (v9 := nI (d - 1)) (by rw [xn_lit, xn_sub (by omega)]) ?_
    refine pf_X12_done C dX12_undo_17 fp_X12_84 ?_
    refine vv_aload_n C dX12_undo_20 rfl ?_
    refine gf_X12_may C dX12_undo_21 fg_X12_9 ?_
    refine vv_aload_n C dX12_undo_24 rfl ?_
    refine gf_X12_changeAt C dX12_undo_25 fg_X12_13 ?_
    refine vv_aload_n C dX12_undo_28 rfl ?_
    refine gf_X12_done C dX12_undo_29 fg_X12_84 ?_
    refine ld_67 C dX12_undo_32 (xn_in (n := d - 1) (by omega) (by omega)) ?_
    refine vs_eqi (v9 := nI (A (d - 1))) (by show S.2.1 67 (nI (d - 1)).toNatClampNeg = _; rw [xn_cl (by omega)]; exact g1) ?_
    refine vv_aload_n C dX12_undo_33 rfl ?_
    refine gf_X12_changeWas C dX12_undo_34 fg_X12_16 ?_
    refine vv_aload_n C dX12_undo_37 rfl ?_
    refine gf_X12_done C dX12_undo_38 fg_X12_84 ?_
    refine ld_68 C dX12_undo_41 (xn_in (n := d - 1) (by omega) (by omega)) ?_
    refine vs_eqi (v9 := B (d - 1)) (by show S.2.1 68 (nI (d - 1)).toNatClampNeg = _; rw [xn_cl (by omega)]; exact g2) ?_
    refine st_66 C dX12_undo_42 (xn_in g4 (by omega)) ?_
    refine vv_aload_n C dX12_undo_43 rfl ?_
    refine gf_X12_done C dX12_undo_44 fg_X12_84 ?_
    exact vs_iret C F dX12_undo_47 rfl ⟨by rw [if_neg hd]; rfl, by rw [if_neg hd]; exact ⟨by rw [xn_cl (by omega)]; rfl, rfl, e2, e4⟩, (vs_fr.rf.us (by decide)).ua (by decide)⟩
  · have hd : d = 0 := by rw [e1] at q4; exact (xn_eq (by omega) (by omega)).mp q4
    refine vv_bipush C dX12_undo_7 bp_m5 ?_
    exact vs_iret C F dX12_undo_9 rfl ⟨by rw [if_pos hd], by rw [if_pos hd]; exact hL0, vs_fr.rf⟩
set_option maxRecDepth 20000 in
theorem c_X12_redo (g : vv_G) (S : vs_S) (H : Nat → Int32) (A : Nat → Nat) (B C0 : Nat → Int32) (d n : Nat) (hL : lg_M S (H, A, B, C0, d, n)) (hk : lg_ok (H, A, B, C0, d, n)) : vs_KI g yX12_redo cX12_redo 1 (some .int) 1 [vv_r g 65] S (fun r S1 => r = (if n = d then -5 else nI (n - (d + 1))) ∧ lg_M S1 (if n = d then (H, A, B, C0, d, n) else lg_red (H, A, B, C0, d, n)) ∧ vs_fr [21, 22] [66, 67, 68, 69] [] S S1) := by
  have hL0 := hL
  obtain ⟨e0, e1, e2, e4⟩ := hL
  have hk0 := hk
  obtain ⟨k1, k2, k3⟩ := hk
  subst e0
  refine vs_ofI (lv := [_]) mb_X12_redo (Nat.le_of_ble_eq_true rfl) rfl (fun x C F => ?_)
  refine vv_aload_n C dX12_redo_0 rfl ?_
  refine gf_X12_done C dX12_redo_1 fg_X12_84 ?_
  refine vv_aload_n C dX12_redo_4 rfl ?_
  refine gf_X12_keptMany C dX12_redo_5 fg_X12_87 ?_
  refine vv_icmp_ne (tgt := 14) C dX12_redo_8 (by decide) (fun q8 => ?_) (fun q8 => ?_)
  · have hd : ¬ n = d := fun e => q8 (by rw [e1, e2, e])
    obtain ⟨g1, g2, g3⟩ := e4 d (by omega)
    have g4 := k3 d (by omega)
    refine vv_aload_n C dX12_redo_14 rfl ?_
    refine gf_X12_may C dX12_redo_15 fg_X12_9 ?_
    refine vv_aload_n C dX12_redo_18 rfl ?_
    refine gf_X12_changeAt C dX12_redo_19 fg_X12_13 ?_
    refine vv_aload_n C dX12_redo_22 rfl ?_
    refine gf_X12_done C dX12_redo_23 fg_X12_84 ?_
    refine vs_eqi (v9 := nI d) (e1) ?_
    refine ld_67 C dX12_redo_26 (xn_in (n := d) (by omega) (by omega)) ?_
    refine vs_eqi (v9 := nI (A d)) (by rw [xn_cl (by omega)]; exact g1) ?_
    refine vv_aload_n C dX12_redo_27 rfl ?_
    refine gf_X12_changeIs C dX12_redo_28 fg_X12_19 ?_
    refine vv_aload_n C dX12_redo_31 rfl ?_
    refine gf_X12_done C dX12_redo_32 fg_X12_84 ?_
    refine vs_eqi (v9 := nI d) (e1) ?_
    refine ld_69 C dX12_redo_35 (xn_in (n := d) (by omega) (by omega)) ?_
    refine vs_eqi (v9 := C0 d) (by rw [xn_cl (by omega)]; exact g3) ?_
    refine st_66 C dX12_redo_36 (xn_in g4 (by omega)) ?_
    refine vv_aload_n C dX12_redo_37 rfl ?_
    refine vv_dup C dX12_redo_38 rfl ?_
    refine gf_X12_done C dX12_redo_39 fg_X12_84 ?_
    refine vs_eqi (v9 := nI d) (e1) ?_
    refine vv_iconst C dX12_redo_42 ic_1 ?_
    refine vv_iadd C dX12_redo_43 ?_
    refine vs_eqi (v9 := nI (d + 1)) (nI_1 d) ?_
    refine pf_X12_done C dX12_redo_44 fp_X12_84 ?_
    refine vv_aload_n C dX12_redo_47 rfl ?_
    refine gf_X12_keptMany C dX12_redo_48 fg_X12_87 ?_
    refine vs_eqi (v9 := nI n) (e2) ?_
    refine vv_aload_n C dX12_redo_51 rfl ?_
    refine gf_X12_done C dX12_redo_52 fg_X12_84 ?_
    refine vv_isub C dX12_redo_55 ?_
    refine vs_eqi (v9 := nI (n - (d + 1))) (by show nI n - nI (d + 1) = _; rw [xn_sub (by omega)]) ?_
    exact vs_iret C F dX12_redo_56 rfl ⟨by rw [if_neg hd], by rw [if_neg hd]; exact ⟨by rw [xn_cl (by omega)]; rfl, rfl, e2, e4⟩, (vs_fr.rf.ua (by decide)).us (by decide)⟩
  · have hd : n = d := by rw [e1, e2] at q8; have := (xn_eq (by omega) (by omega)).mp q8; omega
    refine vv_bipush C dX12_redo_11 bp_m5 ?_
    exact vs_iret C F dX12_redo_13 rfl ⟨by rw [if_pos hd], by rw [if_pos hd]; exact hL0, vs_fr.rf⟩
