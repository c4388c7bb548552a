/-! READING of the reference: it works out as it reads -/
def iX (S : vs_S) (L : Nat) (B : Nat → Int32) (N : Nat → Int32) : Prop := S.1 31 = nI L ∧ L ≤ 120 ∧ ((S.1 29 = -1 ∧ ∀ i, i < L → S.2.1 76 i = B i) ∨ (S.1 29 = 0 ∧ ∀ i, i < L → S.2.1 77 i = B i)) ∧ S.2.1 78 = N
theorem iX.fr {S S1 : vs_S} {L : Nat} {B N : Nat → Int32} (h : iX S L B N) (f : vs_fr [30, 32, 33] [] [] S S1) : iX S1 L B N := by
  obtain ⟨h1, h2, h3, h4⟩ := h
  refine ⟨(f.1 31 (by decide)).trans h1, h2, ?_, (f.2.1 78 (by decide)).trans h4⟩
  rcases h3 with ⟨a, b⟩ | ⟨a, b⟩
  · exact Or.inl ⟨(f.1 29 (by decide)).trans a, fun i hi => by rw [f.2.1 76 (by decide)]; exact b i hi⟩
  · exact Or.inr ⟨(f.1 29 (by decide)).trans a, fun i hi => by rw [f.2.1 77 (by decide)]; exact b i hi⟩
def qX (S : vs_S) (p r : Nat) : Prop := S.1 30 = nI p ∧ S.1 32 = -1 ∧ S.1 33 = nI (6 - r)
def zX (S S1 : vs_S) (t : pT) : Prop := vs_fr [30, 32, 33] [] [] S S1 ∧ S1.1 30 = nI t.2.1 ∧ (t.1 = true → S1.1 32 = -1 ∧ S1.1 33 = S.1 33) ∧ (¬ t.1 = true → S1.1 32 = nI t.2.1)
def RdM (g : vv_G) (y : MethodName) (cc : ByteArray) (nL : Nat) (T : (Nat → Int32) → Nat → pT) (r d : Nat) : Prop := ∀ (S : vs_S) (L : Nat) (B N : Nat → Int32), iX S L B N → ∀ (p : Nat), p ≤ L → qX S p r → vs_KI g y cc nL (some .int) d [vv_r g 65] S (fun v S1 => zX S S1 (T (ab L B) p) ∧ ((T (ab L B) p).1 = true → v = (T (ab L B) p).2.2.2 N))
theorem tk4 {b : Int32} (h : tkR b = 4) : b = 37 ∨ b = 42 ∨ b = 47 := by
  rcases tkR_b (k := 4) (by omega) h with e | e | e | e | e | e | e | e | e | e <;> subst e <;> first | exact absurd h (by decide) | simp
theorem tk3 {b : Int32} (h : tkR b = 3) : b = 43 ∨ b = 45 := by
  rcases tkR_b (k := 3) (by omega) h with e | e | e | e | e | e | e | e | e | e <;> subst e <;> first | exact absurd h (by decide) | simp
theorem tk2 {b : Int32} (h : tkR b = 2) : b = 60 ∨ b = 61 ∨ b = 62 := by
  rcases tkR_b (k := 2) (by omega) h with e | e | e | e | e | e | e | e | e | e <;> subst e <;> first | exact absurd h (by decide) | simp
theorem tk1 {b : Int32} (h : tkR b = 1) : b = 38 := by
  rcases tkR_b (k := 1) (by omega) h with e | e | e | e | e | e | e | e | e | e <;> subst e <;> first | exact absurd h (by decide) | simp
theorem tk0 {b : Int32} (h : tkR b = 0) : b = 124 := by
  rcases tkR_b (k := 0) (by omega) h with e | e | e | e | e | e | e | e | e | e <;> subst e <;> first | exact absurd h (by decide) | simp
theorem pOk_M {L : Nat} {B : Nat → Int32} (r j p : Nat) (hp : p ≤ L) : pOk L p (pzR (pzO (ab L B) r) (ab L B) j p) := pOk_R ab_bl (pOk_O ab_bl r) j p hp
theorem pOk_Mo {L : Nat} {B : Nat → Int32} (r p : Nat) (hp : p ≤ L) : pOk L p (pzO (ab L B) r p) := pOk_O ab_bl r p hp

set_option maxRecDepth 20000 in
theorem c_X12_byteAt (g : vv_G) (S : vs_S) (L : Nat) (B N : Nat → Int32) (hI : iX S L B N) (p : Nat) (hp : p ≤ L) (h30 : S.1 30 = nI p) : vs_FI g yX12_byteAt cX12_byteAt 1 (some .int) 1 [vv_r g 65] S (ab L B p) S := by
  have hL := hI.2.1
  refine vs_ofI (lv := [_]) mb_X12_byteAt (Nat.le_of_ble_eq_true rfl) rfl (fun x C F => ?_)
  refine vv_aload_n C dX12_byteAt_0 rfl ?_
  refine gf_X12_at C dX12_byteAt_1 fg_X12_210 ?_
  refine vs_eqi (v9 := nI p) (h30) ?_
  refine vv_aload_n C dX12_byteAt_4 rfl ?_
  refine gf_X12_ends C dX12_byteAt_5 fg_X12_213 ?_
  refine vs_eqi (v9 := nI L) (hI.1) ?_
  refine vv_icmp_ge (tgt := 47) C dX12_byteAt_8 (by decide) (fun q8 => ?_) (fun q8 => ?_)
  · have hlt : ¬ p < L := by rw [xn_le (by omega) (by omega)] at q8; omega
    refine vv_iconst C dX12_byteAt_47 ic_0 ?_
    first
    | exact vs_iret C F dX12_byteAt_48 rfl ⟨rfl, rfl⟩
    | exact vs_iret C F dX12_byteAt_48 rfl ⟨by unfold ab; rw [if_neg hlt], rfl⟩
  · have hlt : p < L := by rw [xn_le (by omega) (by omega)] at q8; omega
    refine vv_aload_n C dX12_byteAt_11 rfl ?_
    refine gf_X12_base C dX12_byteAt_12 fg_X12_216 ?_
    refine vv_if_ge (tgt := 30) C dX12_byteAt_15 (by decide) (fun q15 => ?_) (fun q15 => ?_)
    · obtain ⟨hz, ha⟩ := hI.2.2.1.resolve_left (fun z => by rw [z.1] at q15; exact absurd q15 (by decide))
      refine vv_aload_n C dX12_byteAt_30 rfl ?_
      refine gf_X12_text C dX12_byteAt_31 fg_X12_47 ?_
      refine vv_aload_n C dX12_byteAt_34 rfl ?_
      refine gf_X12_base C dX12_byteAt_35 fg_X12_216 ?_
      refine vs_eqi (v9 := 0) (hz) ?_
      refine vv_aload_n C dX12_byteAt_38 rfl ?_
      refine gf_X12_at C dX12_byteAt_39 fg_X12_210 ?_
      refine vs_eqi (v9 := nI p) (h30) ?_
      refine vv_iadd C dX12_byteAt_42 ?_
      refine vs_eqi (v9 := nI p) (Int32.zero_add _) ?_
      refine ld_77 C dX12_byteAt_43 (xn_in (by omega) (by omega)) ?_
      refine vs_eqi (v9 := ab L B p) (by rw [xn_cl (by omega)]; unfold ab; rw [if_pos hlt]; exact ha p hlt) ?_
      refine vv_goto (tgt := 48) C dX12_byteAt_44 (by decide) ?_
      first
      | exact vs_iret C F dX12_byteAt_48 rfl ⟨rfl, rfl⟩
      | exact vs_iret C F dX12_byteAt_48 rfl ⟨by unfold ab; rw [if_neg hlt], rfl⟩
    · obtain ⟨hz, ha⟩ := hI.2.2.1.resolve_right (fun z => by rw [z.1] at q15; exact q15 (by decide))
      refine vv_aload_n C dX12_byteAt_18 rfl ?_
      refine gf_X12_tape C dX12_byteAt_19 fg_X12_44 ?_
      refine vv_aload_n C dX12_byteAt_22 rfl ?_
      refine gf_X12_at C dX12_byteAt_23 fg_X12_210 ?_
      refine vs_eqi (v9 := nI p) (h30) ?_
      refine ld_76 C dX12_byteAt_26 (xn_in (by omega) (by omega)) ?_
      refine vs_eqi (v9 := ab L B p) (by rw [xn_cl (by omega)]; unfold ab; rw [if_pos hlt]; exact ha p hlt) ?_
      refine vv_goto (tgt := 48) C dX12_byteAt_27 (by decide) ?_
      first
      | exact vs_iret C F dX12_byteAt_48 rfl ⟨rfl, rfl⟩
      | exact vs_iret C F dX12_byteAt_48 rfl ⟨by unfold ab; rw [if_neg hlt], rfl⟩
set_option maxRecDepth 20000 in
theorem c_X12_wrongN (g : vv_G) (S : vs_S) (h32 : S.1 32 = -1) : vs_FI g yX12_wrong cX12_wrong 1 (some .int) 1 [vv_r g 65] S 0 (vs_us S 32 (S.1 30)) := by
  refine vs_ofI (lv := [_]) mb_X12_wrong (Nat.le_of_ble_eq_true rfl) rfl (fun x C F => ?_)
  refine vv_aload_n C dX12_wrong_0 rfl ?_
  refine vv_aload_n C dX12_wrong_1 rfl ?_
  refine gf_X12_fault C dX12_wrong_2 fg_X12_219 ?_
  refine vv_if_ge (tgt := 15) C dX12_wrong_5 (by decide) (fun q5 => ?_) (fun q5 => ?_)
  · exact absurd (show (0 : Int32) ≤ -1 by rw [← h32]; exact q5) (by decide)
  · skip
    refine vv_aload_n C dX12_wrong_8 rfl ?_
    refine gf_X12_at C dX12_wrong_9 fg_X12_210 ?_
    refine vv_goto (tgt := 19) C dX12_wrong_12 (by decide) ?_
    refine pf_X12_fault C dX12_wrong_19 fp_X12_219 ?_
    refine vv_iconst C dX12_wrong_22 ic_0 ?_
    exact vs_iret C F dX12_wrong_23 rfl ⟨rfl, rfl⟩
set_option maxRecDepth 20000 in
theorem c_X12_wrongY (g : vv_G) (S : vs_S) (k : Nat) (hk : k < 2 ^ 31) (h32 : S.1 32 = nI k) : vs_FI g yX12_wrong cX12_wrong 1 (some .int) 1 [vv_r g 65] S 0 (vs_us S 32 (nI k)) := by
  refine vs_ofI (lv := [_]) mb_X12_wrong (Nat.le_of_ble_eq_true rfl) rfl (fun x C F => ?_)
  refine vv_aload_n C dX12_wrong_0 rfl ?_
  refine vv_aload_n C dX12_wrong_1 rfl ?_
  refine gf_X12_fault C dX12_wrong_2 fg_X12_219 ?_
  refine vv_if_ge (tgt := 15) C dX12_wrong_5 (by decide) (fun q5 => ?_) (fun q5 => ?_)
  · skip
    refine vv_aload_n C dX12_wrong_15 rfl ?_
    refine gf_X12_fault C dX12_wrong_16 fg_X12_219 ?_
    refine vs_eqi (v9 := nI k) (h32) ?_
    refine pf_X12_fault C dX12_wrong_19 fp_X12_219 ?_
    refine vv_iconst C dX12_wrong_22 ic_0 ?_
    exact vs_iret C F dX12_wrong_23 rfl ⟨rfl, rfl⟩
  · exact absurd (by rw [h32]; exact nI_pos' hk) q5
set_option maxRecDepth 20000 in
theorem c_X12_takesY (g : vv_G) (S : vs_S) (L : Nat) (B N : Nat → Int32) (hI : iX S L B N) (p : Nat) (hp : p ≤ L) (h30 : S.1 30 = nI p) (h32 : S.1 32 = -1) (k : Int32) (hk : ab L B p = k) : vs_FI g yX12_takes cX12_takes 2 (some .boolean) 2 [vv_r g 65, .int k] S (vs_b true) (vs_us S 30 (nI (p + 1))) := by
  have hL := hI.2.1
  refine vs_ofI (lv := [_, _]) mb_X12_takes (Nat.le_of_ble_eq_true rfl) rfl (fun x C F => ?_)
  refine vv_aload_n C dX12_takes_0 rfl ?_
  refine gf_X12_fault C dX12_takes_1 fg_X12_219 ?_
  refine vv_if_ge (tgt := 15) C dX12_takes_4 (by decide) (fun q4 => ?_) (fun q4 => ?_)
  · exact absurd (show (0 : Int32) ≤ -1 by rw [← h32]; exact q4) (by decide)
  · skip
    refine vv_aload_n C dX12_takes_7 rfl ?_
    refine vs_caliF C dX12_takes_8 (c_X12_byteAt g S L B N hI p hp h30) mb_X12_byteAt mv_X12_byteAt lk_X12_222 ce_65 rfl rfl rfl rfl ⟨Nat.le_of_ble_eq_true rfl, Nat.le_of_ble_eq_true rfl, Nat.le_of_ble_eq_true rfl⟩ ?_
    refine vv_iload_n C dX12_takes_11 rfl ?_
    refine vv_icmp_eq (tgt := 17) C dX12_takes_12 (by decide) (fun q12 => ?_) (fun q12 => ?_)
    · skip
      refine vv_aload_n C dX12_takes_17 rfl ?_
      refine vv_dup C dX12_takes_18 rfl ?_
      refine gf_X12_at C dX12_takes_19 fg_X12_210 ?_
      refine vs_eqi (v9 := nI p) (h30) ?_
      refine vv_iconst C dX12_takes_22 ic_1 ?_
      refine vv_iadd C dX12_takes_23 ?_
      refine vs_eqi (v9 := nI (p + 1)) (nI_1 _) ?_
      refine pf_X12_at C dX12_takes_24 fp_X12_210 ?_
      refine vv_iconst C dX12_takes_27 ic_1 ?_
      exact vs_zret C F dX12_takes_28 rfl rfl ⟨rfl, rfl⟩
    · exact absurd hk q12
set_option maxRecDepth 20000 in
theorem c_X12_takesN (g : vv_G) (S : vs_S) (L : Nat) (B N : Nat → Int32) (hI : iX S L B N) (p : Nat) (hp : p ≤ L) (h30 : S.1 30 = nI p) (k : Int32) (hk : ¬ (S.1 32 = -1 ∧ ab L B p = k)) (h32 : S.1 32 = -1 ∨ 0 ≤ S.1 32) : vs_FI g yX12_takes cX12_takes 2 (some .boolean) 2 [vv_r g 65, .int k] S (vs_b false) S := by
  have hL := hI.2.1
  refine vs_ofI (lv := [_, _]) mb_X12_takes (Nat.le_of_ble_eq_true rfl) rfl (fun x C F => ?_)
  refine vv_aload_n C dX12_takes_0 rfl ?_
  refine gf_X12_fault C dX12_takes_1 fg_X12_219 ?_
  refine vv_if_ge (tgt := 15) C dX12_takes_4 (by decide) (fun q4 => ?_) (fun q4 => ?_)
  · skip
    refine vv_iconst C dX12_takes_15 ic_0 ?_
    exact vs_zret C F dX12_takes_16 rfl rfl ⟨rfl, rfl⟩
  · have h17 : S.1 32 = -1 := h32.resolve_right q4
    refine vv_aload_n C dX12_takes_7 rfl ?_
    refine vs_caliF C dX12_takes_8 (c_X12_byteAt g S L B N hI p hp h30) mb_X12_byteAt mv_X12_byteAt lk_X12_222 ce_65 rfl rfl rfl rfl ⟨Nat.le_of_ble_eq_true rfl, Nat.le_of_ble_eq_true rfl, Nat.le_of_ble_eq_true rfl⟩ ?_
    refine vv_iload_n C dX12_takes_11 rfl ?_
    refine vv_icmp_eq (tgt := 17) C dX12_takes_12 (by decide) (fun q12 => ?_) (fun q12 => ?_)
    · exact absurd ⟨h17, q12⟩ hk
    · skip
      refine vv_iconst C dX12_takes_15 ic_0 ?_
      exact vs_zret C F dX12_takes_16 rfl rfl ⟨rfl, rfl⟩
set_option maxRecDepth 20000 in
theorem c_X12_nameOf (g : vv_G) (S : vs_S) (b : Int32) : vs_FI g yX12_nameOf cX12_nameOf 1 (some .int) 1 [.int b] S (if tkN b < 5 then nI (tkN b) else -1) S := by
  refine vs_ofI (lv := [_]) mb_X12_nameOf (Nat.le_of_ble_eq_true rfl) rfl (fun x C F => ?_)
  refine vv_iload_n C dX12_nameOf_0 rfl ?_
  by_cases h112 : b = 112
  · subst h112
    refine vv_tableIn (tgt := 72) (off := 71) C dX12_nameOf_1 (by decide +kernel) (by decide +kernel) (by decide +kernel) (by decide) ?_
    refine vv_iconst C dX12_nameOf_72 ic_0 ?_
    exact vs_iret C F dX12_nameOf_73 rfl ⟨rfl, rfl⟩
  by_cases h103 : b = 103
  · subst h103
    refine vv_tableIn (tgt := 74) (off := 73) C dX12_nameOf_1 (by decide +kernel) (by decide +kernel) (by decide +kernel) (by decide) ?_
    refine vv_iconst C dX12_nameOf_74 ic_1 ?_
    exact vs_iret C F dX12_nameOf_75 rfl ⟨rfl, rfl⟩
  by_cases h110 : b = 110
  · subst h110
    refine vv_tableIn (tgt := 76) (off := 75) C dX12_nameOf_1 (by decide +kernel) (by decide +kernel) (by decide +kernel) (by decide) ?_
    refine vv_iconst C dX12_nameOf_76 ic_2 ?_
    exact vs_iret C F dX12_nameOf_77 rfl ⟨rfl, rfl⟩
  by_cases h116 : b = 116
  · subst h116
    refine vv_tableIn (tgt := 78) (off := 77) C dX12_nameOf_1 (by decide +kernel) (by decide +kernel) (by decide +kernel) (by decide) ?_
    refine vv_iconst C dX12_nameOf_78 ic_3 ?_
    exact vs_iret C F dX12_nameOf_79 rfl ⟨rfl, rfl⟩
  by_cases h104 : b = 104
  · subst h104
    refine vv_tableIn (tgt := 80) (off := 79) C dX12_nameOf_1 (by decide +kernel) (by decide +kernel) (by decide +kernel) (by decide) ?_
    refine vv_iconst C dX12_nameOf_80 ic_4 ?_
    exact vs_iret C F dX12_nameOf_81 rfl ⟨rfl, rfl⟩
  have hv : (-1 : Int32) = if tkN b < 5 then nI (tkN b) else -1 := by
    rw [if_neg]
    unfold tkN
    rw [if_neg h112, if_neg h103, if_neg h110, if_neg h116, if_neg h104]
    omega
  by_cases hin : 103 ≤ b.toInt ∧ b.toInt ≤ 116
  · have e9 : b.toInt = 105 ∨ b.toInt = 106 ∨ b.toInt = 107 ∨ b.toInt = 108 ∨ b.toInt = 109 ∨ b.toInt = 111 ∨ b.toInt = 113 ∨ b.toInt = 114 ∨ b.toInt = 115 := by
      have a1 : b.toInt ≠ 112 := fun z => h112 (Int32.toInt_inj.mp z)
      have a2 : b.toInt ≠ 103 := fun z => h103 (Int32.toInt_inj.mp z)
      have a3 : b.toInt ≠ 110 := fun z => h110 (Int32.toInt_inj.mp z)
      have a4 : b.toInt ≠ 116 := fun z => h116 (Int32.toInt_inj.mp z)
      have a5 : b.toInt ≠ 104 := fun z => h104 (Int32.toInt_inj.mp z)
      omega
    refine vv_tableIn (tgt := 82) (off := 81) C dX12_nameOf_1 (by omega) (by omega) (by rcases e9 with e | e | e | e | e | e | e | e | e <;> rw [e] <;> decide) (by decide) ?_
    refine vv_iconst C dX12_nameOf_82 ic_m1 ?_
    exact vs_iret C F dX12_nameOf_83 rfl ⟨hv, rfl⟩
  · refine vv_tableOut (tgt := 82) C dX12_nameOf_1 (by omega) (by decide) ?_
    refine vv_iconst C dX12_nameOf_82 ic_m1 ?_
    exact vs_iret C F dX12_nameOf_83 rfl ⟨hv, rfl⟩
