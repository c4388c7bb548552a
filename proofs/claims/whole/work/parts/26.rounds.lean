/-! ROUNDS: the ledger's values in their bounds -/
def lg_vr (p : Nat) (v : Int32) : Prop := ∃ m : Nat, v = nI m ∧ m ≤ 9999 ∧ (p < 64 → p % 9 = 0 → m = 0) ∧ (64 ≤ p → m ≤ 999) ∧ (80 ≤ p → m ≤ 9)
def lg_in (L : lg_L) : Prop := match L with
  | (H, A, B, C, _, n) => (∀ p, p < 96 → lg_vr p (H p)) ∧ ∀ k, k < n → lg_vr (A k) (B k) ∧ lg_vr (A k) (C k)
theorem lg_updin {H : Nat → Int32} {q : Nat} {v : Int32} (h : ∀ p, p < 96 → lg_vr p (H p)) (hv : lg_vr q v) : ∀ p, p < 96 → lg_vr p (upd H q v p) := by
  intro p hp
  rw [xn_upd (α := Nat)]
  split
  · next e => rw [e]; exact hv
  · exact h p hp
theorem lg_bec_in {L : lg_L} {p : Nat} {v : Int32} (h : lg_in L) (hk : lg_ok L) (hp : p < 96) (hv : lg_vr p v) : lg_in (lg_bec L p v) := by
  obtain ⟨H, A, B, C, d, n⟩ := L
  have h0 := h
  obtain ⟨h1, h2⟩ := h
  obtain ⟨k1, k2, k3⟩ := hk
  unfold lg_bec
  dsimp only
  split
  · exact h0
  · split
    · refine ⟨lg_updin h1 hv, fun k hk => ?_⟩
      unfold va_up
      by_cases e : k = 39
      · rw [if_pos e, if_pos e, if_pos e]; exact ⟨h1 p hp, hv⟩
      · rw [if_neg e, if_neg e, if_neg e]; exact h2 _ (by omega)
    · refine ⟨lg_updin h1 hv, fun k hk => ?_⟩
      unfold va_up
      by_cases e : k = d
      · rw [if_pos e, if_pos e, if_pos e]; exact ⟨h1 p hp, hv⟩
      · rw [if_neg e, if_neg e, if_neg e]; exact h2 _ (by omega)
theorem lg_und_in {L : lg_L} (h : lg_in L) (hk : lg_ok L) (hd : ¬ L.2.2.2.2.1 = 0) : lg_in (lg_und L) := by
  obtain ⟨H, A, B, C, d, n⟩ := L
  obtain ⟨h1, h2⟩ := h
  obtain ⟨k1, k2, k3⟩ := hk
  have hd' : ¬ d = 0 := hd
  exact ⟨lg_updin h1 (h2 (d - 1) (by omega)).1, h2⟩
theorem lg_red_in {L : lg_L} (h : lg_in L) (hk : lg_ok L) (hd : L.2.2.2.2.1 < L.2.2.2.2.2) : lg_in (lg_red L) := by
  obtain ⟨H, A, B, C, d, n⟩ := L
  obtain ⟨h1, h2⟩ := h
  have hd' : d < n := hd
  exact ⟨lg_updin h1 (h2 d hd').2, h2⟩
theorem lg_bec_H {L : lg_L} {p : Nat} {v : Int32} (j : Nat) : (lg_bec L p v).1 j = if j = p then v else L.1 j := by
  obtain ⟨H, A, B, C, d, n⟩ := L
  unfold lg_bec
  dsimp only
  split
  · next e =>
    show H j = _
    by_cases q : j = p
    · rw [if_pos q, q]; exact e
    · rw [if_neg q]
  · split
    · exact xn_upd (α := Nat)
    · exact xn_upd (α := Nat)
def lgD (L : lg_L) (p : Nat) : Nat := (L.1 p).toNatClampNeg
theorem lg_inD {L : lg_L} (h : lg_in L) {p : Nat} (hp : p < 96) : L.1 p = nI (lgD L p) ∧ lgD L p ≤ 9999 ∧ (p < 64 → p % 9 = 0 → lgD L p = 0) ∧ (64 ≤ p → lgD L p ≤ 999) ∧ (80 ≤ p → lgD L p ≤ 9) := by
  obtain ⟨H, A, B, C, d, n⟩ := L
  obtain ⟨m, h1, h2, h3, h4, h5⟩ := h.1 p hp
  have e : lgD (H, A, B, C, d, n) p = m := by
    show (H p).toNatClampNeg = m
    rw [h1, xn_cl (by omega)]
  rw [e]
  exact ⟨h1, h2, h3, h4, h5⟩
theorem lg_X_fr {ks is js : List Nat} {S S1 : vs_S} {L : lg_L} (h : lg_X S L) (f : vs_fr ks is js S S1) (d1 : 6 ∉ ks ∧ 7 ∉ ks ∧ 8 ∉ ks) (d2 : 19 ∉ is ∧ 20 ∉ is ∧ 21 ∉ is ∧ 22 ∉ is) : lg_X S1 L := by
  obtain ⟨H, A, B, C, d, n⟩ := L
  unfold lg_X at h ⊢
  rw [f.1 6 d1.1, f.1 7 d1.2.1, f.1 8 d1.2.2, f.2.1 19 d2.1, f.2.1 20 d2.2.1, f.2.1 21 d2.2.2.1, f.2.1 22 d2.2.2.2]
  exact h
theorem lg_M_fr {ks is js : List Nat} {S S1 : vs_S} {L : lg_L} (h : lg_M S L) (f : vs_fr ks is js S S1) (d1 : 21 ∉ ks ∧ 22 ∉ ks) (d2 : 66 ∉ is ∧ 67 ∉ is ∧ 68 ∉ is ∧ 69 ∉ is) : lg_M S1 L := by
  obtain ⟨H, A, B, C, d, n⟩ := L
  unfold lg_M at h ⊢
  rw [f.1 21 d1.1, f.1 22 d1.2, f.2.1 66 d2.1, f.2.1 67 d2.2.1, f.2.1 68 d2.2.2.1, f.2.1 69 d2.2.2.2]
  exact h
/-- the least of three debts in a ring -/
def rd_t (D : Nat → Nat) (t : Nat) : Nat := min (D (8 * (t / 64) + t / 8 % 8)) (min (D (8 * (t / 8 % 8) + t % 8)) (D (8 * (t % 8) + t / 64)))
def rd_b (D : Nat → Nat) : Nat → Nat → Nat → Nat → Nat × Nat
  | 0, _, v, w => (v, w)
  | f + 1, t, v, w => if v < rd_t D t then rd_b D f (t + 1) (rd_t D t) t else rd_b D f (t + 1) v w
theorem rd_b1 (f : Nat) {D : Nat → Nat} {t v w : Nat} : rd_b D (f + 1) t v w = if v < rd_t D t then rd_b D f (t + 1) (rd_t D t) t else rd_b D f (t + 1) v w := rfl
def rd_B (D : Nat → Nat) : Nat × Nat := rd_b D 512 0 0 0
/-- what the search has found: a ring with this least, or none -/
def rd_I (D : Nat → Nat) (v w : Nat) : Prop := w < 512 ∧ (0 < v → v = rd_t D w)
theorem rd_bI {D : Nat → Nat} : ∀ (f t v w : Nat), t + f ≤ 512 → rd_I D v w → rd_I D (rd_b D f t v w).1 (rd_b D f t v w).2
  | 0, _, _, _, _, h => h
  | f + 1, t, v, w, hf, h => by
    rw [rd_b1]
    split
    · exact rd_bI f (t + 1) _ _ (by omega) ⟨by omega, fun _ => rfl⟩
    · exact rd_bI f (t + 1) _ _ (by omega) h
theorem rd_bz {D : Nat → Nat} (h : ∀ t, t < 512 → rd_t D t = 0) : ∀ (f t w : Nat), t + f ≤ 512 → (rd_b D f t 0 w).1 = 0
  | 0, _, _, _ => rfl
  | f + 1, t, w, hf => by
    rw [rd_b1, if_neg (by rw [h t (by omega)]; omega)]
    exact rd_bz h f (t + 1) w (by omega)
/-- debts that stand -/
def rd_n (D : Nat → Nat) : Nat → Nat
  | 0 => 0
  | n + 1 => rd_n D n + (if 0 < D n then 1 else 0)
theorem rd_nle {D : Nat → Nat} : ∀ n, rd_n D n ≤ n
  | 0 => Nat.le_refl _
  | n + 1 => by
    have := rd_nle (D := D) n
    unfold rd_n
    split <;> omega
theorem rd_nz {D : Nat → Nat} : ∀ n, rd_n D n = 0 → ∀ p, p < n → D p = 0
  | 0, _, p, hp => by omega
  | n + 1, h, p, hp => by
    unfold rd_n at h
    have h1 : rd_n D n = 0 := by omega
    by_cases e : p = n
    · subst e
      apply Nat.eq_zero_of_not_pos
      intro z
      rw [if_pos z] at h
      omega
    · exact rd_nz n h1 p (by omega)
theorem rd_nm {D D' : Nat → Nat} (h : ∀ p, D' p ≤ D p) : ∀ n, rd_n D' n ≤ rd_n D n
  | 0 => Nat.le_refl _
  | n + 1 => by
    have h1 := rd_nm h n
    have h2 := h n
    unfold rd_n
    split <;> split <;> omega
theorem rd_nd {D D' : Nat → Nat} (h : ∀ p, D' p ≤ D p) {q : Nat} (h1 : 0 < D q) (h2 : D' q = 0) : ∀ n, q < n → rd_n D' n < rd_n D n
  | 0, hq => by omega
  | n + 1, hq => by
    have h3 := h n
    have h4 := rd_nm h n
    unfold rd_n
    by_cases e : q = n
    · subst e
      rw [if_pos h1, h2]
      simp only [Nat.lt_irrefl, if_false]
      omega
    · have h5 := rd_nd h h1 h2 n (by omega)
      split <;> split <;> omega
/-- so much is taken off a debt -/
def lg_off (L : lg_L) (p v : Nat) : lg_L := lg_bec L p (L.1 p - nI v)
def rd_s (L : lg_L) : lg_L := lg_off (lg_off (lg_off L (8 * ((rd_B (lgD L)).2 / 64) + (rd_B (lgD L)).2 / 8 % 8) (rd_B (lgD L)).1) (8 * ((rd_B (lgD L)).2 / 8 % 8) + (rd_B (lgD L)).2 % 8) (rd_B (lgD L)).1) (8 * ((rd_B (lgD L)).2 % 8) + (rd_B (lgD L)).2 / 64) (rd_B (lgD L)).1
theorem lg_off_ok {L : lg_L} {p v : Nat} (h : lg_ok L) (hp : p < 96) : lg_ok (lg_off L p v) := lg_bec_ok h hp
theorem lg_off_D {L : lg_L} (hi : lg_in L) {p v : Nat} (hp : p < 64) (hv : v ≤ lgD L p) (j : Nat) : lgD (lg_off L p v) j = if j = p then lgD L p - v else lgD L j := by
  unfold lg_off
  show ((lg_bec L p (L.1 p - nI v)).1 j).toNatClampNeg = _
  rw [lg_bec_H]
  split
  · have h := lg_inD hi (p := p) (by omega)
    rw [h.1, xn_sub hv, xn_cl (by omega)]
  · rfl
theorem lg_off_in {L : lg_L} (hi : lg_in L) (hk : lg_ok L) {p v : Nat} (hp : p < 64) (hv : v ≤ lgD L p) : lg_in (lg_off L p v) := by
  have h := lg_inD hi (p := p) (by omega)
  refine lg_bec_in hi hk (by omega) ⟨lgD L p - v, by rw [h.1, xn_sub hv], by omega, fun h1 h2 => ?_, fun h1 => by omega, fun h1 => by omega⟩
  have := h.2.2.1 h1 h2
  omega
/-- one time round: three unlike ones, each debt no less than what is taken off -/
theorem rd_w {L : lg_L} (hi : lg_in L) (hv : 0 < (rd_B (lgD L)).1) : ∃ a b c v : Nat, a < 8 ∧ b < 8 ∧ c < 8 ∧ a ≠ b ∧ b ≠ c ∧ c ≠ a ∧ (rd_B (lgD L)).1 = v ∧ (rd_B (lgD L)).2 / 64 = a ∧ (rd_B (lgD L)).2 / 8 % 8 = b ∧ (rd_B (lgD L)).2 % 8 = c ∧ 0 < v ∧ v ≤ lgD L (8 * a + b) ∧ v ≤ lgD L (8 * b + c) ∧ v ≤ lgD L (8 * c + a) ∧ (v = lgD L (8 * a + b) ∨ v = lgD L (8 * b + c) ∨ v = lgD L (8 * c + a)) := by
  have h0 := rd_bI (D := lgD L) 512 0 0 0 (by omega) ⟨by omega, fun z => absurd z (Nat.lt_irrefl 0)⟩
  have h1 : rd_I (lgD L) (rd_B (lgD L)).1 (rd_B (lgD L)).2 := h0
  obtain ⟨h2, h3⟩ := h1
  have h4 := h3 hv
  generalize (rd_B (lgD L)).1 = v at *
  generalize (rd_B (lgD L)).2 = w at *
  unfold rd_t at h4
  have ha : w / 64 < 8 := by omega
  have hb : w / 8 % 8 < 8 := by omega
  have hc : w % 8 < 8 := by omega
  generalize w / 64 = a at *
  generalize w / 8 % 8 = b at *
  generalize w % 8 = c at *
  have g1 : v ≤ lgD L (8 * a + b) := by omega
  have g2 : v ≤ lgD L (8 * b + c) := by omega
  have g3 : v ≤ lgD L (8 * c + a) := by omega
  refine ⟨a, b, c, v, ha, hb, hc, ?_, ?_, ?_, rfl, rfl, rfl, rfl, hv, g1, g2, g3, by omega⟩
  · intro e
    subst e
    have := (lg_inD hi (p := 8 * a + a) (by omega)).2.2.1 (by omega) (by omega)
    omega
  · intro e
    subst e
    have := (lg_inD hi (p := 8 * b + b) (by omega)).2.2.1 (by omega) (by omega)
    omega
  · intro e
    subst e
    have := (lg_inD hi (p := 8 * c + c) (by omega)).2.2.1 (by omega) (by omega)
    omega
theorem rd_3 {L : lg_L} (hi : lg_in L) (hk : lg_ok L) {a b c v : Nat} (ha : a < 8) (hb : b < 8) (hc : c < 8) (n1 : a ≠ b) (n2 : b ≠ c) (n3 : c ≠ a) (g1 : v ≤ lgD L (8 * a + b)) (g2 : v ≤ lgD L (8 * b + c)) (g3 : v ≤ lgD L (8 * c + a)) :
    lg_in (lg_off (lg_off (lg_off L (8 * a + b) v) (8 * b + c) v) (8 * c + a) v) ∧ lg_ok (lg_off (lg_off (lg_off L (8 * a + b) v) (8 * b + c) v) (8 * c + a) v) ∧ ∀ j, lgD (lg_off (lg_off (lg_off L (8 * a + b) v) (8 * b + c) v) (8 * c + a) v) j = if j = 8 * a + b ∨ j = 8 * b + c ∨ j = 8 * c + a then lgD L j - v else lgD L j := by
  have i1 := lg_off_in hi hk (p := 8 * a + b) (by omega) g1
  have k1 := lg_off_ok (v := v) hk (p := 8 * a + b) (by omega)
  have d1 := lg_off_D hi (p := 8 * a + b) (by omega) g1
  have g2' : v ≤ lgD (lg_off L (8 * a + b) v) (8 * b + c) := by rw [d1, if_neg (by omega)]; exact g2
  have i2 := lg_off_in i1 k1 (p := 8 * b + c) (by omega) g2'
  have k2 := lg_off_ok (v := v) k1 (p := 8 * b + c) (by omega)
  have d2 := lg_off_D i1 (p := 8 * b + c) (by omega) g2'
  have g3' : v ≤ lgD (lg_off (lg_off L (8 * a + b) v) (8 * b + c) v) (8 * c + a) := by rw [d2, if_neg (by omega), d1, if_neg (by omega)]; exact g3
  refine ⟨lg_off_in i2 k2 (by omega) g3', lg_off_ok k2 (by omega), fun j => ?_⟩
  rw [lg_off_D i2 (by omega) g3' j, d2, d2, d1, d1, d1]
  by_cases e1 : j = 8 * a + b
  · subst e1
    rw [if_neg (by omega), if_neg (by omega), if_pos rfl, if_pos (Or.inl rfl)]
  · by_cases e2 : j = 8 * b + c
    · subst e2
      rw [if_neg (by omega), if_pos rfl, if_neg (by omega), if_pos (Or.inr (Or.inl rfl))]
    · by_cases e3 : j = 8 * c + a
      · subst e3
        rw [if_pos rfl, if_neg (by omega), if_neg (by omega), if_pos (Or.inr (Or.inr rfl))]
      · rw [if_neg e3, if_neg e2, if_neg e1, if_neg (by omega)]
theorem rd_sI {L : lg_L} (hi : lg_in L) (hk : lg_ok L) (hv : 0 < (rd_B (lgD L)).1) : lg_in (rd_s L) ∧ lg_ok (rd_s L) ∧ rd_n (lgD (rd_s L)) 64 < rd_n (lgD L) 64 := by
  obtain ⟨a, b, c, v, ha, hb, hc, n1, n2, n3, e1, e2, e3, e4, v0, g1, g2, g3, g4⟩ := rd_w hi hv
  unfold rd_s
  rw [e1, e2, e3, e4]
  obtain ⟨r1, r2, r3⟩ := rd_3 hi hk ha hb hc n1 n2 n3 g1 g2 g3
  refine ⟨r1, r2, ?_⟩
  have hle : ∀ p, lgD (lg_off (lg_off (lg_off L (8 * a + b) v) (8 * b + c) v) (8 * c + a) v) p ≤ lgD L p := by
    intro p
    rw [r3]
    split <;> omega
  rcases g4 with g | g | g
  · exact rd_nd hle (q := 8 * a + b) (by omega) (by rw [r3, if_pos (Or.inl rfl)]; omega) 64 (by omega)
  · exact rd_nd hle (q := 8 * b + c) (by omega) (by rw [r3, if_pos (Or.inr (Or.inl rfl))]; omega) 64 (by omega)
  · exact rd_nd hle (q := 8 * c + a) (by omega) (by rw [r3, if_pos (Or.inr (Or.inr rfl))]; omega) 64 (by omega)
theorem rd_B0 {D : Nat → Nat} (h : rd_n D 64 = 0) : (rd_B D).1 = 0 := by
  refine rd_bz (fun t ht => ?_) 512 0 0 (by omega)
  have := rd_nz 64 h (8 * (t / 64) + t / 8 % 8) (by omega)
  unfold rd_t
  omega
def rd_r : Nat → lg_L → Nat × lg_L
  | 0, L => (0, L)
  | f + 1, L => if (rd_B (lgD L)).1 = 0 then (0, L) else ((rd_r f (rd_s L)).1 + 1, (rd_r f (rd_s L)).2)
theorem rd_r1 (f : Nat) {L : lg_L} : rd_r (f + 1) L = if (rd_B (lgD L)).1 = 0 then (0, L) else ((rd_r f (rd_s L)).1 + 1, (rd_r f (rd_s L)).2) := rfl
theorem rd_r0 {f : Nat} {L : lg_L} (h : (rd_B (lgD L)).1 = 0) : rd_r f L = (0, L) := by
  cases f with
  | zero => rfl
  | succ f => rw [rd_r1, if_pos h]
theorem rd_rI : ∀ (f : Nat) (L : lg_L), lg_in L → lg_ok L → lg_in (rd_r f L).2 ∧ lg_ok (rd_r f L).2 ∧ (rd_r f L).1 ≤ f
  | 0, L, h, hk => ⟨h, hk, Nat.le_refl _⟩
  | f + 1, L, h, hk => by
    rw [rd_r1]
    by_cases e : (rd_B (lgD L)).1 = 0
    · rw [if_pos e]; exact ⟨h, hk, Nat.zero_le _⟩
    · rw [if_neg e]
      have h1 := rd_sI h hk (by omega)
      have h2 := rd_rI f (rd_s L) h1.1 h1.2.1
      exact ⟨h2.1, h2.2.1, by have := h2.2.2; omega⟩
theorem xn_min {a b : Nat} (ha : a < 2 ^ 31) (hb : b < 2 ^ 31) : (if nI b < nI a then nI b else nI a) = nI (min a b) := by
  by_cases h : b < a
  · rw [if_pos ((xn_lt hb ha).mpr h), Nat.min_eq_right (by omega)]
  · rw [if_neg (fun z => h ((xn_lt hb ha).mp z)), Nat.min_eq_left (by omega)]

