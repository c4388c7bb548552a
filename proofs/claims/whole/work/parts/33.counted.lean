theorem vs_eqr {g : vv_G} {x : vv_X} {nL k n pc : Nat} {lv : List (Option Value)} {st : List Value} {h : List va_E} {v v9 : Nat} (e : v = v9) (kk : vv_V g x nL k n pc lv (vv_r g v9 :: st) h) : vv_V g x nL k n pc lv (vv_r g v :: st) h := e ▸ kk
/-! A ROW FILLED (the library's own code) -/
theorem fl_get {h : List va_E} {i : Nat} {z z2 : va_E} (he : h[i]? = some z) : (h.set i z2)[i]? = some z2 := by
  have hi : i < h.length := by
    obtain ⟨hi, _⟩ := List.getElem?_eq_some_iff.mp he
    exact hi
  exact List.getElem?_set_self hi
theorem fl_same {h : List va_E} {i : Nat} {z : va_E} (he : h[i]? = some z) : h.set i z = h := by
  obtain ⟨hi, e⟩ := List.getElem?_eq_some_iff.mp he
  rw [← e]
  exact List.set_getElem_self hi
theorem c_fillI (g : vv_G) (h : List va_E) (i N : Nat) (f : Nat → Int32) (v : Int32) (hN : N < 2 ^ 31) (he : h[i]? = some (.inl (vv_cI g, N, .inl f))) (post : List va_E → Prop) (hp : ∀ f1 : Nat → Int32, (∀ j, j < N → f1 j = v) → post (h.set i (.inl (vv_cI g, N, .inl f1)))) : vv_KV g yJ7_fill_53178 cJ7_fill_53178 4 none (vs_R 1) [vv_r0 g i, .int v] h post := by
  refine vv_ofV mb_J7_fill_53178 (Nat.le_of_ble_eq_true rfl) (fun x C F => ?_)
  have loop : ∀ (n k : Nat) (f1 : Nat → Int32), k + n = N → (∀ j, j < k → f1 j = v) → vv_V g x 4 0 0 5 [some (vv_r0 g i), some (.int v), some (.int (nI k)), some (.int (nI N))] [] (h.set i (.inl (vv_cI g, N, .inl f1))) := by
    intro n
    induction n with
    | zero =>
      intro k f1 h1 h2
      have hk : k = N := by omega
      subst hk
      refine vv_iload_n C dJ7_fill_53178_5 rfl ?_
      refine vv_iload_n C dJ7_fill_53178_6 rfl ?_
      refine vv_icmp_ge (tgt := 20) C dJ7_fill_53178_7 (by decide) (fun q7 => ?_) (fun q7 => ?_)
      · exact vv_vret (st := []) C F dJ7_fill_53178_20 rfl ⟨Nat.zero_le _, Nat.zero_le _⟩ (hp f1 h2)
      · exact absurd (Int32.le_refl _) q7
    | succ n ih =>
      intro k f1 h1 h2
      refine vv_iload_n C dJ7_fill_53178_5 rfl ?_
      refine vv_iload_n C dJ7_fill_53178_6 rfl ?_
      refine vv_icmp_ge (tgt := 20) C dJ7_fill_53178_7 (by decide) (fun q7 => ?_) (fun q7 => ?_)
      · exact absurd q7 (by rw [xn_le (by omega) (by omega)]; omega)
      · refine vv_aload_nR C dJ7_fill_53178_10 rfl ?_
        refine vv_iload_n C dJ7_fill_53178_11 rfl ?_
        refine vv_iload_n C dJ7_fill_53178_12 rfl ?_
        refine vv_iast C dJ7_fill_53178_13 (fl_get he) (xn_in (by omega) (by omega)) ?_
        refine vw_iinc (lv9 := [_, _, _, _]) C dJ7_fill_53178_14 rfl ic_1 (by decide) rfl rfl ?_
        refine vv_goto (tgt := 5) C dJ7_fill_53178_17 (by decide) ?_
        rw [List.set_set, nI_1]
        refine ih (k + 1) _ (by omega) (fun j hj => ?_)
        rw [xn_cl (by omega), xn_upd (α := Nat)]
        split
        · rfl
        · exact h2 j (by omega)
  refine vv_iconst C dJ7_fill_53178_0 ic_0 ?_
  refine vw_istore_n (lv9 := [_, _, _, _]) C dJ7_fill_53178_1 (by decide) rfl rfl ?_
  refine vv_aload_nR C dJ7_fill_53178_2 rfl ?_
  refine vv_alenI (v := nI N) C dJ7_fill_53178_3 he rfl ?_
  refine vw_istore_n (lv9 := [_, _, _, _]) C dJ7_fill_53178_4 (by decide) rfl rfl ?_
  have := loop N 0 f (Nat.zero_add _) (fun j hj => by omega)
  rw [fl_same he] at this
  exact this
theorem c_fillJ (g : vv_G) (hfl : vv_fl g = false) (h : List va_E) (i N : Nat) (f : Nat → Int64) (v : Int64) (hN : N < 2 ^ 31) (he : h[i]? = some (.inl (vv_cJ g, N, .inr (.inl f)))) (post : List va_E → Prop) (hp : ∀ f1 : Nat → Int64, (∀ j, j < N → f1 j = v) → post (h.set i (.inl (vv_cJ g, N, .inr (.inl f1))))) : vv_KV g yJ7_fill_d0a16 cJ7_fill_d0a16 5 none (vs_R 1) [vv_r0 g i, .long v] h post := by
  refine vv_ofV mb_J7_fill_d0a16 (Nat.le_of_ble_eq_true rfl) (fun x C F => ?_)
  have loop : ∀ (n k : Nat) (f1 : Nat → Int64), k + n = N → (∀ j, j < k → f1 j = v) → vv_V g x 5 0 0 6 [some (vv_r0 g i), some (.long v), none, some (.int (nI k)), some (.int (nI N))] [] (h.set i (.inl (vv_cJ g, N, .inr (.inl f1)))) := by
    intro n
    induction n with
    | zero =>
      intro k f1 h1 h2
      have hk : k = N := by omega
      subst hk
      refine vv_iload_n C dJ7_fill_d0a16_6 rfl ?_
      refine vv_iload C dJ7_fill_d0a16_7 rfl ?_
      refine vv_icmp_ge (tgt := 22) C dJ7_fill_d0a16_9 (by decide) (fun q7 => ?_) (fun q7 => ?_)
      · exact vv_vret (st := []) C F dJ7_fill_d0a16_22 rfl ⟨Nat.zero_le _, Nat.zero_le _⟩ (hp f1 h2)
      · exact absurd (Int32.le_refl _) q7
    | succ n ih =>
      intro k f1 h1 h2
      refine vv_iload_n C dJ7_fill_d0a16_6 rfl ?_
      refine vv_iload C dJ7_fill_d0a16_7 rfl ?_
      refine vv_icmp_ge (tgt := 22) C dJ7_fill_d0a16_9 (by decide) (fun q7 => ?_) (fun q7 => ?_)
      · exact absurd q7 (by rw [xn_le (by omega) (by omega)]; omega)
      · refine vv_aload_nR C dJ7_fill_d0a16_12 rfl ?_
        refine vv_iload_n C dJ7_fill_d0a16_13 rfl ?_
        refine vv_lload_n C dJ7_fill_d0a16_14 rfl ?_
        refine vv_last C hfl dJ7_fill_d0a16_15 (fl_get he) (xn_in (by omega) (by omega)) ?_
        refine vw_iinc (lv9 := [_, _, _, _, _]) C dJ7_fill_d0a16_16 rfl ic_1 (by decide) rfl rfl ?_
        refine vv_goto (tgt := 6) C dJ7_fill_d0a16_19 (by decide) ?_
        rw [List.set_set, nI_1]
        refine ih (k + 1) _ (by omega) (fun j hj => ?_)
        rw [xn_cl (by omega)]
        unfold vp_updL
        split
        · rfl
        · exact h2 j (by omega)
  refine vv_iconst C dJ7_fill_d0a16_0 ic_0 ?_
  refine vw_istore_n (lv9 := [_, _, _, _, _]) C dJ7_fill_d0a16_1 (by decide) rfl rfl ?_
  refine vv_aload_nR C dJ7_fill_d0a16_2 rfl ?_
  refine vv_alenJ (v := nI N) C dJ7_fill_d0a16_3 he rfl ?_
  refine vw_istore (lv9 := [_, _, _, _, _]) C dJ7_fill_d0a16_4 (by decide) rfl rfl ?_
  have := loop N 0 f (Nat.zero_add _) (fun j hj => by omega)
  rw [fl_same he] at this
  exact this
/-! COUNTED -/
def cw_n (W : Nat → Nat → Nat) (a : Nat) : Nat → Nat → Nat
  | 0, n => W 0 n
  | k + 1, n => W (k + 1) n + (if a ≤ n then cw_n W a k (n - a) else 0)
theorem cw_n1 {W : Nat → Nat → Nat} {a k n : Nat} : cw_n W a (k + 1) n = W (k + 1) n + (if a ≤ n then cw_n W a k (n - a) else 0) := rfl
def cw (P : Nat → Bool) : Nat → Nat → Nat → Nat
  | 0 => fun k n => if k = 0 ∧ n = 0 then 1 else 0
  | a + 1 => if P (a + 1) = true then cw_n (cw P a) (a + 1) else cw P a
theorem cw_nlt {W : Nat → Nat → Nat} {a n : Nat} (h : n < a) : ∀ k, cw_n W a k n = W k n
  | 0 => rfl
  | k + 1 => by
    unfold cw_n
    rw [if_neg (by omega)]
    rfl
theorem cw_hi {P : Nat → Bool} {k n : Nat} : ∀ a, n ≤ a → cw P a k n = cw P n k n
  | 0, h => by rw [show n = 0 by omega]
  | a + 1, h => by
    by_cases z : n = a + 1
    · rw [z]
    · rw [← cw_hi a (by omega)]
      show (if P (a + 1) = true then cw_n (cw P a) (a + 1) else cw P a) k n = _
      split
      · exact cw_nlt (by omega) k
      · rfl
theorem cw_b {P : Nat → Bool} : ∀ a k n, cw P a k n ≤ a ^ k
  | 0, k, n => by
    show (if k = 0 ∧ n = 0 then 1 else 0) ≤ _
    split
    · next h => rw [h.1]; exact Nat.le_refl _
    · exact Nat.zero_le _
  | a + 1, k, n => by
    show (if P (a + 1) = true then cw_n (cw P a) (a + 1) else cw P a) k n ≤ _
    split
    · have key : ∀ k n, cw_n (cw P a) (a + 1) k n ≤ (a + 1) ^ k := by
        intro k
        induction k with
        | zero =>
          intro n
          exact cw_b a 0 n
        | succ k ih =>
          intro n
          unfold cw_n
          have h1 := cw_b (P := P) a (k + 1) n
          have h2 : (if a + 1 ≤ n then cw_n (cw P a) (a + 1) k (n - (a + 1)) else 0) ≤ (a + 1) ^ k := by
            split
            · exact ih _
            · exact Nat.zero_le _
          have h3 : a ^ k ≤ (a + 1) ^ k := Nat.pow_le_pow_left (by omega) k
          have h4 : a ^ (k + 1) ≤ (a + 1) ^ k * a := by rw [Nat.pow_succ]; exact Nat.mul_le_mul_right _ h3
          rw [Nat.pow_succ, Nat.mul_add, Nat.mul_one]
          omega
      exact key k n
    · exact Nat.le_trans (cw_b a k n) (Nat.pow_le_pow_left (by omega) k)
theorem cw_c {P P' : Nat → Bool} {N : Nat} (h : ∀ a, a ≤ N → P a = P' a) : ∀ a, a ≤ N → cw P a = cw P' a
  | 0, _ => rfl
  | a + 1, ha => by
    show (if P (a + 1) = true then cw_n (cw P a) (a + 1) else cw P a) = (if P' (a + 1) = true then cw_n (cw P' a) (a + 1) else cw P' a)
    rw [h _ ha, cw_c h a (by omega)]
def cs (v : Nat) : Nat := min 1000000000 v
theorem cs_le {v : Nat} : cs v ≤ 1000000000 := Nat.min_le_left _ _
theorem cs_add {a b : Nat} : min 1000000000 (cs a + cs b) = cs (a + b) := by
  unfold cs
  omega
def cv (P : Nat → Bool) (n k : Nat) : Int32 := nI (cs (cw P n k n))
/-- the class's table on its way: a comes in, done ahead of (n, k) -/
def ca_I (W : Nat → Nat → Nat) (a : Nat) (S : vs_S) (n k : Nat) : Prop := ∀ k' n', k' ≤ 5 → n' ≤ 400 → S.2.1 (9 + k') n' = nI (cs (if n' < n ∨ (n' = n ∧ k' < k) then cw_n W a k' n' else W k' n'))
theorem ca_0 {W : Nat → Nat → Nat} {a : Nat} {S : vs_S} (h : ∀ k' n', k' ≤ 5 → n' ≤ 400 → S.2.1 (9 + k') n' = nI (cs (W k' n'))) : ca_I W a S a 1 := by
  intro k' n' hk hn
  rw [h k' n' hk hn]
  split
  · next z =>
    rcases z with z | ⟨z1, z2⟩
    · rw [cw_nlt z]
    · rw [show k' = 0 by omega]
      rfl
  · rfl
theorem ca_n {W : Nat → Nat → Nat} {a : Nat} {S : vs_S} {n : Nat} (h : ca_I W a S n 6) : ca_I W a S (n + 1) 1 := by
  intro k' n' hk hn
  rw [h k' n' hk hn]
  by_cases z : n' < n + 1
  · rw [if_pos (by omega), if_pos (by omega)]
  · rw [if_neg (by omega)]
    by_cases y : n' = n + 1 ∧ k' < 1
    · rw [if_pos (by omega), show k' = 0 by omega]
      rfl
    · rw [if_neg (by omega)]
theorem ca_s {W : Nat → Nat → Nat} {a : Nat} {S : vs_S} {n k : Nat} (h : ca_I W a S n (k + 1)) (han : a ≤ n) (f : Nat → Int32) (hf : ∀ n', n' ≤ 400 → f n' = if n' = n then nI (cs (W (k + 1) n + cw_n W a k (n - a))) else S.2.1 (9 + (k + 1)) n') : ca_I W a (vs_ua S (9 + (k + 1)) f) n (k + 2) := by
  intro k' n' hk hn
  rw [vs_ua2]
  by_cases e : k' = k + 1
  · subst e
    rw [if_pos rfl, hf n' hn]
    by_cases y : n' = n
    · subst y
      rw [if_pos rfl, if_pos (by omega), cw_n1, if_pos han]
    · rw [if_neg y, h (k + 1) n' hk hn]
      by_cases t : n' < n
      · rw [if_pos (by omega), if_pos (by omega)]
      · rw [if_neg (by omega), if_neg (by omega)]
  · rw [if_neg (by omega), h k' n' hk hn]
    by_cases t : n' < n ∨ (n' = n ∧ k' < k + 1)
    · rw [if_pos t, if_pos (by omega)]
    · rw [if_neg t, if_neg (by omega)]
def cx_D (P : Nat → Bool) (S : vs_S) : Prop := ∀ k n, k ≤ 5 → n ≤ 400 → S.2.1 (9 + k) n = nI (cs (cw P 400 k n))
def cx_ok (S : vs_S) : Prop := S.1 3 = -2 ∨ ∃ l, l ≤ 3 ∧ S.1 3 = nI l ∧ cx_D (np_lx l) S
theorem cx_Dfr {P : Nat → Bool} {ks is js : List Nat} {S S1 : vs_S} (h : cx_D P S) (f : vs_fr ks is js S S1) (d2 : ∀ k, k ≤ 5 → 9 + k ∉ is) : cx_D P S1 := by
  intro k n hk hn
  rw [f.2.1 _ (d2 k hk)]
  exact h k n hk hn
theorem cx_okfr {ks is js : List Nat} {S S1 : vs_S} (h : cx_ok S) (f : vs_fr ks is js S S1) (d1 : 3 ∉ ks) (d2 : ∀ k, k ≤ 5 → 9 + k ∉ is) : cx_ok S1 := by
  unfold cx_ok
  rw [f.1 3 d1]
  rcases h with h | ⟨l, h1, h2, h3⟩
  · exact Or.inl h
  · exact Or.inr ⟨l, h1, h2, cx_Dfr h3 f d2⟩
theorem c_fill_ways (g : vv_G) (S : vs_S) (q : Nat) (hq : q < 6) (v : Int32) : vs_KV g yJ7_fill_53178 cJ7_fill_53178 4 none 1 [vv_r g (9 + q), .int v] S (fun S1 => ∃ f1, S1 = vs_ua S (9 + q) f1 ∧ ∀ j, j < 401 → f1 j = v) :=
  c_fillI g _ (vv_n (9 + q)) 401 (S.2.1 (9 + q)) v (by omega) (ce_ways hq) _ (fun f1 h => ⟨vs_ua S (9 + q) f1, sa_ways hq, f1, rfl, h⟩)

