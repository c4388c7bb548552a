theorem vw_istore_n {g : vv_G} {x : vv_X} {own nm : String} {cc : ByteArray} {nL k n pc : Nat} {ret : Option FieldType} {R0 : Room} {lv : List (Option Value)} (lv9 : List (Option Value)) {st : List Value} {h : List va_E} {q : Fin 4} {v : Int32} (C : vv_C g own nm cc nL ret R0 x) (d : decode cc pc = .ok (.istore_n q, 1)) (hn : (q : Nat) < nL) (hc : vv_c1 (vv_prev lv (q : Nat)) = true) (hl : lv.set (q : Nat) (some (.int v)) = lv9) (kk : vv_V g x nL k n (pc + 1) lv9 (st) h) : vv_V g x nL k n (pc) lv (.int v :: st) h := vv_istore_n C d hn hc (hl ▸ kk)
theorem vw_istore {g : vv_G} {x : vv_X} {own nm : String} {cc : ByteArray} {nL k n pc : Nat} {ret : Option FieldType} {R0 : Room} {lv : List (Option Value)} (lv9 : List (Option Value)) {st : List Value} {h : List va_E} {i : Nat} {v : Int32} (C : vv_C g own nm cc nL ret R0 x) (d : decode cc pc = .ok (.istore i, 2)) (hn : i < nL) (hc : vv_c1 (vv_prev lv i) = true) (hl : lv.set i (some (.int v)) = lv9) (kk : vv_V g x nL k n (pc + 2) lv9 (st) h) : vv_V g x nL k n (pc) lv (.int v :: st) h := vv_istore C d hn hc (hl ▸ kk)
theorem vw_astore_n {g : vv_G} {x : vv_X} {own nm : String} {cc : ByteArray} {nL k n pc : Nat} {ret : Option FieldType} {R0 : Room} {lv : List (Option Value)} (lv9 : List (Option Value)) {st : List Value} {h : List va_E} {q : Fin 4} {v : Nat} (C : vv_C g own nm cc nL ret R0 x) (d : decode cc pc = .ok (.astore_n q, 1)) (hn : (q : Nat) < nL) (hc : vv_c1 (vv_prev lv (q : Nat)) = true) (hl : lv.set (q : Nat) (some (vv_r g v)) = lv9) (kk : vv_V g x nL k n (pc + 1) lv9 (st) h) : vv_V g x nL k n (pc) lv (vv_r g v :: st) h := vv_astore_n C d hn hc (hl ▸ kk)
theorem vw_astore {g : vv_G} {x : vv_X} {own nm : String} {cc : ByteArray} {nL k n pc : Nat} {ret : Option FieldType} {R0 : Room} {lv : List (Option Value)} (lv9 : List (Option Value)) {st : List Value} {h : List va_E} {i : Nat} {v : Nat} (C : vv_C g own nm cc nL ret R0 x) (d : decode cc pc = .ok (.astore i, 2)) (hn : i < nL) (hc : vv_c1 (vv_prev lv i) = true) (hl : lv.set i (some (vv_r g v)) = lv9) (kk : vv_V g x nL k n (pc + 2) lv9 (st) h) : vv_V g x nL k n (pc) lv (vv_r g v :: st) h := vv_astore C d hn hc (hl ▸ kk)
theorem vw_astore_n0 {g : vv_G} {x : vv_X} {own nm : String} {cc : ByteArray} {nL k n pc : Nat} {ret : Option FieldType} {R0 : Room} {lv : List (Option Value)} (lv9 : List (Option Value)) {st : List Value} {h : List va_E} {q : Fin 4} {v : Nat} (C : vv_C g own nm cc nL ret R0 x) (d : decode cc pc = .ok (.astore_n q, 1)) (hn : (q : Nat) < nL) (hc : vv_c1 (vv_prev lv (q : Nat)) = true) (hl : lv.set (q : Nat) (some (vv_r0 g v)) = lv9) (kk : vv_V g x nL k n (pc + 1) lv9 (st) h) : vv_V g x nL k n (pc) lv (vv_r0 g v :: st) h := vv_astore_n0 C d hn hc (hl ▸ kk)
theorem vw_astore0 {g : vv_G} {x : vv_X} {own nm : String} {cc : ByteArray} {nL k n pc : Nat} {ret : Option FieldType} {R0 : Room} {lv : List (Option Value)} (lv9 : List (Option Value)) {st : List Value} {h : List va_E} {i : Nat} {v : Nat} (C : vv_C g own nm cc nL ret R0 x) (d : decode cc pc = .ok (.astore i, 2)) (hn : i < nL) (hc : vv_c1 (vv_prev lv i) = true) (hl : lv.set i (some (vv_r0 g v)) = lv9) (kk : vv_V g x nL k n (pc + 2) lv9 (st) h) : vv_V g x nL k n (pc) lv (vv_r0 g v :: st) h := vv_astore0 C d hn hc (hl ▸ kk)
theorem vw_astore_nR {g : vv_G} {x : vv_X} {own nm : String} {cc : ByteArray} {nL k n pc : Nat} {ret : Option FieldType} {R0 : Room} {lv : List (Option Value)} (lv9 : List (Option Value)) {st : List Value} {h : List va_E} {q : Fin 4} {v : Nat} (C : vv_C g own nm cc nL ret R0 x) (d : decode cc pc = .ok (.astore_n q, 1)) (hn : (q : Nat) < nL) (hc : vv_c1 (vv_prev lv (q : Nat)) = true) (hl : lv.set (q : Nat) (some (.ref v)) = lv9) (kk : vv_V g x nL k n (pc + 1) lv9 (st) h) : vv_V g x nL k n (pc) lv (.ref v :: st) h := vv_astore_nR C d hn hc (hl ▸ kk)
theorem vw_astoreR {g : vv_G} {x : vv_X} {own nm : String} {cc : ByteArray} {nL k n pc : Nat} {ret : Option FieldType} {R0 : Room} {lv : List (Option Value)} (lv9 : List (Option Value)) {st : List Value} {h : List va_E} {i : Nat} {v : Nat} (C : vv_C g own nm cc nL ret R0 x) (d : decode cc pc = .ok (.astore i, 2)) (hn : i < nL) (hc : vv_c1 (vv_prev lv i) = true) (hl : lv.set i (some (.ref v)) = lv9) (kk : vv_V g x nL k n (pc + 2) lv9 (st) h) : vv_V g x nL k n (pc) lv (.ref v :: st) h := vv_astoreR C d hn hc (hl ▸ kk)
theorem vw_lstore_n {g : vv_G} {x : vv_X} {own nm : String} {cc : ByteArray} {nL k n pc : Nat} {ret : Option FieldType} {R0 : Room} {lv : List (Option Value)} (lv9 : List (Option Value)) {st : List Value} {h : List va_E} {q : Fin 4} {v : Int64} (C : vv_C g own nm cc nL ret R0 x) (d : decode cc pc = .ok (.lstore_n q, 1)) (hn : (q : Nat) + 1 < nL) (hc : vv_c1 (vv_prev lv (q : Nat)) = true) (hl : (lv.set (q : Nat) (some (.long v))).set ((q : Nat) + 1) none = lv9) (kk : vv_V g x nL k n (pc + 1) lv9 (st) h) : vv_V g x nL k n (pc) lv (.long v :: st) h := vv_lstore_n C d hn hc (hl ▸ kk)
theorem vw_lstore {g : vv_G} {x : vv_X} {own nm : String} {cc : ByteArray} {nL k n pc : Nat} {ret : Option FieldType} {R0 : Room} {lv : List (Option Value)} (lv9 : List (Option Value)) {st : List Value} {h : List va_E} {i : Nat} {v : Int64} (C : vv_C g own nm cc nL ret R0 x) (d : decode cc pc = .ok (.lstore i, 2)) (hn : i + 1 < nL) (hc : vv_c1 (vv_prev lv i) = true) (hl : (lv.set i (some (.long v))).set (i + 1) none = lv9) (kk : vv_V g x nL k n (pc + 2) lv9 (st) h) : vv_V g x nL k n (pc) lv (.long v :: st) h := vv_lstore C d hn hc (hl ▸ kk)
theorem vw_iinc {g : vv_G} {x : vv_X} {own nm : String} {cc : ByteArray} {nL k n pc : Nat} {ret : Option FieldType} {R0 : Room} {lv : List (Option Value)} (lv9 : List (Option Value)) {st : List Value} {h : List va_E} {i : Nat} {z : Int} {v w : Int32} (C : vv_C g own nm cc nL ret R0 x) (d : decode cc pc = .ok (.iinc i z, 3)) (hv : lv[i]? = some (some (.int v))) (hz : Int32.ofInt z = w) (hn : i < nL) (hc : vv_c1 (vv_prev lv i) = true) (hl : lv.set i (some (.int (v + w))) = lv9) (kk : vv_V g x nL k n (pc + 3) lv9 (st) h) : vv_V g x nL k n (pc) lv (st) h := vv_iinc C d hv (by rw [hz]) hn hc (hl ▸ kk)
theorem bp_m126 : (Int8.ofInt (-126)).toInt32 = (-126) := by decide +kernel
theorem bp_m112 : (Int8.ofInt (-112)).toInt32 = (-112) := by decide +kernel
theorem bp_m100 : (Int8.ofInt (-100)).toInt32 = (-100) := by decide +kernel
theorem bp_m63 : (Int8.ofInt (-63)).toInt32 = (-63) := by decide +kernel
theorem bp_m59 : (Int8.ofInt (-59)).toInt32 = (-59) := by decide +kernel
theorem bp_m14 : (Int8.ofInt (-14)).toInt32 = (-14) := by decide +kernel
theorem bp_m13 : (Int8.ofInt (-13)).toInt32 = (-13) := by decide +kernel
theorem bp_m12 : (Int8.ofInt (-12)).toInt32 = (-12) := by decide +kernel
theorem bp_m11 : (Int8.ofInt (-11)).toInt32 = (-11) := by decide +kernel
theorem bp_m8 : (Int8.ofInt (-8)).toInt32 = (-8) := by decide +kernel
theorem bp_m5 : (Int8.ofInt (-5)).toInt32 = (-5) := by decide +kernel
theorem bp_m3 : (Int8.ofInt (-3)).toInt32 = (-3) := by decide +kernel
theorem bp_m2 : (Int8.ofInt (-2)).toInt32 = (-2) := by decide +kernel
theorem bp_6 : (Int8.ofInt (6)).toInt32 = 6 := by decide +kernel
theorem bp_7 : (Int8.ofInt (7)).toInt32 = 7 := by decide +kernel
theorem bp_8 : (Int8.ofInt (8)).toInt32 = 8 := by decide +kernel
theorem bp_9 : (Int8.ofInt (9)).toInt32 = 9 := by decide +kernel
theorem bp_10 : (Int8.ofInt (10)).toInt32 = 10 := by decide +kernel
theorem bp_11 : (Int8.ofInt (11)).toInt32 = 11 := by decide +kernel
theorem bp_16 : (Int8.ofInt (16)).toInt32 = 16 := by decide +kernel
theorem bp_20 : (Int8.ofInt (20)).toInt32 = 20 := by decide +kernel
theorem bp_24 : (Int8.ofInt (24)).toInt32 = 24 := by decide +kernel
theorem bp_30 : (Int8.ofInt (30)).toInt32 = 30 := by decide +kernel
theorem bp_31 : (Int8.ofInt (31)).toInt32 = 31 := by decide +kernel
theorem bp_32 : (Int8.ofInt (32)).toInt32 = 32 := by decide +kernel
theorem bp_33 : (Int8.ofInt (33)).toInt32 = 33 := by decide +kernel
theorem bp_37 : (Int8.ofInt (37)).toInt32 = 37 := by decide +kernel
theorem bp_38 : (Int8.ofInt (38)).toInt32 = 38 := by decide +kernel
theorem bp_40 : (Int8.ofInt (40)).toInt32 = 40 := by decide +kernel
theorem bp_41 : (Int8.ofInt (41)).toInt32 = 41 := by decide +kernel
theorem bp_42 : (Int8.ofInt (42)).toInt32 = 42 := by decide +kernel
theorem bp_43 : (Int8.ofInt (43)).toInt32 = 43 := by decide +kernel
theorem bp_45 : (Int8.ofInt (45)).toInt32 = 45 := by decide +kernel
theorem bp_47 : (Int8.ofInt (47)).toInt32 = 47 := by decide +kernel
theorem bp_48 : (Int8.ofInt (48)).toInt32 = 48 := by decide +kernel
theorem bp_50 : (Int8.ofInt (50)).toInt32 = 50 := by decide +kernel
theorem bp_53 : (Int8.ofInt (53)).toInt32 = 53 := by decide +kernel
theorem bp_57 : (Int8.ofInt (57)).toInt32 = 57 := by decide +kernel
theorem bp_59 : (Int8.ofInt (59)).toInt32 = 59 := by decide +kernel
theorem bp_60 : (Int8.ofInt (60)).toInt32 = 60 := by decide +kernel
theorem bp_61 : (Int8.ofInt (61)).toInt32 = 61 := by decide +kernel
theorem bp_62 : (Int8.ofInt (62)).toInt32 = 62 := by decide +kernel
theorem bp_63 : (Int8.ofInt (63)).toInt32 = 63 := by decide +kernel
theorem bp_64 : (Int8.ofInt (64)).toInt32 = 64 := by decide +kernel
theorem bp_70 : (Int8.ofInt (70)).toInt32 = 70 := by decide +kernel
theorem bp_80 : (Int8.ofInt (80)).toInt32 = 80 := by decide +kernel
theorem bp_81 : (Int8.ofInt (81)).toInt32 = 81 := by decide +kernel
theorem bp_96 : (Int8.ofInt (96)).toInt32 = 96 := by decide +kernel
theorem bp_100 : (Int8.ofInt (100)).toInt32 = 100 := by decide +kernel
theorem bp_103 : (Int8.ofInt (103)).toInt32 = 103 := by decide +kernel
theorem bp_104 : (Int8.ofInt (104)).toInt32 = 104 := by decide +kernel
theorem bp_110 : (Int8.ofInt (110)).toInt32 = 110 := by decide +kernel
theorem bp_112 : (Int8.ofInt (112)).toInt32 = 112 := by decide +kernel
theorem bp_116 : (Int8.ofInt (116)).toInt32 = 116 := by decide +kernel
theorem bp_120 : (Int8.ofInt (120)).toInt32 = 120 := by decide +kernel
theorem bp_121 : (Int8.ofInt (121)).toInt32 = 121 := by decide +kernel
theorem bp_124 : (Int8.ofInt (124)).toInt32 = 124 := by decide +kernel
theorem ic_m1 : Int32.ofInt (-1) = (-1) := by decide +kernel
theorem ic_0 : Int32.ofInt (0) = 0 := by decide +kernel
theorem ic_1 : Int32.ofInt (1) = 1 := by decide +kernel
theorem ic_2 : Int32.ofInt (2) = 2 := by decide +kernel
theorem ic_3 : Int32.ofInt (3) = 3 := by decide +kernel
theorem ic_4 : Int32.ofInt (4) = 4 := by decide +kernel
theorem ic_5 : Int32.ofInt (5) = 5 := by decide +kernel
theorem ic_6 : Int32.ofInt (6) = 6 := by decide +kernel
theorem sp_255 : (Int16.ofInt (255)).toInt32 = 255 := by decide +kernel
theorem sp_360 : (Int16.ofInt (360)).toInt32 = 360 := by decide +kernel
theorem sp_400 : (Int16.ofInt (400)).toInt32 = 400 := by decide +kernel
theorem sp_401 : (Int16.ofInt (401)).toInt32 = 401 := by decide +kernel
theorem sp_512 : (Int16.ofInt (512)).toInt32 = 512 := by decide +kernel
theorem sp_600 : (Int16.ofInt (600)).toInt32 = 600 := by decide +kernel
theorem sp_999 : (Int16.ofInt (999)).toInt32 = 999 := by decide +kernel
theorem sp_1000 : (Int16.ofInt (1000)).toInt32 = 1000 := by decide +kernel
theorem sp_2000 : (Int16.ofInt (2000)).toInt32 = 2000 := by decide +kernel
theorem sp_2001 : (Int16.ofInt (2001)).toInt32 = 2001 := by decide +kernel
theorem sp_2406 : (Int16.ofInt (2406)).toInt32 = 2406 := by decide +kernel
theorem sp_3126 : (Int16.ofInt (3126)).toInt32 = 3126 := by decide +kernel
theorem sp_9999 : (Int16.ofInt (9999)).toInt32 = 9999 := by decide +kernel
theorem sp_10000 : (Int16.ofInt (10000)).toInt32 = 10000 := by decide +kernel
theorem lc_0 : Int64.ofNat ((0 : Fin 2) : Nat) = 0 := by decide +kernel
theorem lc_1 : Int64.ofNat ((1 : Fin 2) : Nat) = 1 := by decide +kernel
/-- a boolean as the machine has it -/
def vs_b (b : Bool) : Int32 := if b then 1 else 0
theorem vs_bt {b : Bool} (h : b = true) : (1 : Int32) = vs_b b := by subst h; rfl
theorem vs_bf {b : Bool} (h : b = false) : (0 : Int32) = vs_b b := by subst h; rfl
theorem vs_bz {b : Bool} : narrow .boolean (.int (vs_b b)) = .int (vs_b b) := by cases b <;> rfl
theorem vs_b0 {b : Bool} : vs_b b = 0 ↔ b = false := by cases b <;> simp [vs_b]
theorem vs_b1 {b : Bool} : ¬ vs_b b = 0 ↔ b = true := by cases b <;> simp [vs_b]
