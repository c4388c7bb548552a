/-- the words that every contract here takes: the tables' words that keep -/
def vv_Ws : List Cond := lw_tbl.filter goodWord
theorem vv_in {w : Cond} (i : Nat) (h : lw_tbl[i]? = some w) (hg : goodWord w = true) : w ∈ vv_Ws := List.mem_filter.mpr ⟨List.mem_of_getElem? h, hg⟩
theorem vv_ins (l : List Cond) (is : List Nat) (h : l = is.filterMap (fun i => lw_tbl[i]?)) (hg : l.all goodWord = true) : ∀ w ∈ l, w ∈ vv_Ws := by
  intro w hw
  have h1 := List.all_eq_true.mp hg w hw
  rw [h] at hw
  obtain ⟨i, -, hi⟩ := List.mem_filterMap.mp hw
  exact vv_in i hi h1
theorem vv_tbl : ∀ w ∈ vv_Ws, w ∈ lw_tbl := fun _ h => (List.mem_filter.mp h).1
/-- a method's own code, and all the words -/
def vv_ww (y : MethodName) (cc : ByteArray) (nL : Nat) (ret : Option FieldType) : List Cond := .code y cc nL ret :: vv_Ws
def vv_cb (y : MethodName) (cc : ByteArray) (nL : Nat) (ret : Option FieldType) (n : Nat) : Prop := Cond.code y cc nL ret ∈ vv_Ws ∧ Cond.initialized y.cls ∈ vv_Ws ∧ (y.cls ≠ "java/lang/invoke/MethodHandle" ∧ y.cls ≠ "java/lang/invoke/VarHandle" ∧ (parseMethodDescriptor y.desc).map (fun d => d.parameters.length) = some n) ∧ plainName y.cls = true
def vv_vm (y : MethodName) : Prop := Cond.instanceMethod y ∈ vv_Ws ∧ Cond.selects y.cls y y ∈ vv_Ws
def vv_sm (y : MethodName) : Prop := Cond.static y ∈ vv_Ws
def vv_im (y : MethodName) : Prop := Cond.instanceMethod y ∈ vv_Ws ∧ y.name = "<init>"
def vv_lk (own : String) (idx : Nat) (y : MethodName) : Prop := Cond.methodLink own idx y ∈ vv_Ws
/-- the i-th field of the class of number ci, as the code of own names it by index -/
def vv_Fg (own : String) (idx ci kf : Nat) : Prop := ∃ (q : vw_C), vwCl[ci]? = some q ∧ (∀ w ∈ u_ws q.1 q.2.1 q.2.2, w ∈ vv_Ws) ∧ kf < q.2.2 ∧ Cond.fieldLink own idx q.1 (q.2.1 kf).2.1 (q.2.1 kf).2.2.1 ∈ vv_Ws ∧ (q.2.1 kf).1 = q.1
def vv_Fp (own : String) (idx ci kf : Nat) (ty : FieldType) : Prop := vv_Fg own idx ci kf ∧ ∀ (q : vw_C), vwCl[ci]? = some q → (q.2.1 kf).2.2.2 = false ∧ parseFieldDescriptor (q.2.1 kf).2.2.1 = some ty
def vv_Ff (own : String) (idx ci kf : Nat) (ty : FieldType) : Prop := vv_Fg own idx ci kf ∧ ∀ (q : vw_C), vwCl[ci]? = some q → (q.2.1 kf).2.2.2 = true ∧ (q.2.1 kf).1 = own ∧ parseFieldDescriptor (q.2.1 kf).2.2.1 = some ty
theorem iw_X0 : ∀ w ∈ u_ws RX0 TX0 3, w ∈ vv_Ws := vv_ins _ [246, 248, 250] (by decide +kernel) (by decide +kernel)
theorem iw_X1 : ∀ w ∈ u_ws RX1 TX1 2, w ∈ vv_Ws := vv_ins _ [132, 134] (by decide +kernel) (by decide +kernel)
theorem iw_X2 : ∀ w ∈ u_ws RX2 TX2 7, w ∈ vv_Ws := vv_ins _ [202, 204, 206, 208, 210, 212, 214] (by decide +kernel) (by decide +kernel)
theorem iw_X3 : ∀ w ∈ u_ws RX3 TX3 2, w ∈ vv_Ws := vv_ins _ [118, 120] (by decide +kernel) (by decide +kernel)
theorem iw_X4 : ∀ w ∈ u_ws RX4 TX4 5, w ∈ vv_Ws := vv_ins _ [317, 319, 321, 323, 325] (by decide +kernel) (by decide +kernel)
theorem iw_X5 : ∀ w ∈ u_ws RX5 TX5 4, w ∈ vv_Ws := vv_ins _ [227, 229, 231, 233] (by decide +kernel) (by decide +kernel)
theorem iw_X6 : ∀ w ∈ u_ws RX6 TX6 6, w ∈ vv_Ws := vv_ins _ [293, 295, 297, 299, 301, 303] (by decide +kernel) (by decide +kernel)
theorem iw_X7 : ∀ w ∈ u_ws RX7 TX7 7, w ∈ vv_Ws := vv_ins _ [266, 268, 270, 272, 274, 276, 278] (by decide +kernel) (by decide +kernel)
theorem iw_X8 : ∀ w ∈ u_ws RX8 TX8 6, w ∈ vv_Ws := vv_ins _ [342, 344, 346, 348, 350, 352] (by decide +kernel) (by decide +kernel)
theorem iw_X9 : ∀ w ∈ u_ws RX9 TX9 5, w ∈ vv_Ws := vv_ins _ [178, 180, 182, 184, 186] (by decide +kernel) (by decide +kernel)
theorem iw_X10 : ∀ w ∈ u_ws RX10 TX10 7, w ∈ vv_Ws := vv_ins _ [152, 154, 156, 158, 160, 162, 164] (by decide +kernel) (by decide +kernel)
theorem iw_X11 : ∀ w ∈ u_ws RX11 TX11 11, w ∈ vv_Ws := vv_ins _ [366, 368, 370, 372, 374, 376, 378, 380, 382, 384, 386] (by decide +kernel) (by decide +kernel)
theorem iw_X12 : ∀ w ∈ u_ws RX12 TX12 42, w ∈ vv_Ws := vv_ins _ [1098, 1100, 1102, 1104, 1106, 1108, 1110, 1112, 1114, 1116, 1118, 1120, 1122, 1124, 1126, 1128, 1130, 1132, 1134, 1136, 1138, 1140, 1142, 1144, 1146, 1148, 1150, 1152, 1154, 1156, 1158, 1160, 1162, 1164, 1166, 1168, 1170, 1172, 1174, 1176, 1178, 1180] (by decide +kernel) (by decide +kernel)
theorem fg_X0_11 : vv_Fg RX0 11 0 2 := ⟨(RX0, TX0, 3), rfl, iw_X0, by decide +kernel, vv_in 245 (by decide +kernel) (by decide +kernel), rfl⟩
theorem ff_X0_11 : vv_Ff RX0 11 0 2 (.array .int) := ⟨fg_X0_11, fun q hq => by cases hq; exact ⟨rfl, rfl, by decide +kernel⟩⟩
theorem fg_X0_15 : vv_Fg RX0 15 0 0 := ⟨(RX0, TX0, 3), rfl, iw_X0, by decide +kernel, vv_in 243 (by decide +kernel) (by decide +kernel), rfl⟩
theorem ff_X0_15 : vv_Ff RX0 15 0 0 (.object "LawfulSums$Laws") := ⟨fg_X0_15, fun q hq => by cases hq; exact ⟨rfl, rfl, by decide +kernel⟩⟩
theorem fg_X0_19 : vv_Fg RX0 19 0 1 := ⟨(RX0, TX0, 3), rfl, iw_X0, by decide +kernel, vv_in 244 (by decide +kernel) (by decide +kernel), rfl⟩
theorem ff_X0_19 : vv_Ff RX0 19 0 1 (.object "LawfulSums$Ledger") := ⟨fg_X0_19, fun q hq => by cases hq; exact ⟨rfl, rfl, by decide +kernel⟩⟩
theorem fg_X1_9 : vv_Fg RX1 9 1 0 := ⟨(RX1, TX1, 2), rfl, iw_X1, by decide +kernel, vv_in 130 (by decide +kernel) (by decide +kernel), rfl⟩
theorem ff_X1_9 : vv_Ff RX1 9 1 0 (.object "LawfulSums$Numbers") := ⟨fg_X1_9, fun q hq => by cases hq; exact ⟨rfl, rfl, by decide +kernel⟩⟩
theorem fg_X1_15 : vv_Fg RX1 15 1 1 := ⟨(RX1, TX1, 2), rfl, iw_X1, by decide +kernel, vv_in 131 (by decide +kernel) (by decide +kernel), rfl⟩
theorem fp_X1_15 : vv_Fp RX1 15 1 1 .int := ⟨fg_X1_15, fun q hq => by cases hq; exact ⟨rfl, by decide +kernel⟩⟩
theorem fg_X10_11 : vv_Fg RX10 11 10 1 := ⟨(RX10, TX10, 7), rfl, iw_X10, by decide +kernel, vv_in 146 (by decide +kernel) (by decide +kernel), rfl⟩
theorem ff_X10_11 : vv_Ff RX10 11 10 1 (.array .int) := ⟨fg_X10_11, fun q hq => by cases hq; exact ⟨rfl, rfl, by decide +kernel⟩⟩
theorem fg_X10_15 : vv_Fg RX10 15 10 3 := ⟨(RX10, TX10, 7), rfl, iw_X10, by decide +kernel, vv_in 148 (by decide +kernel) (by decide +kernel), rfl⟩
theorem ff_X10_15 : vv_Ff RX10 15 10 3 (.array .int) := ⟨fg_X10_15, fun q hq => by cases hq; exact ⟨rfl, rfl, by decide +kernel⟩⟩
theorem fg_X10_20 : vv_Fg RX10 20 10 4 := ⟨(RX10, TX10, 7), rfl, iw_X10, by decide +kernel, vv_in 149 (by decide +kernel) (by decide +kernel), rfl⟩
theorem ff_X10_20 : vv_Ff RX10 20 10 4 (.array (.array .int)) := ⟨fg_X10_20, fun q hq => by cases hq; exact ⟨rfl, rfl, by decide +kernel⟩⟩
theorem fg_X10_23 : vv_Fg RX10 23 10 5 := ⟨(RX10, TX10, 7), rfl, iw_X10, by decide +kernel, vv_in 150 (by decide +kernel) (by decide +kernel), rfl⟩
theorem fp_X10_23 : vv_Fp RX10 23 10 5 .int := ⟨fg_X10_23, fun q hq => by cases hq; exact ⟨rfl, by decide +kernel⟩⟩
theorem fg_X10_27 : vv_Fg RX10 27 10 6 := ⟨(RX10, TX10, 7), rfl, iw_X10, by decide +kernel, vv_in 151 (by decide +kernel) (by decide +kernel), rfl⟩
theorem fp_X10_27 : vv_Fp RX10 27 10 6 .int := ⟨fg_X10_27, fun q hq => by cases hq; exact ⟨rfl, by decide +kernel⟩⟩
theorem fg_X10_30 : vv_Fg RX10 30 10 0 := ⟨(RX10, TX10, 7), rfl, iw_X10, by decide +kernel, vv_in 145 (by decide +kernel) (by decide +kernel), rfl⟩
theorem ff_X10_30 : vv_Ff RX10 30 10 0 (.object "LawfulSums$Laws") := ⟨fg_X10_30, fun q hq => by cases hq; exact ⟨rfl, rfl, by decide +kernel⟩⟩
theorem fg_X10_43 : vv_Fg RX10 43 10 2 := ⟨(RX10, TX10, 7), rfl, iw_X10, by decide +kernel, vv_in 147 (by decide +kernel) (by decide +kernel), rfl⟩
theorem fp_X10_43 : vv_Fp RX10 43 10 2 .int := ⟨fg_X10_43, fun q hq => by cases hq; exact ⟨rfl, by decide +kernel⟩⟩
theorem fg_X11_10 : vv_Fg RX11 10 11 0 := ⟨(RX11, TX11, 11), rfl, iw_X11, by decide +kernel, vv_in 355 (by decide +kernel) (by decide +kernel), rfl⟩
theorem ff_X11_10 : vv_Ff RX11 10 11 0 (.object "LawfulSums$Numbers") := ⟨fg_X11_10, fun q hq => by cases hq; exact ⟨rfl, rfl, by decide +kernel⟩⟩
theorem fg_X11_21 : vv_Fg RX11 21 11 1 := ⟨(RX11, TX11, 11), rfl, iw_X11, by decide +kernel, vv_in 356 (by decide +kernel) (by decide +kernel), rfl⟩
theorem ff_X11_21 : vv_Ff RX11 21 11 1 (.object "LawfulSums$Laws") := ⟨fg_X11_21, fun q hq => by cases hq; exact ⟨rfl, rfl, by decide +kernel⟩⟩
theorem fg_X11_30 : vv_Fg RX11 30 11 2 := ⟨(RX11, TX11, 11), rfl, iw_X11, by decide +kernel, vv_in 357 (by decide +kernel) (by decide +kernel), rfl⟩
theorem ff_X11_30 : vv_Ff RX11 30 11 2 (.object "LawfulSums$Sums") := ⟨fg_X11_30, fun q hq => by cases hq; exact ⟨rfl, rfl, by decide +kernel⟩⟩
theorem fg_X11_37 : vv_Fg RX11 37 11 3 := ⟨(RX11, TX11, 11), rfl, iw_X11, by decide +kernel, vv_in 358 (by decide +kernel) (by decide +kernel), rfl⟩
theorem ff_X11_37 : vv_Ff RX11 37 11 3 (.object "LawfulSums$Split") := ⟨fg_X11_37, fun q hq => by cases hq; exact ⟨rfl, rfl, by decide +kernel⟩⟩
theorem fg_X11_44 : vv_Fg RX11 44 11 4 := ⟨(RX11, TX11, 11), rfl, iw_X11, by decide +kernel, vv_in 359 (by decide +kernel) (by decide +kernel), rfl⟩
theorem ff_X11_44 : vv_Ff RX11 44 11 4 (.object "LawfulSums$Ledger") := ⟨fg_X11_44, fun q hq => by cases hq; exact ⟨rfl, rfl, by decide +kernel⟩⟩
theorem fg_X11_53 : vv_Fg RX11 53 11 5 := ⟨(RX11, TX11, 11), rfl, iw_X11, by decide +kernel, vv_in 360 (by decide +kernel) (by decide +kernel), rfl⟩
theorem ff_X11_53 : vv_Ff RX11 53 11 5 (.object "LawfulSums$Purse") := ⟨fg_X11_53, fun q hq => by cases hq; exact ⟨rfl, rfl, by decide +kernel⟩⟩
theorem fg_X11_60 : vv_Fg RX11 60 11 6 := ⟨(RX11, TX11, 11), rfl, iw_X11, by decide +kernel, vv_in 361 (by decide +kernel) (by decide +kernel), rfl⟩
theorem ff_X11_60 : vv_Ff RX11 60 11 6 (.object "LawfulSums$Debts") := ⟨fg_X11_60, fun q hq => by cases hq; exact ⟨rfl, rfl, by decide +kernel⟩⟩
theorem fg_X11_67 : vv_Fg RX11 67 11 7 := ⟨(RX11, TX11, 11), rfl, iw_X11, by decide +kernel, vv_in 362 (by decide +kernel) (by decide +kernel), rfl⟩
theorem ff_X11_67 : vv_Ff RX11 67 11 7 (.object "LawfulSums$Seller") := ⟨fg_X11_67, fun q hq => by cases hq; exact ⟨rfl, rfl, by decide +kernel⟩⟩
theorem fg_X11_74 : vv_Fg RX11 74 11 8 := ⟨(RX11, TX11, 11), rfl, iw_X11, by decide +kernel, vv_in 363 (by decide +kernel) (by decide +kernel), rfl⟩
theorem ff_X11_74 : vv_Ff RX11 74 11 8 (.object "LawfulSums$Reader") := ⟨fg_X11_74, fun q hq => by cases hq; exact ⟨rfl, rfl, by decide +kernel⟩⟩
theorem fg_X11_81 : vv_Fg RX11 81 11 9 := ⟨(RX11, TX11, 11), rfl, iw_X11, by decide +kernel, vv_in 364 (by decide +kernel) (by decide +kernel), rfl⟩
theorem ff_X11_81 : vv_Ff RX11 81 11 9 (.object "LawfulSums$Payments") := ⟨fg_X11_81, fun q hq => by cases hq; exact ⟨rfl, rfl, by decide +kernel⟩⟩
theorem fg_X11_90 : vv_Fg RX11 90 11 10 := ⟨(RX11, TX11, 11), rfl, iw_X11, by decide +kernel, vv_in 365 (by decide +kernel) (by decide +kernel), rfl⟩
theorem ff_X11_90 : vv_Ff RX11 90 11 10 (.object "LawfulSums$Shelves") := ⟨fg_X11_90, fun q hq => by cases hq; exact ⟨rfl, rfl, by decide +kernel⟩⟩
theorem fg_X12_9 : vv_Fg RX12 9 12 0 := ⟨(RX12, TX12, 42), rfl, iw_X12, by decide +kernel, vv_in 1056 (by decide +kernel) (by decide +kernel), rfl⟩
theorem ff_X12_9 : vv_Ff RX12 9 12 0 (.array .int) := ⟨fg_X12_9, fun q hq => by cases hq; exact ⟨rfl, rfl, by decide +kernel⟩⟩
theorem fg_X12_13 : vv_Fg RX12 13 12 1 := ⟨(RX12, TX12, 42), rfl, iw_X12, by decide +kernel, vv_in 1057 (by decide +kernel) (by decide +kernel), rfl⟩
theorem ff_X12_13 : vv_Ff RX12 13 12 1 (.array .int) := ⟨fg_X12_13, fun q hq => by cases hq; exact ⟨rfl, rfl, by decide +kernel⟩⟩
theorem fg_X12_16 : vv_Fg RX12 16 12 2 := ⟨(RX12, TX12, 42), rfl, iw_X12, by decide +kernel, vv_in 1058 (by decide +kernel) (by decide +kernel), rfl⟩
theorem ff_X12_16 : vv_Ff RX12 16 12 2 (.array .int) := ⟨fg_X12_16, fun q hq => by cases hq; exact ⟨rfl, rfl, by decide +kernel⟩⟩
theorem fg_X12_19 : vv_Fg RX12 19 12 3 := ⟨(RX12, TX12, 42), rfl, iw_X12, by decide +kernel, vv_in 1059 (by decide +kernel) (by decide +kernel), rfl⟩
theorem ff_X12_19 : vv_Ff RX12 19 12 3 (.array .int) := ⟨fg_X12_19, fun q hq => by cases hq; exact ⟨rfl, rfl, by decide +kernel⟩⟩
theorem fg_X12_23 : vv_Fg RX12 23 12 7 := ⟨(RX12, TX12, 42), rfl, iw_X12, by decide +kernel, vv_in 1063 (by decide +kernel) (by decide +kernel), rfl⟩
theorem ff_X12_23 : vv_Ff RX12 23 12 7 (.array .boolean) := ⟨fg_X12_23, fun q hq => by cases hq; exact ⟨rfl, rfl, by decide +kernel⟩⟩
theorem fg_X12_27 : vv_Fg RX12 27 12 9 := ⟨(RX12, TX12, 42), rfl, iw_X12, by decide +kernel, vv_in 1065 (by decide +kernel) (by decide +kernel), rfl⟩
theorem ff_X12_27 : vv_Ff RX12 27 12 9 (.array .int) := ⟨fg_X12_27, fun q hq => by cases hq; exact ⟨rfl, rfl, by decide +kernel⟩⟩
theorem fg_X12_30 : vv_Fg RX12 30 12 11 := ⟨(RX12, TX12, 42), rfl, iw_X12, by decide +kernel, vv_in 1067 (by decide +kernel) (by decide +kernel), rfl⟩
theorem ff_X12_30 : vv_Ff RX12 30 12 11 (.array .boolean) := ⟨fg_X12_30, fun q hq => by cases hq; exact ⟨rfl, rfl, by decide +kernel⟩⟩
theorem fg_X12_33 : vv_Fg RX12 33 12 12 := ⟨(RX12, TX12, 42), rfl, iw_X12, by decide +kernel, vv_in 1068 (by decide +kernel) (by decide +kernel), rfl⟩
theorem ff_X12_33 : vv_Ff RX12 33 12 12 (.array .int) := ⟨fg_X12_33, fun q hq => by cases hq; exact ⟨rfl, rfl, by decide +kernel⟩⟩
theorem fg_X12_36 : vv_Fg RX12 36 12 13 := ⟨(RX12, TX12, 42), rfl, iw_X12, by decide +kernel, vv_in 1069 (by decide +kernel) (by decide +kernel), rfl⟩
theorem ff_X12_36 : vv_Ff RX12 36 12 13 (.array .long) := ⟨fg_X12_36, fun q hq => by cases hq; exact ⟨rfl, rfl, by decide +kernel⟩⟩
theorem fg_X12_41 : vv_Fg RX12 41 12 15 := ⟨(RX12, TX12, 42), rfl, iw_X12, by decide +kernel, vv_in 1071 (by decide +kernel) (by decide +kernel), rfl⟩
theorem ff_X12_41 : vv_Ff RX12 41 12 15 (.array .int) := ⟨fg_X12_41, fun q hq => by cases hq; exact ⟨rfl, rfl, by decide +kernel⟩⟩
theorem fg_X12_44 : vv_Fg RX12 44 12 16 := ⟨(RX12, TX12, 42), rfl, iw_X12, by decide +kernel, vv_in 1072 (by decide +kernel) (by decide +kernel), rfl⟩
theorem ff_X12_44 : vv_Ff RX12 44 12 16 (.array .int) := ⟨fg_X12_44, fun q hq => by cases hq; exact ⟨rfl, rfl, by decide +kernel⟩⟩
theorem fg_X12_47 : vv_Fg RX12 47 12 18 := ⟨(RX12, TX12, 42), rfl, iw_X12, by decide +kernel, vv_in 1074 (by decide +kernel) (by decide +kernel), rfl⟩
theorem ff_X12_47 : vv_Ff RX12 47 12 18 (.array .int) := ⟨fg_X12_47, fun q hq => by cases hq; exact ⟨rfl, rfl, by decide +kernel⟩⟩
theorem fg_X12_50 : vv_Fg RX12 50 12 25 := ⟨(RX12, TX12, 42), rfl, iw_X12, by decide +kernel, vv_in 1081 (by decide +kernel) (by decide +kernel), rfl⟩
theorem ff_X12_50 : vv_Ff RX12 50 12 25 (.array .int) := ⟨fg_X12_50, fun q hq => by cases hq; exact ⟨rfl, rfl, by decide +kernel⟩⟩
theorem fg_X12_53 : vv_Fg RX12 53 12 26 := ⟨(RX12, TX12, 42), rfl, iw_X12, by decide +kernel, vv_in 1082 (by decide +kernel) (by decide +kernel), rfl⟩
theorem ff_X12_53 : vv_Ff RX12 53 12 26 (.array .int) := ⟨fg_X12_53, fun q hq => by cases hq; exact ⟨rfl, rfl, by decide +kernel⟩⟩
theorem fg_X12_56 : vv_Fg RX12 56 12 27 := ⟨(RX12, TX12, 42), rfl, iw_X12, by decide +kernel, vv_in 1083 (by decide +kernel) (by decide +kernel), rfl⟩
theorem ff_X12_56 : vv_Ff RX12 56 12 27 (.array .int) := ⟨fg_X12_56, fun q hq => by cases hq; exact ⟨rfl, rfl, by decide +kernel⟩⟩
theorem fg_X12_59 : vv_Fg RX12 59 12 31 := ⟨(RX12, TX12, 42), rfl, iw_X12, by decide +kernel, vv_in 1087 (by decide +kernel) (by decide +kernel), rfl⟩
theorem ff_X12_59 : vv_Ff RX12 59 12 31 (.array .int) := ⟨fg_X12_59, fun q hq => by cases hq; exact ⟨rfl, rfl, by decide +kernel⟩⟩
theorem fg_X12_62 : vv_Fg RX12 62 12 33 := ⟨(RX12, TX12, 42), rfl, iw_X12, by decide +kernel, vv_in 1089 (by decide +kernel) (by decide +kernel), rfl⟩
theorem ff_X12_62 : vv_Ff RX12 62 12 33 (.array .int) := ⟨fg_X12_62, fun q hq => by cases hq; exact ⟨rfl, rfl, by decide +kernel⟩⟩
theorem fg_X12_65 : vv_Fg RX12 65 12 34 := ⟨(RX12, TX12, 42), rfl, iw_X12, by decide +kernel, vv_in 1090 (by decide +kernel) (by decide +kernel), rfl⟩
theorem ff_X12_65 : vv_Ff RX12 65 12 34 (.array .int) := ⟨fg_X12_65, fun q hq => by cases hq; exact ⟨rfl, rfl, by decide +kernel⟩⟩
theorem fg_X12_68 : vv_Fg RX12 68 12 38 := ⟨(RX12, TX12, 42), rfl, iw_X12, by decide +kernel, vv_in 1094 (by decide +kernel) (by decide +kernel), rfl⟩
theorem ff_X12_68 : vv_Ff RX12 68 12 38 (.array .int) := ⟨fg_X12_68, fun q hq => by cases hq; exact ⟨rfl, rfl, by decide +kernel⟩⟩
theorem fg_X12_71 : vv_Fg RX12 71 12 39 := ⟨(RX12, TX12, 42), rfl, iw_X12, by decide +kernel, vv_in 1095 (by decide +kernel) (by decide +kernel), rfl⟩
theorem ff_X12_71 : vv_Ff RX12 71 12 39 (.array .int) := ⟨fg_X12_71, fun q hq => by cases hq; exact ⟨rfl, rfl, by decide +kernel⟩⟩
theorem fg_X12_74 : vv_Fg RX12 74 12 40 := ⟨(RX12, TX12, 42), rfl, iw_X12, by decide +kernel, vv_in 1096 (by decide +kernel) (by decide +kernel), rfl⟩
theorem ff_X12_74 : vv_Ff RX12 74 12 40 (.array .long) := ⟨fg_X12_74, fun q hq => by cases hq; exact ⟨rfl, rfl, by decide +kernel⟩⟩
theorem fg_X12_77 : vv_Fg RX12 77 12 41 := ⟨(RX12, TX12, 42), rfl, iw_X12, by decide +kernel, vv_in 1097 (by decide +kernel) (by decide +kernel), rfl⟩
theorem ff_X12_77 : vv_Ff RX12 77 12 41 (.array .long) := ⟨fg_X12_77, fun q hq => by cases hq; exact ⟨rfl, rfl, by decide +kernel⟩⟩
theorem fg_X12_80 : vv_Fg RX12 80 12 19 := ⟨(RX12, TX12, 42), rfl, iw_X12, by decide +kernel, vv_in 1075 (by decide +kernel) (by decide +kernel), rfl⟩
theorem fp_X12_80 : vv_Fp RX12 80 12 19 .int := ⟨fg_X12_80, fun q hq => by cases hq; exact ⟨rfl, by decide +kernel⟩⟩
theorem fg_X12_84 : vv_Fg RX12 84 12 5 := ⟨(RX12, TX12, 42), rfl, iw_X12, by decide +kernel, vv_in 1061 (by decide +kernel) (by decide +kernel), rfl⟩
theorem fp_X12_84 : vv_Fp RX12 84 12 5 .int := ⟨fg_X12_84, fun q hq => by cases hq; exact ⟨rfl, by decide +kernel⟩⟩
theorem fg_X12_87 : vv_Fg RX12 87 12 4 := ⟨(RX12, TX12, 42), rfl, iw_X12, by decide +kernel, vv_in 1060 (by decide +kernel) (by decide +kernel), rfl⟩
theorem fp_X12_87 : vv_Fp RX12 87 12 4 .int := ⟨fg_X12_87, fun q hq => by cases hq; exact ⟨rfl, by decide +kernel⟩⟩
theorem fg_X12_98 : vv_Fg RX12 98 12 8 := ⟨(RX12, TX12, 42), rfl, iw_X12, by decide +kernel, vv_in 1064 (by decide +kernel) (by decide +kernel), rfl⟩
theorem fp_X12_98 : vv_Fp RX12 98 12 8 .boolean := ⟨fg_X12_98, fun q hq => by cases hq; exact ⟨rfl, by decide +kernel⟩⟩
theorem fg_X12_117 : vv_Fg RX12 117 12 6 := ⟨(RX12, TX12, 42), rfl, iw_X12, by decide +kernel, vv_in 1062 (by decide +kernel) (by decide +kernel), rfl⟩
theorem fp_X12_117 : vv_Fp RX12 117 12 6 .int := ⟨fg_X12_117, fun q hq => by cases hq; exact ⟨rfl, by decide +kernel⟩⟩
theorem fg_X12_142 : vv_Fg RX12 142 12 10 := ⟨(RX12, TX12, 42), rfl, iw_X12, by decide +kernel, vv_in 1066 (by decide +kernel) (by decide +kernel), rfl⟩
theorem fp_X12_142 : vv_Fp RX12 142 12 10 .int := ⟨fg_X12_142, fun q hq => by cases hq; exact ⟨rfl, by decide +kernel⟩⟩
theorem fg_X12_174 : vv_Fg RX12 174 12 14 := ⟨(RX12, TX12, 42), rfl, iw_X12, by decide +kernel, vv_in 1070 (by decide +kernel) (by decide +kernel), rfl⟩
theorem fp_X12_174 : vv_Fp RX12 174 12 14 .int := ⟨fg_X12_174, fun q hq => by cases hq; exact ⟨rfl, by decide +kernel⟩⟩
theorem fg_X12_207 : vv_Fg RX12 207 12 17 := ⟨(RX12, TX12, 42), rfl, iw_X12, by decide +kernel, vv_in 1073 (by decide +kernel) (by decide +kernel), rfl⟩
theorem fp_X12_207 : vv_Fp RX12 207 12 17 .int := ⟨fg_X12_207, fun q hq => by cases hq; exact ⟨rfl, by decide +kernel⟩⟩
theorem fg_X12_210 : vv_Fg RX12 210 12 21 := ⟨(RX12, TX12, 42), rfl, iw_X12, by decide +kernel, vv_in 1077 (by decide +kernel) (by decide +kernel), rfl⟩
theorem fp_X12_210 : vv_Fp RX12 210 12 21 .int := ⟨fg_X12_210, fun q hq => by cases hq; exact ⟨rfl, by decide +kernel⟩⟩
theorem fg_X12_213 : vv_Fg RX12 213 12 22 := ⟨(RX12, TX12, 42), rfl, iw_X12, by decide +kernel, vv_in 1078 (by decide +kernel) (by decide +kernel), rfl⟩
theorem fp_X12_213 : vv_Fp RX12 213 12 22 .int := ⟨fg_X12_213, fun q hq => by cases hq; exact ⟨rfl, by decide +kernel⟩⟩
theorem fg_X12_216 : vv_Fg RX12 216 12 20 := ⟨(RX12, TX12, 42), rfl, iw_X12, by decide +kernel, vv_in 1076 (by decide +kernel) (by decide +kernel), rfl⟩
theorem fp_X12_216 : vv_Fp RX12 216 12 20 .int := ⟨fg_X12_216, fun q hq => by cases hq; exact ⟨rfl, by decide +kernel⟩⟩
theorem fg_X12_219 : vv_Fg RX12 219 12 23 := ⟨(RX12, TX12, 42), rfl, iw_X12, by decide +kernel, vv_in 1079 (by decide +kernel) (by decide +kernel), rfl⟩
theorem fp_X12_219 : vv_Fp RX12 219 12 23 .int := ⟨fg_X12_219, fun q hq => by cases hq; exact ⟨rfl, by decide +kernel⟩⟩
theorem fg_X12_244 : vv_Fg RX12 244 12 24 := ⟨(RX12, TX12, 42), rfl, iw_X12, by decide +kernel, vv_in 1080 (by decide +kernel) (by decide +kernel), rfl⟩
theorem fp_X12_244 : vv_Fp RX12 244 12 24 .int := ⟨fg_X12_244, fun q hq => by cases hq; exact ⟨rfl, by decide +kernel⟩⟩
theorem fg_X12_267 : vv_Fg RX12 267 12 28 := ⟨(RX12, TX12, 42), rfl, iw_X12, by decide +kernel, vv_in 1084 (by decide +kernel) (by decide +kernel), rfl⟩
theorem fp_X12_267 : vv_Fp RX12 267 12 28 .int := ⟨fg_X12_267, fun q hq => by cases hq; exact ⟨rfl, by decide +kernel⟩⟩
theorem fg_X12_294 : vv_Fg RX12 294 12 29 := ⟨(RX12, TX12, 42), rfl, iw_X12, by decide +kernel, vv_in 1085 (by decide +kernel) (by decide +kernel), rfl⟩
theorem fp_X12_294 : vv_Fp RX12 294 12 29 .int := ⟨fg_X12_294, fun q hq => by cases hq; exact ⟨rfl, by decide +kernel⟩⟩
theorem fg_X12_297 : vv_Fg RX12 297 12 30 := ⟨(RX12, TX12, 42), rfl, iw_X12, by decide +kernel, vv_in 1086 (by decide +kernel) (by decide +kernel), rfl⟩
theorem fp_X12_297 : vv_Fp RX12 297 12 30 .int := ⟨fg_X12_297, fun q hq => by cases hq; exact ⟨rfl, by decide +kernel⟩⟩
theorem fg_X12_314 : vv_Fg RX12 314 12 32 := ⟨(RX12, TX12, 42), rfl, iw_X12, by decide +kernel, vv_in 1088 (by decide +kernel) (by decide +kernel), rfl⟩
theorem fp_X12_314 : vv_Fp RX12 314 12 32 .int := ⟨fg_X12_314, fun q hq => by cases hq; exact ⟨rfl, by decide +kernel⟩⟩
theorem fg_X12_317 : vv_Fg RX12 317 12 35 := ⟨(RX12, TX12, 42), rfl, iw_X12, by decide +kernel, vv_in 1091 (by decide +kernel) (by decide +kernel), rfl⟩
theorem fp_X12_317 : vv_Fp RX12 317 12 35 .int := ⟨fg_X12_317, fun q hq => by cases hq; exact ⟨rfl, by decide +kernel⟩⟩
theorem fg_X12_326 : vv_Fg RX12 326 12 37 := ⟨(RX12, TX12, 42), rfl, iw_X12, by decide +kernel, vv_in 1093 (by decide +kernel) (by decide +kernel), rfl⟩
theorem fp_X12_326 : vv_Fp RX12 326 12 37 .int := ⟨fg_X12_326, fun q hq => by cases hq; exact ⟨rfl, by decide +kernel⟩⟩
theorem fg_X12_332 : vv_Fg RX12 332 12 36 := ⟨(RX12, TX12, 42), rfl, iw_X12, by decide +kernel, vv_in 1092 (by decide +kernel) (by decide +kernel), rfl⟩
theorem fp_X12_332 : vv_Fp RX12 332 12 36 .int := ⟨fg_X12_332, fun q hq => by cases hq; exact ⟨rfl, by decide +kernel⟩⟩
theorem fg_X2_11 : vv_Fg RX2 11 2 0 := ⟨(RX2, TX2, 7), rfl, iw_X2, by decide +kernel, vv_in 195 (by decide +kernel) (by decide +kernel), rfl⟩
theorem ff_X2_11 : vv_Ff RX2 11 2 0 (.array .int) := ⟨fg_X2_11, fun q hq => by cases hq; exact ⟨rfl, rfl, by decide +kernel⟩⟩
theorem fg_X2_15 : vv_Fg RX2 15 2 1 := ⟨(RX2, TX2, 7), rfl, iw_X2, by decide +kernel, vv_in 196 (by decide +kernel) (by decide +kernel), rfl⟩
theorem ff_X2_15 : vv_Ff RX2 15 2 1 (.array .int) := ⟨fg_X2_15, fun q hq => by cases hq; exact ⟨rfl, rfl, by decide +kernel⟩⟩
theorem fg_X2_18 : vv_Fg RX2 18 2 2 := ⟨(RX2, TX2, 7), rfl, iw_X2, by decide +kernel, vv_in 197 (by decide +kernel) (by decide +kernel), rfl⟩
theorem ff_X2_18 : vv_Ff RX2 18 2 2 (.array .int) := ⟨fg_X2_18, fun q hq => by cases hq; exact ⟨rfl, rfl, by decide +kernel⟩⟩
theorem fg_X2_21 : vv_Fg RX2 21 2 3 := ⟨(RX2, TX2, 7), rfl, iw_X2, by decide +kernel, vv_in 198 (by decide +kernel) (by decide +kernel), rfl⟩
theorem ff_X2_21 : vv_Ff RX2 21 2 3 (.array .int) := ⟨fg_X2_21, fun q hq => by cases hq; exact ⟨rfl, rfl, by decide +kernel⟩⟩
theorem fg_X2_24 : vv_Fg RX2 24 2 5 := ⟨(RX2, TX2, 7), rfl, iw_X2, by decide +kernel, vv_in 200 (by decide +kernel) (by decide +kernel), rfl⟩
theorem fp_X2_24 : vv_Fp RX2 24 2 5 .int := ⟨fg_X2_24, fun q hq => by cases hq; exact ⟨rfl, by decide +kernel⟩⟩
theorem fg_X2_28 : vv_Fg RX2 28 2 4 := ⟨(RX2, TX2, 7), rfl, iw_X2, by decide +kernel, vv_in 199 (by decide +kernel) (by decide +kernel), rfl⟩
theorem fp_X2_28 : vv_Fp RX2 28 2 4 .int := ⟨fg_X2_28, fun q hq => by cases hq; exact ⟨rfl, by decide +kernel⟩⟩
theorem fg_X2_35 : vv_Fg RX2 35 2 6 := ⟨(RX2, TX2, 7), rfl, iw_X2, by decide +kernel, vv_in 201 (by decide +kernel) (by decide +kernel), rfl⟩
theorem fp_X2_35 : vv_Fp RX2 35 2 6 .int := ⟨fg_X2_35, fun q hq => by cases hq; exact ⟨rfl, by decide +kernel⟩⟩
theorem fg_X3_11 : vv_Fg RX3 11 3 0 := ⟨(RX3, TX3, 2), rfl, iw_X3, by decide +kernel, vv_in 116 (by decide +kernel) (by decide +kernel), rfl⟩
theorem ff_X3_11 : vv_Ff RX3 11 3 0 (.array .int) := ⟨fg_X3_11, fun q hq => by cases hq; exact ⟨rfl, rfl, by decide +kernel⟩⟩
theorem fg_X3_15 : vv_Fg RX3 15 3 1 := ⟨(RX3, TX3, 2), rfl, iw_X3, by decide +kernel, vv_in 117 (by decide +kernel) (by decide +kernel), rfl⟩
theorem ff_X3_15 : vv_Ff RX3 15 3 1 (.array .int) := ⟨fg_X3_15, fun q hq => by cases hq; exact ⟨rfl, rfl, by decide +kernel⟩⟩
theorem gs_X3_38 : Cond.fieldLink RX3 38 "LawfulSums$Numbers" "BASES" "[I" ∈ vv_Ws := vv_in 427 (by decide +kernel) (by decide +kernel)
theorem fg_X4_11 : vv_Fg RX4 11 4 0 := ⟨(RX4, TX4, 5), rfl, iw_X4, by decide +kernel, vv_in 312 (by decide +kernel) (by decide +kernel), rfl⟩
theorem ff_X4_11 : vv_Ff RX4 11 4 0 (.array .int) := ⟨fg_X4_11, fun q hq => by cases hq; exact ⟨rfl, rfl, by decide +kernel⟩⟩
theorem fg_X4_15 : vv_Fg RX4 15 4 1 := ⟨(RX4, TX4, 5), rfl, iw_X4, by decide +kernel, vv_in 313 (by decide +kernel) (by decide +kernel), rfl⟩
theorem ff_X4_15 : vv_Ff RX4 15 4 1 (.array .int) := ⟨fg_X4_15, fun q hq => by cases hq; exact ⟨rfl, rfl, by decide +kernel⟩⟩
theorem fg_X4_18 : vv_Fg RX4 18 4 2 := ⟨(RX4, TX4, 5), rfl, iw_X4, by decide +kernel, vv_in 314 (by decide +kernel) (by decide +kernel), rfl⟩
theorem fp_X4_18 : vv_Fp RX4 18 4 2 .int := ⟨fg_X4_18, fun q hq => by cases hq; exact ⟨rfl, by decide +kernel⟩⟩
theorem fg_X4_22 : vv_Fg RX4 22 4 3 := ⟨(RX4, TX4, 5), rfl, iw_X4, by decide +kernel, vv_in 315 (by decide +kernel) (by decide +kernel), rfl⟩
theorem fp_X4_22 : vv_Fp RX4 22 4 3 .int := ⟨fg_X4_22, fun q hq => by cases hq; exact ⟨rfl, by decide +kernel⟩⟩
theorem gs_X4_25 : Cond.fieldLink RX4 25 "LawfulSums$Payments" "ABOVE" "[I" ∈ vv_Ws := vv_in 943 (by decide +kernel) (by decide +kernel)
theorem fg_X4_32 : vv_Fg RX4 32 4 4 := ⟨(RX4, TX4, 5), rfl, iw_X4, by decide +kernel, vv_in 316 (by decide +kernel) (by decide +kernel), rfl⟩
theorem fp_X4_32 : vv_Fp RX4 32 4 4 .int := ⟨fg_X4_32, fun q hq => by cases hq; exact ⟨rfl, by decide +kernel⟩⟩
theorem gs_X4_43 : Cond.fieldLink RX4 43 "LawfulSums$Payments" "OWN" "[I" ∈ vv_Ws := vv_in 941 (by decide +kernel) (by decide +kernel)
theorem fg_X5_13 : vv_Fg RX5 13 5 2 := ⟨(RX5, TX5, 4), rfl, iw_X5, by decide +kernel, vv_in 225 (by decide +kernel) (by decide +kernel), rfl⟩
theorem ff_X5_13 : vv_Ff RX5 13 5 2 (.array .long) := ⟨fg_X5_13, fun q hq => by cases hq; exact ⟨rfl, rfl, by decide +kernel⟩⟩
theorem fg_X5_17 : vv_Fg RX5 17 5 0 := ⟨(RX5, TX5, 4), rfl, iw_X5, by decide +kernel, vv_in 223 (by decide +kernel) (by decide +kernel), rfl⟩
theorem ff_X5_17 : vv_Ff RX5 17 5 0 (.object "LawfulSums$Laws") := ⟨fg_X5_17, fun q hq => by cases hq; exact ⟨rfl, rfl, by decide +kernel⟩⟩
theorem fg_X5_21 : vv_Fg RX5 21 5 1 := ⟨(RX5, TX5, 4), rfl, iw_X5, by decide +kernel, vv_in 224 (by decide +kernel) (by decide +kernel), rfl⟩
theorem ff_X5_21 : vv_Ff RX5 21 5 1 (.object "LawfulSums$Ledger") := ⟨fg_X5_21, fun q hq => by cases hq; exact ⟨rfl, rfl, by decide +kernel⟩⟩
theorem fg_X5_29 : vv_Fg RX5 29 5 3 := ⟨(RX5, TX5, 4), rfl, iw_X5, by decide +kernel, vv_in 226 (by decide +kernel) (by decide +kernel), rfl⟩
theorem fp_X5_29 : vv_Fp RX5 29 5 3 .int := ⟨fg_X5_29, fun q hq => by cases hq; exact ⟨rfl, by decide +kernel⟩⟩
theorem fg_X6_11 : vv_Fg RX6 11 6 0 := ⟨(RX6, TX6, 6), rfl, iw_X6, by decide +kernel, vv_in 287 (by decide +kernel) (by decide +kernel), rfl⟩
theorem ff_X6_11 : vv_Ff RX6 11 6 0 (.array .int) := ⟨fg_X6_11, fun q hq => by cases hq; exact ⟨rfl, rfl, by decide +kernel⟩⟩
theorem fg_X6_15 : vv_Fg RX6 15 6 1 := ⟨(RX6, TX6, 6), rfl, iw_X6, by decide +kernel, vv_in 288 (by decide +kernel) (by decide +kernel), rfl⟩
theorem ff_X6_15 : vv_Ff RX6 15 6 1 (.array .int) := ⟨fg_X6_15, fun q hq => by cases hq; exact ⟨rfl, rfl, by decide +kernel⟩⟩
theorem fg_X6_18 : vv_Fg RX6 18 6 2 := ⟨(RX6, TX6, 6), rfl, iw_X6, by decide +kernel, vv_in 289 (by decide +kernel) (by decide +kernel), rfl⟩
theorem fp_X6_18 : vv_Fp RX6 18 6 2 .int := ⟨fg_X6_18, fun q hq => by cases hq; exact ⟨rfl, by decide +kernel⟩⟩
theorem fg_X6_22 : vv_Fg RX6 22 6 4 := ⟨(RX6, TX6, 6), rfl, iw_X6, by decide +kernel, vv_in 291 (by decide +kernel) (by decide +kernel), rfl⟩
theorem fp_X6_22 : vv_Fp RX6 22 6 4 .int := ⟨fg_X6_22, fun q hq => by cases hq; exact ⟨rfl, by decide +kernel⟩⟩
theorem fg_X6_25 : vv_Fg RX6 25 6 3 := ⟨(RX6, TX6, 6), rfl, iw_X6, by decide +kernel, vv_in 290 (by decide +kernel) (by decide +kernel), rfl⟩
theorem fp_X6_25 : vv_Fp RX6 25 6 3 .int := ⟨fg_X6_25, fun q hq => by cases hq; exact ⟨rfl, by decide +kernel⟩⟩
theorem fg_X6_28 : vv_Fg RX6 28 6 5 := ⟨(RX6, TX6, 6), rfl, iw_X6, by decide +kernel, vv_in 292 (by decide +kernel) (by decide +kernel), rfl⟩
theorem fp_X6_28 : vv_Fp RX6 28 6 5 .int := ⟨fg_X6_28, fun q hq => by cases hq; exact ⟨rfl, by decide +kernel⟩⟩
theorem fg_X7_11 : vv_Fg RX7 11 7 1 := ⟨(RX7, TX7, 7), rfl, iw_X7, by decide +kernel, vv_in 260 (by decide +kernel) (by decide +kernel), rfl⟩
theorem ff_X7_11 : vv_Ff RX7 11 7 1 (.array .int) := ⟨fg_X7_11, fun q hq => by cases hq; exact ⟨rfl, rfl, by decide +kernel⟩⟩
theorem fg_X7_17 : vv_Fg RX7 17 7 2 := ⟨(RX7, TX7, 7), rfl, iw_X7, by decide +kernel, vv_in 261 (by decide +kernel) (by decide +kernel), rfl⟩
theorem ff_X7_17 : vv_Ff RX7 17 7 2 (.array .int) := ⟨fg_X7_17, fun q hq => by cases hq; exact ⟨rfl, rfl, by decide +kernel⟩⟩
theorem fg_X7_20 : vv_Fg RX7 20 7 0 := ⟨(RX7, TX7, 7), rfl, iw_X7, by decide +kernel, vv_in 259 (by decide +kernel) (by decide +kernel), rfl⟩
theorem ff_X7_20 : vv_Ff RX7 20 7 0 (.object "LawfulSums$Laws") := ⟨fg_X7_20, fun q hq => by cases hq; exact ⟨rfl, rfl, by decide +kernel⟩⟩
theorem fg_X7_24 : vv_Fg RX7 24 7 3 := ⟨(RX7, TX7, 7), rfl, iw_X7, by decide +kernel, vv_in 262 (by decide +kernel) (by decide +kernel), rfl⟩
theorem fp_X7_24 : vv_Fp RX7 24 7 3 .int := ⟨fg_X7_24, fun q hq => by cases hq; exact ⟨rfl, by decide +kernel⟩⟩
theorem fg_X7_42 : vv_Fg RX7 42 7 5 := ⟨(RX7, TX7, 7), rfl, iw_X7, by decide +kernel, vv_in 264 (by decide +kernel) (by decide +kernel), rfl⟩
theorem fp_X7_42 : vv_Fp RX7 42 7 5 .int := ⟨fg_X7_42, fun q hq => by cases hq; exact ⟨rfl, by decide +kernel⟩⟩
theorem fg_X7_45 : vv_Fg RX7 45 7 6 := ⟨(RX7, TX7, 7), rfl, iw_X7, by decide +kernel, vv_in 265 (by decide +kernel) (by decide +kernel), rfl⟩
theorem fp_X7_45 : vv_Fp RX7 45 7 6 .int := ⟨fg_X7_45, fun q hq => by cases hq; exact ⟨rfl, by decide +kernel⟩⟩
theorem fg_X7_61 : vv_Fg RX7 61 7 4 := ⟨(RX7, TX7, 7), rfl, iw_X7, by decide +kernel, vv_in 263 (by decide +kernel) (by decide +kernel), rfl⟩
theorem fp_X7_61 : vv_Fp RX7 61 7 4 .int := ⟨fg_X7_61, fun q hq => by cases hq; exact ⟨rfl, by decide +kernel⟩⟩
theorem fg_X8_11 : vv_Fg RX8 11 8 2 := ⟨(RX8, TX8, 6), rfl, iw_X8, by decide +kernel, vv_in 338 (by decide +kernel) (by decide +kernel), rfl⟩
theorem ff_X8_11 : vv_Ff RX8 11 8 2 (.array .int) := ⟨fg_X8_11, fun q hq => by cases hq; exact ⟨rfl, rfl, by decide +kernel⟩⟩
theorem fg_X8_15 : vv_Fg RX8 15 8 3 := ⟨(RX8, TX8, 6), rfl, iw_X8, by decide +kernel, vv_in 339 (by decide +kernel) (by decide +kernel), rfl⟩
theorem ff_X8_15 : vv_Ff RX8 15 8 3 (.array .int) := ⟨fg_X8_15, fun q hq => by cases hq; exact ⟨rfl, rfl, by decide +kernel⟩⟩
theorem fg_X8_18 : vv_Fg RX8 18 8 4 := ⟨(RX8, TX8, 6), rfl, iw_X8, by decide +kernel, vv_in 340 (by decide +kernel) (by decide +kernel), rfl⟩
theorem ff_X8_18 : vv_Ff RX8 18 8 4 (.array .int) := ⟨fg_X8_18, fun q hq => by cases hq; exact ⟨rfl, rfl, by decide +kernel⟩⟩
theorem fg_X8_23 : vv_Fg RX8 23 8 5 := ⟨(RX8, TX8, 6), rfl, iw_X8, by decide +kernel, vv_in 341 (by decide +kernel) (by decide +kernel), rfl⟩
theorem ff_X8_23 : vv_Ff RX8 23 8 5 (.array (.array .long)) := ⟨fg_X8_23, fun q hq => by cases hq; exact ⟨rfl, rfl, by decide +kernel⟩⟩
theorem fg_X8_26 : vv_Fg RX8 26 8 0 := ⟨(RX8, TX8, 6), rfl, iw_X8, by decide +kernel, vv_in 336 (by decide +kernel) (by decide +kernel), rfl⟩
theorem ff_X8_26 : vv_Ff RX8 26 8 0 (.object "LawfulSums$Laws") := ⟨fg_X8_26, fun q hq => by cases hq; exact ⟨rfl, rfl, by decide +kernel⟩⟩
theorem fg_X8_30 : vv_Fg RX8 30 8 1 := ⟨(RX8, TX8, 6), rfl, iw_X8, by decide +kernel, vv_in 337 (by decide +kernel) (by decide +kernel), rfl⟩
theorem ff_X8_30 : vv_Ff RX8 30 8 1 (.object "LawfulSums$Payments") := ⟨fg_X8_30, fun q hq => by cases hq; exact ⟨rfl, rfl, by decide +kernel⟩⟩
theorem fg_X9_11 : vv_Fg RX9 11 9 1 := ⟨(RX9, TX9, 5), rfl, iw_X9, by decide +kernel, vv_in 174 (by decide +kernel) (by decide +kernel), rfl⟩
theorem ff_X9_11 : vv_Ff RX9 11 9 1 (.array .int) := ⟨fg_X9_11, fun q hq => by cases hq; exact ⟨rfl, rfl, by decide +kernel⟩⟩
theorem fg_X9_15 : vv_Fg RX9 15 9 2 := ⟨(RX9, TX9, 5), rfl, iw_X9, by decide +kernel, vv_in 175 (by decide +kernel) (by decide +kernel), rfl⟩
theorem ff_X9_15 : vv_Ff RX9 15 9 2 (.array .int) := ⟨fg_X9_15, fun q hq => by cases hq; exact ⟨rfl, rfl, by decide +kernel⟩⟩
theorem fg_X9_18 : vv_Fg RX9 18 9 0 := ⟨(RX9, TX9, 5), rfl, iw_X9, by decide +kernel, vv_in 173 (by decide +kernel) (by decide +kernel), rfl⟩
theorem ff_X9_18 : vv_Ff RX9 18 9 0 (.object "LawfulSums$Laws") := ⟨fg_X9_18, fun q hq => by cases hq; exact ⟨rfl, rfl, by decide +kernel⟩⟩
theorem fg_X9_22 : vv_Fg RX9 22 9 3 := ⟨(RX9, TX9, 5), rfl, iw_X9, by decide +kernel, vv_in 176 (by decide +kernel) (by decide +kernel), rfl⟩
theorem fp_X9_22 : vv_Fp RX9 22 9 3 .int := ⟨fg_X9_22, fun q hq => by cases hq; exact ⟨rfl, by decide +kernel⟩⟩
theorem fg_X9_26 : vv_Fg RX9 26 9 4 := ⟨(RX9, TX9, 5), rfl, iw_X9, by decide +kernel, vv_in 177 (by decide +kernel) (by decide +kernel), rfl⟩
theorem fp_X9_26 : vv_Fp RX9 26 9 4 .int := ⟨fg_X9_26, fun q hq => by cases hq; exact ⟨rfl, by decide +kernel⟩⟩
