/-- the words of the tables that go along with every call -/
def xW : List Cond := lw_tbl.filter goodWord
theorem xW_good {w : Cond} (h : w ∈ xW) : (w.onTables && w.keeps) = true ∨ ∃ ty, w = .arrayClass ty := good_of_word (List.mem_filter.mp h).2
theorem xW_tbl {w : Cond} (h : w ∈ xW) : w ∈ lw_tbl := (List.mem_filter.mp h).1
theorem xw_of {w : Cond} (i : Nat) (h : lw_tbl[i]? = some w) (hg : goodWord w = true) : w ∈ xW := List.mem_filter.mpr ⟨List.mem_of_getElem? h, hg⟩
/-- a field of an object: the constant pool's entry idx of the class own is field k of class number ci -/
def xFl (own : String) (idx ci k : Nat) (ty : FieldType) (fin : Bool) : Prop := ∃ (C : String) (T : u_T) (N : Nat) (ty0 : Nat → FieldType), vwCl[ci]? = some (C, T, N) ∧ (∀ w ∈ u_ws C T N, w ∈ xW) ∧ (∀ k, k < N → parseFieldDescriptor (T k).2.2.1 = some (ty0 k)) ∧ (∀ a, a < N → ∀ b, b < N → a ≠ b → (T a).2.1 ≠ (T b).2.1) ∧ k < N ∧ Cond.fieldLink own idx (T k).1 (T k).2.1 (T k).2.2.1 ∈ xW ∧ (T k).2.2.2 = fin ∧ parseFieldDescriptor (T k).2.2.1 = some ty ∧ (T k).1 = C
/-- a class that is made -/
def xNw (own : String) (idx ci N : Nat) (fs : List Value) : Prop := ∃ (C : String) (T : u_T) (ty0 : Nat → FieldType), vwCl[ci]? = some (C, T, N) ∧ (∀ w ∈ u_ws C T N, w ∈ xW) ∧ (∀ k, k < N → parseFieldDescriptor (T k).2.2.1 = some (ty0 k)) ∧ Cond.classLink own idx C ∈ xW ∧ Cond.instantiable C N ∈ xW ∧ Cond.initialized C ∈ xW ∧ ∀ j, j < N → defaultValue (ty0 j) = vp_V fs j
/-- a method that is called: its code, its class, its number of arguments -/
def xMy (y : MethodName) (cc : ByteArray) (nL : Nat) (ret : Option FieldType) (n : Nat) : Prop := Cond.code y cc nL ret ∈ xW ∧ Cond.initialized y.cls ∈ xW ∧ y.cls ≠ "java/lang/invoke/MethodHandle" ∧ y.cls ≠ "java/lang/invoke/VarHandle" ∧ (parseMethodDescriptor y.desc).map (fun d => d.parameters.length) = some n
def xMv (y : MethodName) (cc : ByteArray) (nL : Nat) (ret : Option FieldType) (n : Nat) : Prop := xMy y cc nL ret n ∧ Cond.instanceMethod y ∈ xW ∧ Cond.selects y.cls y y ∈ xW
def xMs (y : MethodName) (cc : ByteArray) (nL : Nat) (ret : Option FieldType) (n : Nat) : Prop := xMy y cc nL ret n ∧ Cond.static y ∈ xW
def xMi (y : MethodName) (cc : ByteArray) (nL : Nat) (ret : Option FieldType) (n : Nat) : Prop := xMy y cc nL ret n ∧ Cond.instanceMethod y ∈ xW ∧ y.name = "<init>"
theorem inWX0 : ∀ w ∈ u_ws RX0 TX0 4, w ∈ xW := by
  intro w hw
  have h1 : w ∈ [u_lay RX0 TX0 0, u_lay RX0 TX0 1, u_lay RX0 TX0 2, u_lay RX0 TX0 3] := hw
  simp only [List.mem_cons, List.not_mem_nil, or_false] at h1
  rcases h1 with rfl | rfl | rfl | rfl
  · exact xw_of 199 (by decide +kernel) rfl
  · exact xw_of 201 (by decide +kernel) rfl
  · exact xw_of 203 (by decide +kernel) rfl
  · exact xw_of 205 (by decide +kernel) rfl
theorem inWX1 : ∀ w ∈ u_ws RX1 TX1 5, w ∈ xW := by
  intro w hw
  have h1 : w ∈ [u_lay RX1 TX1 0, u_lay RX1 TX1 1, u_lay RX1 TX1 2, u_lay RX1 TX1 3, u_lay RX1 TX1 4] := hw
  simp only [List.mem_cons, List.not_mem_nil, or_false] at h1
  rcases h1 with rfl | rfl | rfl | rfl | rfl
  · exact xw_of 111 (by decide +kernel) rfl
  · exact xw_of 113 (by decide +kernel) rfl
  · exact xw_of 115 (by decide +kernel) rfl
  · exact xw_of 117 (by decide +kernel) rfl
  · exact xw_of 119 (by decide +kernel) rfl
theorem inWX2 : ∀ w ∈ u_ws RX2 TX2 3, w ∈ xW := by
  intro w hw
  have h1 : w ∈ [u_lay RX2 TX2 0, u_lay RX2 TX2 1, u_lay RX2 TX2 2] := hw
  simp only [List.mem_cons, List.not_mem_nil, or_false] at h1
  rcases h1 with rfl | rfl | rfl
  · exact xw_of 73 (by decide +kernel) rfl
  · exact xw_of 75 (by decide +kernel) rfl
  · exact xw_of 77 (by decide +kernel) rfl
theorem inWX3 : ∀ w ∈ u_ws RX3 TX3 15, w ∈ xW := by
  intro w hw
  have h1 : w ∈ [u_lay RX3 TX3 0, u_lay RX3 TX3 1, u_lay RX3 TX3 2, u_lay RX3 TX3 3, u_lay RX3 TX3 4, u_lay RX3 TX3 5, u_lay RX3 TX3 6, u_lay RX3 TX3 7, u_lay RX3 TX3 8, u_lay RX3 TX3 9, u_lay RX3 TX3 10, u_lay RX3 TX3 11, u_lay RX3 TX3 12, u_lay RX3 TX3 13, u_lay RX3 TX3 14] := hw
  simp only [List.mem_cons, List.not_mem_nil, or_false] at h1
  rcases h1 with rfl | rfl | rfl | rfl | rfl | rfl | rfl | rfl | rfl | rfl | rfl | rfl | rfl | rfl | rfl
  · exact xw_of 159 (by decide +kernel) rfl
  · exact xw_of 161 (by decide +kernel) rfl
  · exact xw_of 163 (by decide +kernel) rfl
  · exact xw_of 165 (by decide +kernel) rfl
  · exact xw_of 167 (by decide +kernel) rfl
  · exact xw_of 169 (by decide +kernel) rfl
  · exact xw_of 171 (by decide +kernel) rfl
  · exact xw_of 173 (by decide +kernel) rfl
  · exact xw_of 175 (by decide +kernel) rfl
  · exact xw_of 177 (by decide +kernel) rfl
  · exact xw_of 179 (by decide +kernel) rfl
  · exact xw_of 181 (by decide +kernel) rfl
  · exact xw_of 183 (by decide +kernel) rfl
  · exact xw_of 185 (by decide +kernel) rfl
  · exact xw_of 187 (by decide +kernel) rfl
theorem inWX4 : ∀ w ∈ u_ws RX4 TX4 8, w ∈ xW := by
  intro w hw
  have h1 : w ∈ [u_lay RX4 TX4 0, u_lay RX4 TX4 1, u_lay RX4 TX4 2, u_lay RX4 TX4 3, u_lay RX4 TX4 4, u_lay RX4 TX4 5, u_lay RX4 TX4 6, u_lay RX4 TX4 7] := hw
  simp only [List.mem_cons, List.not_mem_nil, or_false] at h1
  rcases h1 with rfl | rfl | rfl | rfl | rfl | rfl | rfl | rfl
  · exact xw_of 372 (by decide +kernel) rfl
  · exact xw_of 374 (by decide +kernel) rfl
  · exact xw_of 376 (by decide +kernel) rfl
  · exact xw_of 378 (by decide +kernel) rfl
  · exact xw_of 380 (by decide +kernel) rfl
  · exact xw_of 382 (by decide +kernel) rfl
  · exact xw_of 384 (by decide +kernel) rfl
  · exact xw_of 386 (by decide +kernel) rfl
theorem inWX5 : ∀ w ∈ u_ws RX5 TX5 10, w ∈ xW := by
  intro w hw
  have h1 : w ∈ [u_lay RX5 TX5 0, u_lay RX5 TX5 1, u_lay RX5 TX5 2, u_lay RX5 TX5 3, u_lay RX5 TX5 4, u_lay RX5 TX5 5, u_lay RX5 TX5 6, u_lay RX5 TX5 7, u_lay RX5 TX5 8, u_lay RX5 TX5 9] := hw
  simp only [List.mem_cons, List.not_mem_nil, or_false] at h1
  rcases h1 with rfl | rfl | rfl | rfl | rfl | rfl | rfl | rfl | rfl | rfl
  · exact xw_of 638 (by decide +kernel) rfl
  · exact xw_of 640 (by decide +kernel) rfl
  · exact xw_of 642 (by decide +kernel) rfl
  · exact xw_of 644 (by decide +kernel) rfl
  · exact xw_of 646 (by decide +kernel) rfl
  · exact xw_of 648 (by decide +kernel) rfl
  · exact xw_of 650 (by decide +kernel) rfl
  · exact xw_of 652 (by decide +kernel) rfl
  · exact xw_of 654 (by decide +kernel) rfl
  · exact xw_of 656 (by decide +kernel) rfl
theorem xf_X2_9 : xFl RX2 9 2 0 (.array .char) true := ⟨RX2, TX2, 3, tyX2, rfl, inWX2, tyX2_ok, nmX2, by decide, xw_of 67 (by decide +kernel) rfl, rfl, by decide +kernel, rfl⟩
theorem xf_X4_68 : xFl RX4 68 2 1 .int false := ⟨RX2, TX2, 3, tyX2, rfl, inWX2, tyX2_ok, nmX2, by decide, xw_of 68 (by decide +kernel) rfl, rfl, by decide +kernel, rfl⟩
theorem xf_X2_15 : xFl RX2 15 2 1 .int false := ⟨RX2, TX2, 3, tyX2, rfl, inWX2, tyX2_ok, nmX2, by decide, xw_of 69 (by decide +kernel) rfl, rfl, by decide +kernel, rfl⟩
theorem xf_X0_65 : xFl RX0 65 2 1 .int false := ⟨RX2, TX2, 3, tyX2, rfl, inWX2, tyX2_ok, nmX2, by decide, xw_of 70 (by decide +kernel) rfl, rfl, by decide +kernel, rfl⟩
theorem xf_X2_19 : xFl RX2 19 2 2 .int false := ⟨RX2, TX2, 3, tyX2, rfl, inWX2, tyX2_ok, nmX2, by decide, xw_of 71 (by decide +kernel) rfl, rfl, by decide +kernel, rfl⟩
theorem xf_X0_60 : xFl RX0 60 2 2 .int false := ⟨RX2, TX2, 3, tyX2, rfl, inWX2, tyX2_ok, nmX2, by decide, xw_of 72 (by decide +kernel) rfl, rfl, by decide +kernel, rfl⟩
theorem xf_X1_9 : xFl RX1 9 1 0 .int false := ⟨RX1, TX1, 5, tyX1, rfl, inWX1, tyX1_ok, nmX1, by decide, xw_of 93 (by decide +kernel) rfl, rfl, by decide +kernel, rfl⟩
theorem xf_X3_28 : xFl RX3 28 1 0 .int false := ⟨RX1, TX1, 5, tyX1, rfl, inWX1, tyX1_ok, nmX1, by decide, xw_of 94 (by decide +kernel) rfl, rfl, by decide +kernel, rfl⟩
theorem xf_X0_121 : xFl RX0 121 1 0 .int false := ⟨RX1, TX1, 5, tyX1, rfl, inWX1, tyX1_ok, nmX1, by decide, xw_of 95 (by decide +kernel) rfl, rfl, by decide +kernel, rfl⟩
theorem xf_X4_176 : xFl RX4 176 1 0 .int false := ⟨RX1, TX1, 5, tyX1, rfl, inWX1, tyX1_ok, nmX1, by decide, xw_of 96 (by decide +kernel) rfl, rfl, by decide +kernel, rfl⟩
theorem xf_X1_15 : xFl RX1 15 1 1 .int false := ⟨RX1, TX1, 5, tyX1, rfl, inWX1, tyX1_ok, nmX1, by decide, xw_of 97 (by decide +kernel) rfl, rfl, by decide +kernel, rfl⟩
theorem xf_X3_36 : xFl RX3 36 1 1 .int false := ⟨RX1, TX1, 5, tyX1, rfl, inWX1, tyX1_ok, nmX1, by decide, xw_of 98 (by decide +kernel) rfl, rfl, by decide +kernel, rfl⟩
theorem xf_X0_126 : xFl RX0 126 1 1 .int false := ⟨RX1, TX1, 5, tyX1, rfl, inWX1, tyX1_ok, nmX1, by decide, xw_of 99 (by decide +kernel) rfl, rfl, by decide +kernel, rfl⟩
theorem xf_X4_179 : xFl RX4 179 1 1 .int false := ⟨RX1, TX1, 5, tyX1, rfl, inWX1, tyX1_ok, nmX1, by decide, xw_of 100 (by decide +kernel) rfl, rfl, by decide +kernel, rfl⟩
theorem xf_X1_18 : xFl RX1 18 1 2 .int false := ⟨RX1, TX1, 5, tyX1, rfl, inWX1, tyX1_ok, nmX1, by decide, xw_of 101 (by decide +kernel) rfl, rfl, by decide +kernel, rfl⟩
theorem xf_X0_131 : xFl RX0 131 1 2 .int false := ⟨RX1, TX1, 5, tyX1, rfl, inWX1, tyX1_ok, nmX1, by decide, xw_of 102 (by decide +kernel) rfl, rfl, by decide +kernel, rfl⟩
theorem xf_X3_145 : xFl RX3 145 1 2 .int false := ⟨RX1, TX1, 5, tyX1, rfl, inWX1, tyX1_ok, nmX1, by decide, xw_of 103 (by decide +kernel) rfl, rfl, by decide +kernel, rfl⟩
theorem xf_X4_182 : xFl RX4 182 1 2 .int false := ⟨RX1, TX1, 5, tyX1, rfl, inWX1, tyX1_ok, nmX1, by decide, xw_of 104 (by decide +kernel) rfl, rfl, by decide +kernel, rfl⟩
theorem xf_X1_21 : xFl RX1 21 1 3 .int false := ⟨RX1, TX1, 5, tyX1, rfl, inWX1, tyX1_ok, nmX1, by decide, xw_of 105 (by decide +kernel) rfl, rfl, by decide +kernel, rfl⟩
theorem xf_X4_127 : xFl RX4 127 1 3 .int false := ⟨RX1, TX1, 5, tyX1, rfl, inWX1, tyX1_ok, nmX1, by decide, xw_of 106 (by decide +kernel) rfl, rfl, by decide +kernel, rfl⟩
theorem xf_X0_139 : xFl RX0 139 1 3 .int false := ⟨RX1, TX1, 5, tyX1, rfl, inWX1, tyX1_ok, nmX1, by decide, xw_of 107 (by decide +kernel) rfl, rfl, by decide +kernel, rfl⟩
theorem xf_X1_24 : xFl RX1 24 1 4 .int false := ⟨RX1, TX1, 5, tyX1, rfl, inWX1, tyX1_ok, nmX1, by decide, xw_of 108 (by decide +kernel) rfl, rfl, by decide +kernel, rfl⟩
theorem xf_X3_91 : xFl RX3 91 1 4 .int false := ⟨RX1, TX1, 5, tyX1, rfl, inWX1, tyX1_ok, nmX1, by decide, xw_of 109 (by decide +kernel) rfl, rfl, by decide +kernel, rfl⟩
theorem xf_X0_144 : xFl RX0 144 1 4 .int false := ⟨RX1, TX1, 5, tyX1, rfl, inWX1, tyX1_ok, nmX1, by decide, xw_of 110 (by decide +kernel) rfl, rfl, by decide +kernel, rfl⟩
theorem xf_X3_18 : xFl RX3 18 3 0 .int false := ⟨RX3, TX3, 15, tyX3, rfl, inWX3, tyX3_ok, nmX3, by decide, xw_of 129 (by decide +kernel) rfl, rfl, by decide +kernel, rfl⟩
theorem xf_X3_22 : xFl RX3 22 3 1 .int false := ⟨RX3, TX3, 15, tyX3, rfl, inWX3, tyX3_ok, nmX3, by decide, xw_of 130 (by decide +kernel) rfl, rfl, by decide +kernel, rfl⟩
theorem xf_X4_194 : xFl RX4 194 3 1 .int false := ⟨RX3, TX3, 15, tyX3, rfl, inWX3, tyX3_ok, nmX3, by decide, xw_of 131 (by decide +kernel) rfl, rfl, by decide +kernel, rfl⟩
theorem xf_X3_9 : xFl RX3 9 3 2 (.array .int) true := ⟨RX3, TX3, 15, tyX3, rfl, inWX3, tyX3_ok, nmX3, by decide, xw_of 132 (by decide +kernel) rfl, rfl, by decide +kernel, rfl⟩
theorem xf_X4_117 : xFl RX4 117 3 2 (.array .int) true := ⟨RX3, TX3, 15, tyX3, rfl, inWX3, tyX3_ok, nmX3, by decide, xw_of 133 (by decide +kernel) rfl, rfl, by decide +kernel, rfl⟩
theorem xf_X3_15 : xFl RX3 15 3 3 (.array .int) true := ⟨RX3, TX3, 15, tyX3, rfl, inWX3, tyX3_ok, nmX3, by decide, xw_of 134 (by decide +kernel) rfl, rfl, by decide +kernel, rfl⟩
theorem xf_X4_121 : xFl RX4 121 3 3 (.array .int) true := ⟨RX3, TX3, 15, tyX3, rfl, inWX3, tyX3_ok, nmX3, by decide, xw_of 135 (by decide +kernel) rfl, rfl, by decide +kernel, rfl⟩
theorem xf_X3_25 : xFl RX3 25 3 4 .int false := ⟨RX3, TX3, 15, tyX3, rfl, inWX3, tyX3_ok, nmX3, by decide, xw_of 136 (by decide +kernel) rfl, rfl, by decide +kernel, rfl⟩
theorem xf_X4_124 : xFl RX4 124 3 4 .int false := ⟨RX3, TX3, 15, tyX3, rfl, inWX3, tyX3_ok, nmX3, by decide, xw_of 137 (by decide +kernel) rfl, rfl, by decide +kernel, rfl⟩
theorem xf_X0_116 : xFl RX0 116 3 4 .int false := ⟨RX3, TX3, 15, tyX3, rfl, inWX3, tyX3_ok, nmX3, by decide, xw_of 138 (by decide +kernel) rfl, rfl, by decide +kernel, rfl⟩
theorem xf_X0_39 : xFl RX0 39 3 5 .int false := ⟨RX3, TX3, 15, tyX3, rfl, inWX3, tyX3_ok, nmX3, by decide, xw_of 139 (by decide +kernel) rfl, rfl, by decide +kernel, rfl⟩
theorem xf_X3_33 : xFl RX3 33 3 5 .int false := ⟨RX3, TX3, 15, tyX3, rfl, inWX3, tyX3_ok, nmX3, by decide, xw_of 140 (by decide +kernel) rfl, rfl, by decide +kernel, rfl⟩
theorem xf_X4_157 : xFl RX4 157 3 5 .int false := ⟨RX3, TX3, 15, tyX3, rfl, inWX3, tyX3_ok, nmX3, by decide, xw_of 141 (by decide +kernel) rfl, rfl, by decide +kernel, rfl⟩
theorem xf_X3_39 : xFl RX3 39 3 6 .int false := ⟨RX3, TX3, 15, tyX3, rfl, inWX3, tyX3_ok, nmX3, by decide, xw_of 142 (by decide +kernel) rfl, rfl, by decide +kernel, rfl⟩
theorem xf_X4_160 : xFl RX4 160 3 6 .int false := ⟨RX3, TX3, 15, tyX3, rfl, inWX3, tyX3_ok, nmX3, by decide, xw_of 143 (by decide +kernel) rfl, rfl, by decide +kernel, rfl⟩
theorem xf_X0_48 : xFl RX0 48 3 7 .int false := ⟨RX3, TX3, 15, tyX3, rfl, inWX3, tyX3_ok, nmX3, by decide, xw_of 144 (by decide +kernel) rfl, rfl, by decide +kernel, rfl⟩
theorem xf_X3_46 : xFl RX3 46 3 7 .int false := ⟨RX3, TX3, 15, tyX3, rfl, inWX3, tyX3_ok, nmX3, by decide, xw_of 145 (by decide +kernel) rfl, rfl, by decide +kernel, rfl⟩
theorem xf_X4_163 : xFl RX4 163 3 7 .int false := ⟨RX3, TX3, 15, tyX3, rfl, inWX3, tyX3_ok, nmX3, by decide, xw_of 146 (by decide +kernel) rfl, rfl, by decide +kernel, rfl⟩
theorem xf_X3_49 : xFl RX3 49 3 8 .int false := ⟨RX3, TX3, 15, tyX3, rfl, inWX3, tyX3_ok, nmX3, by decide, xw_of 147 (by decide +kernel) rfl, rfl, by decide +kernel, rfl⟩
theorem xf_X3_52 : xFl RX3 52 3 9 .int false := ⟨RX3, TX3, 15, tyX3, rfl, inWX3, tyX3_ok, nmX3, by decide, xw_of 148 (by decide +kernel) rfl, rfl, by decide +kernel, rfl⟩
theorem xf_X3_55 : xFl RX3 55 3 10 .int false := ⟨RX3, TX3, 15, tyX3, rfl, inWX3, tyX3_ok, nmX3, by decide, xw_of 149 (by decide +kernel) rfl, rfl, by decide +kernel, rfl⟩
theorem xf_X3_58 : xFl RX3 58 3 11 .int false := ⟨RX3, TX3, 15, tyX3, rfl, inWX3, tyX3_ok, nmX3, by decide, xw_of 150 (by decide +kernel) rfl, rfl, by decide +kernel, rfl⟩
theorem xf_X4_166 : xFl RX4 166 3 11 .int false := ⟨RX3, TX3, 15, tyX3, rfl, inWX3, tyX3_ok, nmX3, by decide, xw_of 151 (by decide +kernel) rfl, rfl, by decide +kernel, rfl⟩
theorem xf_X3_61 : xFl RX3 61 3 12 .int false := ⟨RX3, TX3, 15, tyX3, rfl, inWX3, tyX3_ok, nmX3, by decide, xw_of 152 (by decide +kernel) rfl, rfl, by decide +kernel, rfl⟩
theorem xf_X0_51 : xFl RX0 51 3 12 .int false := ⟨RX3, TX3, 15, tyX3, rfl, inWX3, tyX3_ok, nmX3, by decide, xw_of 153 (by decide +kernel) rfl, rfl, by decide +kernel, rfl⟩
theorem xf_X4_105 : xFl RX4 105 3 12 .int false := ⟨RX3, TX3, 15, tyX3, rfl, inWX3, tyX3_ok, nmX3, by decide, xw_of 154 (by decide +kernel) rfl, rfl, by decide +kernel, rfl⟩
theorem xf_X3_64 : xFl RX3 64 3 13 .int false := ⟨RX3, TX3, 15, tyX3, rfl, inWX3, tyX3_ok, nmX3, by decide, xw_of 155 (by decide +kernel) rfl, rfl, by decide +kernel, rfl⟩
theorem xf_X0_54 : xFl RX0 54 3 13 .int false := ⟨RX3, TX3, 15, tyX3, rfl, inWX3, tyX3_ok, nmX3, by decide, xw_of 156 (by decide +kernel) rfl, rfl, by decide +kernel, rfl⟩
theorem xf_X4_169 : xFl RX4 169 3 13 .int false := ⟨RX3, TX3, 15, tyX3, rfl, inWX3, tyX3_ok, nmX3, by decide, xw_of 157 (by decide +kernel) rfl, rfl, by decide +kernel, rfl⟩
theorem xf_X3_67 : xFl RX3 67 3 14 .int false := ⟨RX3, TX3, 15, tyX3, rfl, inWX3, tyX3_ok, nmX3, by decide, xw_of 158 (by decide +kernel) rfl, rfl, by decide +kernel, rfl⟩
theorem xf_X0_12 : xFl RX0 12 0 0 (.object "GreatProbes$Rules") true := ⟨RX0, TX0, 4, tyX0, rfl, inWX0, tyX0_ok, nmX0, by decide, xw_of 191 (by decide +kernel) rfl, rfl, by decide +kernel, rfl⟩
theorem xf_X4_94 : xFl RX4 94 0 0 (.object "GreatProbes$Rules") true := ⟨RX0, TX0, 4, tyX0, rfl, inWX0, tyX0_ok, nmX0, by decide, xw_of 192 (by decide +kernel) rfl, rfl, by decide +kernel, rfl⟩
theorem xf_X0_20 : xFl RX0 20 0 1 (.array (.object "GreatProbes$Way")) true := ⟨RX0, TX0, 4, tyX0, rfl, inWX0, tyX0_ok, nmX0, by decide, xw_of 193 (by decide +kernel) rfl, rfl, by decide +kernel, rfl⟩
theorem xf_X4_90 : xFl RX4 90 0 1 (.array (.object "GreatProbes$Way")) true := ⟨RX0, TX0, 4, tyX0, rfl, inWX0, tyX0_ok, nmX0, by decide, xw_of 194 (by decide +kernel) rfl, rfl, by decide +kernel, rfl⟩
theorem xf_X0_29 : xFl RX0 29 0 2 .int false := ⟨RX0, TX0, 4, tyX0, rfl, inWX0, tyX0_ok, nmX0, by decide, xw_of 195 (by decide +kernel) rfl, rfl, by decide +kernel, rfl⟩
theorem xf_X4_71 : xFl RX4 71 0 2 .int false := ⟨RX0, TX0, 4, tyX0, rfl, inWX0, tyX0_ok, nmX0, by decide, xw_of 196 (by decide +kernel) rfl, rfl, by decide +kernel, rfl⟩
theorem xf_X0_36 : xFl RX0 36 0 3 .int false := ⟨RX0, TX0, 4, tyX0, rfl, inWX0, tyX0_ok, nmX0, by decide, xw_of 197 (by decide +kernel) rfl, rfl, by decide +kernel, rfl⟩
theorem xf_X4_81 : xFl RX4 81 0 3 .int false := ⟨RX0, TX0, 4, tyX0, rfl, inWX0, tyX0_ok, nmX0, by decide, xw_of 198 (by decide +kernel) rfl, rfl, by decide +kernel, rfl⟩
theorem xg_J0_38 : Cond.fieldLink RJ0 38 "java/lang/String" "COMPACT_STRINGS" "Z" ∈ xW := xw_of 222 (by decide +kernel) rfl
theorem xg_J0_1053 : Cond.fieldLink RJ0 1053 "jdk/internal/util/Preconditions" "SIOOBE_FORMATTER" "Ljava/util/function/BiFunction;" ∈ xW := xw_of 238 (by decide +kernel) rfl
theorem xg_J2_44 : Cond.fieldLink RJ2 44 "java/lang/StringUTF16" "$assertionsDisabled" "Z" ∈ xW := xw_of 256 (by decide +kernel) rfl
theorem xg_J2_59 : Cond.fieldLink RJ2 59 "java/lang/StringUTF16" "HI_BYTE_SHIFT" "I" ∈ xW := xw_of 258 (by decide +kernel) rfl
theorem xg_J2_63 : Cond.fieldLink RJ2 63 "java/lang/StringUTF16" "LO_BYTE_SHIFT" "I" ∈ xW := xw_of 260 (by decide +kernel) rfl
theorem xf_X4_10 : xFl RX4 10 4 0 (.object "GreatProbes$Text") true := ⟨RX4, TX4, 8, tyX4, rfl, inWX4, tyX4_ok, nmX4, by decide, xw_of 364 (by decide +kernel) rfl, rfl, by decide +kernel, rfl⟩
theorem xf_X4_19 : xFl RX4 19 4 1 (.object "GreatProbes$Net") true := ⟨RX4, TX4, 8, tyX4, rfl, inWX4, tyX4_ok, nmX4, by decide, xw_of 365 (by decide +kernel) rfl, rfl, by decide +kernel, rfl⟩
theorem xf_X4_23 : xFl RX4 23 4 2 (.object "GreatProbes$Net") true := ⟨RX4, TX4, 8, tyX4, rfl, inWX4, tyX4_ok, nmX4, by decide, xw_of 366 (by decide +kernel) rfl, rfl, by decide +kernel, rfl⟩
theorem xf_X4_26 : xFl RX4 26 4 3 (.array (.object "GreatProbes$Net")) true := ⟨RX4, TX4, 8, tyX4, rfl, inWX4, tyX4_ok, nmX4, by decide, xw_of 367 (by decide +kernel) rfl, rfl, by decide +kernel, rfl⟩
theorem xf_X4_130 : xFl RX4 130 4 4 .int false := ⟨RX4, TX4, 8, tyX4, rfl, inWX4, tyX4_ok, nmX4, by decide, xw_of 368 (by decide +kernel) rfl, rfl, by decide +kernel, rfl⟩
theorem xf_X4_74 : xFl RX4 74 4 5 .int false := ⟨RX4, TX4, 8, tyX4, rfl, inWX4, tyX4_ok, nmX4, by decide, xw_of 369 (by decide +kernel) rfl, rfl, by decide +kernel, rfl⟩
theorem xf_X4_33 : xFl RX4 33 4 6 (.object "GreatProbes$Way") true := ⟨RX4, TX4, 8, tyX4, rfl, inWX4, tyX4_ok, nmX4, by decide, xw_of 370 (by decide +kernel) rfl, rfl, by decide +kernel, rfl⟩
theorem xf_X4_40 : xFl RX4 40 4 7 (.object "GreatProbes$Rules") true := ⟨RX4, TX4, 8, tyX4, rfl, inWX4, tyX4_ok, nmX4, by decide, xw_of 371 (by decide +kernel) rfl, rfl, by decide +kernel, rfl⟩
theorem xf_X5_7 : xFl RX5 7 5 0 (.array .int) true := ⟨RX5, TX5, 10, tyX5, rfl, inWX5, tyX5_ok, nmX5, by decide, xw_of 628 (by decide +kernel) rfl, rfl, by decide +kernel, rfl⟩
theorem xf_X5_13 : xFl RX5 13 5 1 (.array .int) true := ⟨RX5, TX5, 10, tyX5, rfl, inWX5, tyX5_ok, nmX5, by decide, xw_of 629 (by decide +kernel) rfl, rfl, by decide +kernel, rfl⟩
theorem xf_X5_16 : xFl RX5 16 5 2 (.array .int) true := ⟨RX5, TX5, 10, tyX5, rfl, inWX5, tyX5_ok, nmX5, by decide, xw_of 630 (by decide +kernel) rfl, rfl, by decide +kernel, rfl⟩
theorem xf_X5_19 : xFl RX5 19 5 3 (.array .int) true := ⟨RX5, TX5, 10, tyX5, rfl, inWX5, tyX5_ok, nmX5, by decide, xw_of 631 (by decide +kernel) rfl, rfl, by decide +kernel, rfl⟩
theorem xf_X5_47 : xFl RX5 47 5 4 .int false := ⟨RX5, TX5, 10, tyX5, rfl, inWX5, tyX5_ok, nmX5, by decide, xw_of 632 (by decide +kernel) rfl, rfl, by decide +kernel, rfl⟩
theorem xf_X5_22 : xFl RX5 22 5 5 (.array .int) true := ⟨RX5, TX5, 10, tyX5, rfl, inWX5, tyX5_ok, nmX5, by decide, xw_of 633 (by decide +kernel) rfl, rfl, by decide +kernel, rfl⟩
theorem xf_X5_54 : xFl RX5 54 5 6 .int false := ⟨RX5, TX5, 10, tyX5, rfl, inWX5, tyX5_ok, nmX5, by decide, xw_of 634 (by decide +kernel) rfl, rfl, by decide +kernel, rfl⟩
theorem xf_X5_51 : xFl RX5 51 5 7 .int false := ⟨RX5, TX5, 10, tyX5, rfl, inWX5, tyX5_ok, nmX5, by decide, xw_of 635 (by decide +kernel) rfl, rfl, by decide +kernel, rfl⟩
theorem xf_X5_151 : xFl RX5 151 5 8 .int false := ⟨RX5, TX5, 10, tyX5, rfl, inWX5, tyX5_ok, nmX5, by decide, xw_of 636 (by decide +kernel) rfl, rfl, by decide +kernel, rfl⟩
theorem xf_X5_158 : xFl RX5 158 5 9 .boolean false := ⟨RX5, TX5, 10, tyX5, rfl, inWX5, tyX5_ok, nmX5, by decide, xw_of 637 (by decide +kernel) rfl, rfl, by decide +kernel, rfl⟩
theorem xg_J0_9 : Cond.fieldLink RJ0 9 "java/lang/String" "value" "[B" ∈ xW := xw_of 877 (by decide +kernel) rfl
theorem xg_J0_15 : Cond.fieldLink RJ0 15 "java/lang/String" "coder" "B" ∈ xW := xw_of 878 (by decide +kernel) rfl
set_option maxRecDepth 20000 in
theorem xi_X0_init : xMi yX0_init cX0_init 2 none 0 := ⟨⟨xw_of 85 rfl rfl, xw_of 43 (by decide +kernel) rfl, by decide, by decide, by decide +kernel⟩, xw_of 84 (by decide +kernel) rfl, rfl⟩
set_option maxRecDepth 20000 in
theorem xv_X0_copy : xMv yX0_copy cX0_copy 3 none 1 := ⟨⟨xw_of 352 rfl rfl, xw_of 43 (by decide +kernel) rfl, by decide, by decide, by decide +kernel⟩, xw_of 350 (by decide +kernel) rfl, xw_of 351 (by decide +kernel) rfl⟩
set_option maxRecDepth 20000 in
theorem xv_X0_leastLow : xMv yX0_leastLow cX0_leastLow 3 (some .int) 0 := ⟨⟨xw_of 590 rfl rfl, xw_of 43 (by decide +kernel) rfl, by decide, by decide, by decide +kernel⟩, xw_of 588 (by decide +kernel) rfl, xw_of 589 (by decide +kernel) rfl⟩
set_option maxRecDepth 20000 in
theorem xv_X0_allDone : xMv yX0_allDone cX0_allDone 3 (some .int) 0 := ⟨⟨xw_of 595 rfl rfl, xw_of 43 (by decide +kernel) rfl, by decide, by decide, by decide +kernel⟩, xw_of 593 (by decide +kernel) rfl, xw_of 594 (by decide +kernel) rfl⟩
set_option maxRecDepth 20000 in
theorem xv_X0_allSent : xMv yX0_allSent cX0_allSent 3 (some .int) 0 := ⟨⟨xw_of 599 rfl rfl, xw_of 43 (by decide +kernel) rfl, by decide, by decide, by decide +kernel⟩, xw_of 597 (by decide +kernel) rfl, xw_of 598 (by decide +kernel) rfl⟩
set_option maxRecDepth 20000 in
theorem xv_X0_allLost : xMv yX0_allLost cX0_allLost 3 (some .int) 0 := ⟨⟨xw_of 418 rfl rfl, xw_of 43 (by decide +kernel) rfl, by decide, by decide, by decide +kernel⟩, xw_of 416 (by decide +kernel) rfl, xw_of 417 (by decide +kernel) rfl⟩
set_option maxRecDepth 20000 in
theorem xv_X0_read : xMv yX0_read cX0_read 4 (some .int) 1 := ⟨⟨xw_of 269 rfl rfl, xw_of 43 (by decide +kernel) rfl, by decide, by decide, by decide +kernel⟩, xw_of 267 (by decide +kernel) rfl, xw_of 268 (by decide +kernel) rfl⟩
set_option maxRecDepth 20000 in
theorem xv_X0_readItem : xMv yX0_readItem cX0_readItem 2 (some .boolean) 1 := ⟨⟨xw_of 277 rfl rfl, xw_of 43 (by decide +kernel) rfl, by decide, by decide, by decide +kernel⟩, xw_of 276 (by decide +kernel) rfl, xw_of 0 (by decide +kernel) rfl⟩
set_option maxRecDepth 20000 in
theorem xv_X0_addWay : xMv yX0_addWay cX0_addWay 1 (some .boolean) 0 := ⟨⟨xw_of 288 rfl rfl, xw_of 43 (by decide +kernel) rfl, by decide, by decide, by decide +kernel⟩, xw_of 287 (by decide +kernel) rfl, xw_of 1 (by decide +kernel) rfl⟩
set_option maxRecDepth 20000 in
theorem xv_X0_readHop : xMv yX0_readHop cX0_readHop 4 (some .boolean) 1 := ⟨⟨xw_of 297 rfl rfl, xw_of 43 (by decide +kernel) rfl, by decide, by decide, by decide +kernel⟩, xw_of 296 (by decide +kernel) rfl, xw_of 2 (by decide +kernel) rfl⟩
set_option maxRecDepth 20000 in
theorem xv_X0_readLoss : xMv yX0_readLoss cX0_readLoss 3 (some .boolean) 1 := ⟨⟨xw_of 323 rfl rfl, xw_of 43 (by decide +kernel) rfl, by decide, by decide, by decide +kernel⟩, xw_of 322 (by decide +kernel) rfl, xw_of 3 (by decide +kernel) rfl⟩
set_option maxRecDepth 20000 in
theorem xv_X0_readRule : xMv yX0_readRule cX0_readRule 2 (some .boolean) 1 := ⟨⟨xw_of 327 rfl rfl, xw_of 43 (by decide +kernel) rfl, by decide, by decide, by decide +kernel⟩, xw_of 326 (by decide +kernel) rfl, xw_of 4 (by decide +kernel) rfl⟩
set_option maxRecDepth 20000 in
theorem xi_X1_init : xMi yX1_init cX1_init 1 none 0 := ⟨⟨xw_of 91 rfl rfl, xw_of 44 (by decide +kernel) rfl, by decide, by decide, by decide +kernel⟩, xw_of 90 (by decide +kernel) rfl, rfl⟩
set_option maxRecDepth 20000 in
theorem xv_X1_clear : xMv yX1_clear cX1_clear 1 none 0 := ⟨⟨xw_of 273 rfl rfl, xw_of 44 (by decide +kernel) rfl, by decide, by decide, by decide +kernel⟩, xw_of 271 (by decide +kernel) rfl, xw_of 272 (by decide +kernel) rfl⟩
set_option maxRecDepth 20000 in
theorem xv_X1_copy : xMv yX1_copy cX1_copy 2 none 1 := ⟨⟨xw_of 356 rfl rfl, xw_of 44 (by decide +kernel) rfl, by decide, by decide, by decide +kernel⟩, xw_of 354 (by decide +kernel) rfl, xw_of 355 (by decide +kernel) rfl⟩
set_option maxRecDepth 20000 in
theorem xv_X1_trusts : xMv yX1_trusts cX1_trusts 3 (some .boolean) 2 := ⟨⟨xw_of 461 rfl rfl, xw_of 44 (by decide +kernel) rfl, by decide, by decide, by decide +kernel⟩, xw_of 459 (by decide +kernel) rfl, xw_of 460 (by decide +kernel) rfl⟩
set_option maxRecDepth 20000 in
theorem xi_X2_init : xMi yX2_init cX2_init 1 none 0 := ⟨⟨xw_of 65 rfl rfl, xw_of 42 (by decide +kernel) rfl, by decide, by decide, by decide +kernel⟩, xw_of 64 (by decide +kernel) rfl, rfl⟩
set_option maxRecDepth 20000 in
theorem xv_X2_append : xMv yX2_append cX2_append 2 none 1 := ⟨⟨xw_of 265 rfl rfl, xw_of 42 (by decide +kernel) rfl, by decide, by decide, by decide +kernel⟩, xw_of 263 (by decide +kernel) rfl, xw_of 264 (by decide +kernel) rfl⟩
set_option maxRecDepth 20000 in
theorem xv_X2_take : xMv yX2_take cX2_take 4 (some .boolean) 1 := ⟨⟨xw_of 282 rfl rfl, xw_of 42 (by decide +kernel) rfl, by decide, by decide, by decide +kernel⟩, xw_of 280 (by decide +kernel) rfl, xw_of 281 (by decide +kernel) rfl⟩
set_option maxRecDepth 20000 in
theorem xv_X2_takeNumber : xMv yX2_takeNumber cX2_takeNumber 5 (some .int) 2 := ⟨⟨xw_of 301 rfl rfl, xw_of 42 (by decide +kernel) rfl, by decide, by decide, by decide +kernel⟩, xw_of 299 (by decide +kernel) rfl, xw_of 300 (by decide +kernel) rfl⟩
set_option maxRecDepth 20000 in
theorem xv_X2_takeKind : xMv yX2_takeKind cX2_takeKind 1 (some .int) 0 := ⟨⟨xw_of 309 rfl rfl, xw_of 42 (by decide +kernel) rfl, by decide, by decide, by decide +kernel⟩, xw_of 307 (by decide +kernel) rfl, xw_of 308 (by decide +kernel) rfl⟩
set_option maxRecDepth 20000 in
theorem xv_X2_takeBelief : xMv yX2_takeBelief cX2_takeBelief 1 (some .int) 0 := ⟨⟨xw_of 335 rfl rfl, xw_of 42 (by decide +kernel) rfl, by decide, by decide, by decide +kernel⟩, xw_of 333 (by decide +kernel) rfl, xw_of 334 (by decide +kernel) rfl⟩
set_option maxRecDepth 20000 in
theorem xi_X3_init : xMi yX3_init cX3_init 1 none 0 := ⟨⟨xw_of 127 rfl rfl, xw_of 45 (by decide +kernel) rfl, by decide, by decide, by decide +kernel⟩, xw_of 126 (by decide +kernel) rfl, rfl⟩
set_option maxRecDepth 20000 in
theorem xv_X3_clear : xMv yX3_clear cX3_clear 2 none 1 := ⟨⟨xw_of 292 rfl rfl, xw_of 45 (by decide +kernel) rfl, by decide, by decide, by decide +kernel⟩, xw_of 290 (by decide +kernel) rfl, xw_of 291 (by decide +kernel) rfl⟩
set_option maxRecDepth 20000 in
theorem xv_X3_addHop : xMv yX3_addHop cX3_addHop 3 (some .boolean) 2 := ⟨⟨xw_of 318 rfl rfl, xw_of 45 (by decide +kernel) rfl, by decide, by decide, by decide +kernel⟩, xw_of 316 (by decide +kernel) rfl, xw_of 317 (by decide +kernel) rfl⟩
set_option maxRecDepth 20000 in
theorem xv_X3_begin : xMv yX3_begin cX3_begin 2 none 1 := ⟨⟨xw_of 344 rfl rfl, xw_of 45 (by decide +kernel) rfl, by decide, by decide, by decide +kernel⟩, xw_of 342 (by decide +kernel) rfl, xw_of 343 (by decide +kernel) rfl⟩
set_option maxRecDepth 20000 in
theorem xv_X3_copy : xMv yX3_copy cX3_copy 2 none 1 := ⟨⟨xw_of 360 rfl rfl, xw_of 45 (by decide +kernel) rfl, by decide, by decide, by decide +kernel⟩, xw_of 358 (by decide +kernel) rfl, xw_of 359 (by decide +kernel) rfl⟩
set_option maxRecDepth 20000 in
theorem xv_X3_tell : xMv yX3_tell cX3_tell 2 (some .int) 1 := ⟨⟨xw_of 523 rfl rfl, xw_of 45 (by decide +kernel) rfl, by decide, by decide, by decide +kernel⟩, xw_of 521 (by decide +kernel) rfl, xw_of 522 (by decide +kernel) rfl⟩
set_option maxRecDepth 20000 in
theorem xv_X3_passes : xMv yX3_passes cX3_passes 3 (some .int) 0 := ⟨⟨xw_of 527 rfl rfl, xw_of 45 (by decide +kernel) rfl, by decide, by decide, by decide +kernel⟩, xw_of 525 (by decide +kernel) rfl, xw_of 526 (by decide +kernel) rfl⟩
set_option maxRecDepth 20000 in
theorem xv_X3_sought : xMv yX3_sought cX3_sought 2 (some .int) 1 := ⟨⟨xw_of 577 rfl rfl, xw_of 45 (by decide +kernel) rfl, by decide, by decide, by decide +kernel⟩, xw_of 575 (by decide +kernel) rfl, xw_of 576 (by decide +kernel) rfl⟩
set_option maxRecDepth 20000 in
theorem xv_X3_isNarrowed : xMv yX3_isNarrowed cX3_isNarrowed 1 (some .boolean) 0 := ⟨⟨xw_of 348 rfl rfl, xw_of 45 (by decide +kernel) rfl, by decide, by decide, by decide +kernel⟩, xw_of 346 (by decide +kernel) rfl, xw_of 347 (by decide +kernel) rfl⟩
set_option maxRecDepth 20000 in
theorem xv_X3_probeSize : xMv yX3_probeSize cX3_probeSize 1 (some .int) 0 := ⟨⟨xw_of 477 rfl rfl, xw_of 45 (by decide +kernel) rfl, by decide, by decide, by decide +kernel⟩, xw_of 475 (by decide +kernel) rfl, xw_of 476 (by decide +kernel) rfl⟩
set_option maxRecDepth 20000 in
theorem xv_X3_drawn : xMv yX3_drawn cX3_drawn 5 (some .int) 2 := ⟨⟨xw_of 438 rfl rfl, xw_of 45 (by decide +kernel) rfl, by decide, by decide, by decide +kernel⟩, xw_of 436 (by decide +kernel) rfl, xw_of 437 (by decide +kernel) rfl⟩
set_option maxRecDepth 20000 in
theorem xv_X3_dropper : xMv yX3_dropper cX3_dropper 3 (some .int) 1 := ⟨⟨xw_of 450 rfl rfl, xw_of 45 (by decide +kernel) rfl, by decide, by decide, by decide +kernel⟩, xw_of 448 (by decide +kernel) rfl, xw_of 449 (by decide +kernel) rfl⟩
set_option maxRecDepth 20000 in
theorem xv_X3_meeting : xMv yX3_meeting cX3_meeting 3 (some .int) 1 := ⟨⟨xw_of 446 rfl rfl, xw_of 45 (by decide +kernel) rfl, by decide, by decide, by decide +kernel⟩, xw_of 444 (by decide +kernel) rfl, xw_of 445 (by decide +kernel) rfl⟩
set_option maxRecDepth 20000 in
theorem xv_X3_post : xMv yX3_post cX3_post 5 (some .int) 2 := ⟨⟨xw_of 434 rfl rfl, xw_of 45 (by decide +kernel) rfl, by decide, by decide, by decide +kernel⟩, xw_of 432 (by decide +kernel) rfl, xw_of 433 (by decide +kernel) rfl⟩
set_option maxRecDepth 20000 in
theorem xv_X3_isLost : xMv yX3_isLost cX3_isLost 4 (some .boolean) 3 := ⟨⟨xw_of 457 rfl rfl, xw_of 45 (by decide +kernel) rfl, by decide, by decide, by decide +kernel⟩, xw_of 455 (by decide +kernel) rfl, xw_of 456 (by decide +kernel) rfl⟩
set_option maxRecDepth 20000 in
theorem xv_X3_goOn : xMv yX3_goOn cX3_goOn 4 none 2 := ⟨⟨xw_of 422 rfl rfl, xw_of 45 (by decide +kernel) rfl, by decide, by decide, by decide +kernel⟩, xw_of 420 (by decide +kernel) rfl, xw_of 421 (by decide +kernel) rfl⟩
set_option maxRecDepth 20000 in
theorem xv_X3_step : xMv yX3_step cX3_step 6 none 1 := ⟨⟨xw_of 426 rfl rfl, xw_of 45 (by decide +kernel) rfl, by decide, by decide, by decide +kernel⟩, xw_of 424 (by decide +kernel) rfl, xw_of 425 (by decide +kernel) rfl⟩
set_option maxRecDepth 20000 in
theorem xv_X3_checkLow : xMv yX3_checkLow cX3_checkLow 5 none 1 := ⟨⟨xw_of 430 rfl rfl, xw_of 45 (by decide +kernel) rfl, by decide, by decide, by decide +kernel⟩, xw_of 429 (by decide +kernel) rfl, xw_of 6 (by decide +kernel) rfl⟩
set_option maxRecDepth 20000 in
theorem xv_X3_miss : xMv yX3_miss cX3_miss 2 none 1 := ⟨⟨xw_of 465 rfl rfl, xw_of 45 (by decide +kernel) rfl, by decide, by decide, by decide +kernel⟩, xw_of 464 (by decide +kernel) rfl, xw_of 7 (by decide +kernel) rfl⟩
set_option maxRecDepth 20000 in
theorem xv_X3_search : xMv yX3_search cX3_search 4 none 1 := ⟨⟨xw_of 473 rfl rfl, xw_of 45 (by decide +kernel) rfl, by decide, by decide, by decide +kernel⟩, xw_of 472 (by decide +kernel) rfl, xw_of 9 (by decide +kernel) rfl⟩
set_option maxRecDepth 20000 in
theorem xv_X3_lowerHigh : xMv yX3_lowerHigh cX3_lowerHigh 2 none 1 := ⟨⟨xw_of 469 rfl rfl, xw_of 45 (by decide +kernel) rfl, by decide, by decide, by decide +kernel⟩, xw_of 468 (by decide +kernel) rfl, xw_of 8 (by decide +kernel) rfl⟩
set_option maxRecDepth 20000 in
theorem xv_X3_growOlder : xMv yX3_growOlder cX3_growOlder 2 none 1 := ⟨⟨xw_of 481 rfl rfl, xw_of 45 (by decide +kernel) rfl, by decide, by decide, by decide +kernel⟩, xw_of 480 (by decide +kernel) rfl, xw_of 10 (by decide +kernel) rfl⟩
set_option maxRecDepth 20000 in
theorem xi_X4_init : xMi yX4_init cX4_init 2 none 0 := ⟨⟨xw_of 57 rfl rfl, xw_of 41 (by decide +kernel) rfl, by decide, by decide, by decide +kernel⟩, xw_of 56 (by decide +kernel) rfl, rfl⟩
set_option maxRecDepth 20000 in
theorem xv_X4_write : xMv yX4_write cX4_write 2 (some .int) 1 := ⟨⟨xw_of 393 rfl rfl, xw_of 41 (by decide +kernel) rfl, by decide, by decide, by decide +kernel⟩, xw_of 391 (by decide +kernel) rfl, xw_of 392 (by decide +kernel) rfl⟩
set_option maxRecDepth 20000 in
theorem xv_X4_wipe : xMv yX4_wipe cX4_wipe 2 (some .int) 0 := ⟨⟨xw_of 397 rfl rfl, xw_of 41 (by decide +kernel) rfl, by decide, by decide, by decide +kernel⟩, xw_of 395 (by decide +kernel) rfl, xw_of 396 (by decide +kernel) rfl⟩
set_option maxRecDepth 20000 in
theorem xv_X4_fault : xMv yX4_fault cX4_fault 1 (some .int) 0 := ⟨⟨xw_of 401 rfl rfl, xw_of 41 (by decide +kernel) rfl, by decide, by decide, by decide +kernel⟩, xw_of 399 (by decide +kernel) rfl, xw_of 400 (by decide +kernel) rfl⟩
set_option maxRecDepth 20000 in
theorem xv_X4_lay : xMv yX4_lay cX4_lay 1 (some .int) 0 := ⟨⟨xw_of 405 rfl rfl, xw_of 41 (by decide +kernel) rfl, by decide, by decide, by decide +kernel⟩, xw_of 403 (by decide +kernel) rfl, xw_of 404 (by decide +kernel) rfl⟩
set_option maxRecDepth 20000 in
theorem xv_X4_tick : xMv yX4_tick cX4_tick 4 (some .int) 1 := ⟨⟨xw_of 409 rfl rfl, xw_of 41 (by decide +kernel) rfl, by decide, by decide, by decide +kernel⟩, xw_of 407 (by decide +kernel) rfl, xw_of 408 (by decide +kernel) rfl⟩
set_option maxRecDepth 20000 in
theorem xv_X4_send : xMv yX4_send cX4_send 3 (some .int) 2 := ⟨⟨xw_of 485 rfl rfl, xw_of 41 (by decide +kernel) rfl, by decide, by decide, by decide +kernel⟩, xw_of 483 (by decide +kernel) rfl, xw_of 484 (by decide +kernel) rfl⟩
set_option maxRecDepth 20000 in
theorem xv_X4_limit : xMv yX4_limit cX4_limit 5 (some .int) 3 := ⟨⟨xw_of 495 rfl rfl, xw_of 41 (by decide +kernel) rfl, by decide, by decide, by decide +kernel⟩, xw_of 493 (by decide +kernel) rfl, xw_of 494 (by decide +kernel) rfl⟩
set_option maxRecDepth 20000 in
theorem xv_X4_kind : xMv yX4_kind cX4_kind 5 (some .int) 3 := ⟨⟨xw_of 503 rfl rfl, xw_of 41 (by decide +kernel) rfl, by decide, by decide, by decide +kernel⟩, xw_of 501 (by decide +kernel) rfl, xw_of 502 (by decide +kernel) rfl⟩
set_option maxRecDepth 20000 in
theorem xv_X4_loss : xMv yX4_loss cX4_loss 4 (some .int) 2 := ⟨⟨xw_of 507 rfl rfl, xw_of 41 (by decide +kernel) rfl, by decide, by decide, by decide +kernel⟩, xw_of 505 (by decide +kernel) rfl, xw_of 506 (by decide +kernel) rfl⟩
set_option maxRecDepth 20000 in
theorem xv_X4_believe : xMv yX4_believe cX4_believe 3 (some .int) 1 := ⟨⟨xw_of 511 rfl rfl, xw_of 41 (by decide +kernel) rfl, by decide, by decide, by decide +kernel⟩, xw_of 509 (by decide +kernel) rfl, xw_of 510 (by decide +kernel) rfl⟩
set_option maxRecDepth 20000 in
theorem xv_X4_undo : xMv yX4_undo cX4_undo 1 (some .int) 0 := ⟨⟨xw_of 515 rfl rfl, xw_of 41 (by decide +kernel) rfl, by decide, by decide, by decide +kernel⟩, xw_of 513 (by decide +kernel) rfl, xw_of 514 (by decide +kernel) rfl⟩
set_option maxRecDepth 20000 in
theorem xv_X4_way : xMv yX4_way cX4_way 3 (some .int) 2 := ⟨⟨xw_of 519 rfl rfl, xw_of 41 (by decide +kernel) rfl, by decide, by decide, by decide +kernel⟩, xw_of 517 (by decide +kernel) rfl, xw_of 518 (by decide +kernel) rfl⟩
set_option maxRecDepth 20000 in
theorem xv_X4_hop : xMv yX4_hop cX4_hop 4 (some .int) 3 := ⟨⟨xw_of 534 rfl rfl, xw_of 41 (by decide +kernel) rfl, by decide, by decide, by decide +kernel⟩, xw_of 532 (by decide +kernel) rfl, xw_of 533 (by decide +kernel) rfl⟩
set_option maxRecDepth 20000 in
theorem xv_X4_probe : xMv yX4_probe cX4_probe 2 (some .int) 1 := ⟨⟨xw_of 538 rfl rfl, xw_of 41 (by decide +kernel) rfl, by decide, by decide, by decide +kernel⟩, xw_of 536 (by decide +kernel) rfl, xw_of 537 (by decide +kernel) rfl⟩
set_option maxRecDepth 20000 in
theorem xv_X4_padding : xMv yX4_padding cX4_padding 4 (some .int) 2 := ⟨⟨xw_of 544 rfl rfl, xw_of 41 (by decide +kernel) rfl, by decide, by decide, by decide +kernel⟩, xw_of 542 (by decide +kernel) rfl, xw_of 543 (by decide +kernel) rfl⟩
set_option maxRecDepth 20000 in
theorem xv_X4_meets : xMv yX4_meets cX4_meets 4 (some .int) 3 := ⟨⟨xw_of 548 rfl rfl, xw_of 41 (by decide +kernel) rfl, by decide, by decide, by decide +kernel⟩, xw_of 546 (by decide +kernel) rfl, xw_of 547 (by decide +kernel) rfl⟩
set_option maxRecDepth 20000 in
theorem xv_X4_draw : xMv yX4_draw cX4_draw 3 (some .int) 2 := ⟨⟨xw_of 554 rfl rfl, xw_of 41 (by decide +kernel) rfl, by decide, by decide, by decide +kernel⟩, xw_of 552 (by decide +kernel) rfl, xw_of 553 (by decide +kernel) rfl⟩
set_option maxRecDepth 20000 in
theorem xv_X4_ahead : xMv yX4_ahead cX4_ahead 4 (some .int) 3 := ⟨⟨xw_of 559 rfl rfl, xw_of 41 (by decide +kernel) rfl, by decide, by decide, by decide +kernel⟩, xw_of 557 (by decide +kernel) rfl, xw_of 558 (by decide +kernel) rfl⟩
set_option maxRecDepth 20000 in
theorem xv_X4_soon : xMv yX4_soon cX4_soon 3 (some .int) 2 := ⟨⟨xw_of 569 rfl rfl, xw_of 41 (by decide +kernel) rfl, by decide, by decide, by decide +kernel⟩, xw_of 567 (by decide +kernel) rfl, xw_of 568 (by decide +kernel) rfl⟩
set_option maxRecDepth 20000 in
theorem xv_X4_best : xMv yX4_best cX4_best 6 (some .int) 1 := ⟨⟨xw_of 582 rfl rfl, xw_of 41 (by decide +kernel) rfl, by decide, by decide, by decide +kernel⟩, xw_of 580 (by decide +kernel) rfl, xw_of 581 (by decide +kernel) rfl⟩
set_option maxRecDepth 20000 in
theorem xv_X4_count : xMv yX4_count cX4_count 2 (some .int) 1 := ⟨⟨xw_of 586 rfl rfl, xw_of 41 (by decide +kernel) rfl, by decide, by decide, by decide +kernel⟩, xw_of 584 (by decide +kernel) rfl, xw_of 585 (by decide +kernel) rfl⟩
set_option maxRecDepth 20000 in
theorem xs_X4_isBetween : xMs yX4_isBetween cX4_isBetween 3 (some .boolean) 3 := ⟨⟨xw_of 304 rfl rfl, xw_of 41 (by decide +kernel) rfl, by decide, by decide, by decide +kernel⟩, xw_of 303 (by decide +kernel) rfl⟩
set_option maxRecDepth 20000 in
theorem xv_X4_isWay : xMv yX4_isWay cX4_isWay 2 (some .boolean) 1 := ⟨⟨xw_of 489 rfl rfl, xw_of 41 (by decide +kernel) rfl, by decide, by decide, by decide +kernel⟩, xw_of 488 (by decide +kernel) rfl, xw_of 11 (by decide +kernel) rfl⟩
set_option maxRecDepth 20000 in
theorem xv_X4_isHop : xMv yX4_isHop cX4_isHop 3 (some .boolean) 2 := ⟨⟨xw_of 499 rfl rfl, xw_of 41 (by decide +kernel) rfl, by decide, by decide, by decide +kernel⟩, xw_of 498 (by decide +kernel) rfl, xw_of 12 (by decide +kernel) rfl⟩
set_option maxRecDepth 20000 in
theorem xv_X4_remember : xMv yX4_remember cX4_remember 1 none 0 := ⟨⟨xw_of 414 rfl rfl, xw_of 41 (by decide +kernel) rfl, by decide, by decide, by decide +kernel⟩, xw_of 413 (by decide +kernel) rfl, xw_of 5 (by decide +kernel) rfl⟩
set_option maxRecDepth 20000 in
theorem xv_X4_startTrial : xMv yX4_startTrial cX4_startTrial 3 none 2 := ⟨⟨xw_of 563 rfl rfl, xw_of 41 (by decide +kernel) rfl, by decide, by decide, by decide +kernel⟩, xw_of 562 (by decide +kernel) rfl, xw_of 13 (by decide +kernel) rfl⟩
set_option maxRecDepth 20000 in
theorem xv_X4_ticksUntilFound : xMv yX4_ticksUntilFound cX4_ticksUntilFound 5 (some .int) 2 := ⟨⟨xw_of 573 rfl rfl, xw_of 41 (by decide +kernel) rfl, by decide, by decide, by decide +kernel⟩, xw_of 572 (by decide +kernel) rfl, xw_of 14 (by decide +kernel) rfl⟩
set_option maxRecDepth 20000 in
theorem xi_X5_init : xMi yX5_init cX5_init 1 none 0 := ⟨⟨xw_of 604 rfl rfl, xw_of 51 (by decide +kernel) rfl, by decide, by decide, by decide +kernel⟩, xw_of 603 (by decide +kernel) rfl, rfl⟩
set_option maxRecDepth 20000 in
theorem xs_X5_in : xMs yX5_in cX5_in 3 (some .boolean) 3 := ⟨⟨xw_of 665 rfl rfl, xw_of 51 (by decide +kernel) rfl, by decide, by decide, by decide +kernel⟩, xw_of 664 (by decide +kernel) rfl⟩
set_option maxRecDepth 20000 in
theorem xs_X5_lesser : xMs yX5_lesser cX5_lesser 2 (some .int) 2 := ⟨⟨xw_of 789 rfl rfl, xw_of 51 (by decide +kernel) rfl, by decide, by decide, by decide +kernel⟩, xw_of 788 (by decide +kernel) rfl⟩
set_option maxRecDepth 20000 in
theorem xs_X5_greater : xMs yX5_greater cX5_greater 2 (some .int) 2 := ⟨⟨xw_of 779 rfl rfl, xw_of 51 (by decide +kernel) rfl, by decide, by decide, by decide +kernel⟩, xw_of 778 (by decide +kernel) rfl⟩
set_option maxRecDepth 20000 in
theorem xs_X5_at : xMs yX5_at cX5_at 2 (some .int) 2 := ⟨⟨xw_of 620 rfl rfl, xw_of 51 (by decide +kernel) rfl, by decide, by decide, by decide +kernel⟩, xw_of 619 (by decide +kernel) rfl⟩
set_option maxRecDepth 20000 in
theorem xs_X5_copies : xMs yX5_copies cX5_copies 5 none 4 := ⟨⟨xw_of 627 rfl rfl, xw_of 51 (by decide +kernel) rfl, by decide, by decide, by decide +kernel⟩, xw_of 626 (by decide +kernel) rfl⟩
set_option maxRecDepth 20000 in
theorem xv_X5_begins : xMv yX5_begins cX5_begins 2 none 0 := ⟨⟨xw_of 609 rfl rfl, xw_of 51 (by decide +kernel) rfl, by decide, by decide, by decide +kernel⟩, xw_of 608 (by decide +kernel) rfl, xw_of 15 (by decide +kernel) rfl⟩
set_option maxRecDepth 20000 in
theorem xv_X5_addsWay : xMv yX5_addsWay cX5_addsWay 2 (some .boolean) 0 := ⟨⟨xw_of 613 rfl rfl, xw_of 51 (by decide +kernel) rfl, by decide, by decide, by decide +kernel⟩, xw_of 612 (by decide +kernel) rfl, xw_of 16 (by decide +kernel) rfl⟩
set_option maxRecDepth 20000 in
theorem xv_X5_addsHop : xMv yX5_addsHop cX5_addsHop 5 (some .boolean) 2 := ⟨⟨xw_of 617 rfl rfl, xw_of 51 (by decide +kernel) rfl, by decide, by decide, by decide +kernel⟩, xw_of 616 (by decide +kernel) rfl, xw_of 17 (by decide +kernel) rfl⟩
set_option maxRecDepth 20000 in
theorem xv_X5_takes : xMv yX5_takes cX5_takes 2 none 0 := ⟨⟨xw_of 624 rfl rfl, xw_of 51 (by decide +kernel) rfl, by decide, by decide, by decide +kernel⟩, xw_of 623 (by decide +kernel) rfl, xw_of 18 (by decide +kernel) rfl⟩
set_option maxRecDepth 20000 in
theorem xv_X5_isAt : xMv yX5_isAt cX5_isAt 3 (some .boolean) 2 := ⟨⟨xw_of 689 rfl rfl, xw_of 51 (by decide +kernel) rfl, by decide, by decide, by decide +kernel⟩, xw_of 688 (by decide +kernel) rfl, xw_of 22 (by decide +kernel) rfl⟩
set_option maxRecDepth 20000 in
theorem xv_X5_takesSign : xMv yX5_takesSign cX5_takesSign 3 (some .boolean) 1 := ⟨⟨xw_of 706 rfl rfl, xw_of 51 (by decide +kernel) rfl, by decide, by decide, by decide +kernel⟩, xw_of 705 (by decide +kernel) rfl, xw_of 25 (by decide +kernel) rfl⟩
set_option maxRecDepth 20000 in
theorem xv_X5_takesWord : xMv yX5_takesWord cX5_takesWord 4 (some .long) 0 := ⟨⟨xw_of 685 rfl rfl, xw_of 51 (by decide +kernel) rfl, by decide, by decide, by decide +kernel⟩, xw_of 684 (by decide +kernel) rfl, xw_of 21 (by decide +kernel) rfl⟩
set_option maxRecDepth 20000 in
theorem xv_X5_takesNumber : xMv yX5_takesNumber cX5_takesNumber 5 (some .int) 2 := ⟨⟨xw_of 702 rfl rfl, xw_of 51 (by decide +kernel) rfl, by decide, by decide, by decide +kernel⟩, xw_of 701 (by decide +kernel) rfl, xw_of 24 (by decide +kernel) rfl⟩
set_option maxRecDepth 20000 in
theorem xv_X5_puts : xMv yX5_puts cX5_puts 5 (some .boolean) 3 := ⟨⟨xw_of 719 rfl rfl, xw_of 51 (by decide +kernel) rfl, by decide, by decide, by decide +kernel⟩, xw_of 718 (by decide +kernel) rfl, xw_of 27 (by decide +kernel) rfl⟩
set_option maxRecDepth 20000 in
theorem xv_X5_takesHop : xMv yX5_takesHop cX5_takesHop 5 (some .boolean) 0 := ⟨⟨xw_of 698 rfl rfl, xw_of 51 (by decide +kernel) rfl, by decide, by decide, by decide +kernel⟩, xw_of 697 (by decide +kernel) rfl, xw_of 23 (by decide +kernel) rfl⟩
set_option maxRecDepth 20000 in
theorem xv_X5_takesBelief : xMv yX5_takesBelief cX5_takesBelief 4 (some .boolean) 0 := ⟨⟨xw_of 727 rfl rfl, xw_of 51 (by decide +kernel) rfl, by decide, by decide, by decide +kernel⟩, xw_of 726 (by decide +kernel) rfl, xw_of 28 (by decide +kernel) rfl⟩
set_option maxRecDepth 20000 in
theorem xv_X5_takesLoss : xMv yX5_takesLoss cX5_takesLoss 1 (some .boolean) 0 := ⟨⟨xw_of 715 rfl rfl, xw_of 51 (by decide +kernel) rfl, by decide, by decide, by decide +kernel⟩, xw_of 714 (by decide +kernel) rfl, xw_of 26 (by decide +kernel) rfl⟩
set_option maxRecDepth 20000 in
theorem xv_X5_takesItem : xMv yX5_takesItem cX5_takesItem 4 (some .boolean) 0 := ⟨⟨xw_of 681 rfl rfl, xw_of 51 (by decide +kernel) rfl, by decide, by decide, by decide +kernel⟩, xw_of 680 (by decide +kernel) rfl, xw_of 20 (by decide +kernel) rfl⟩
set_option maxRecDepth 20000 in
theorem xv_X5_reads : xMv yX5_reads cX5_reads 2 (some .int) 0 := ⟨⟨xw_of 677 rfl rfl, xw_of 51 (by decide +kernel) rfl, by decide, by decide, by decide +kernel⟩, xw_of 676 (by decide +kernel) rfl, xw_of 19 (by decide +kernel) rfl⟩
set_option maxRecDepth 20000 in
theorem xv_X5_write : xMv yX5_write cX5_write 2 (some .int) 1 := ⟨⟨xw_of 662 rfl rfl, xw_of 51 (by decide +kernel) rfl, by decide, by decide, by decide +kernel⟩, xw_of 660 (by decide +kernel) rfl, xw_of 661 (by decide +kernel) rfl⟩
set_option maxRecDepth 20000 in
theorem xv_X5_wipe : xMv yX5_wipe cX5_wipe 2 (some .int) 0 := ⟨⟨xw_of 669 rfl rfl, xw_of 51 (by decide +kernel) rfl, by decide, by decide, by decide +kernel⟩, xw_of 667 (by decide +kernel) rfl, xw_of 668 (by decide +kernel) rfl⟩
set_option maxRecDepth 20000 in
theorem xv_X5_fault : xMv yX5_fault cX5_fault 1 (some .int) 0 := ⟨⟨xw_of 673 rfl rfl, xw_of 51 (by decide +kernel) rfl, by decide, by decide, by decide +kernel⟩, xw_of 671 (by decide +kernel) rfl, xw_of 672 (by decide +kernel) rfl⟩
set_option maxRecDepth 20000 in
theorem xv_X5_lay : xMv yX5_lay cX5_lay 1 (some .int) 0 := ⟨⟨xw_of 735 rfl rfl, xw_of 51 (by decide +kernel) rfl, by decide, by decide, by decide +kernel⟩, xw_of 733 (by decide +kernel) rfl, xw_of 734 (by decide +kernel) rfl⟩
set_option maxRecDepth 20000 in
theorem xs_X5_drawn : xMs yX5_drawn cX5_drawn 5 (some .int) 3 := ⟨⟨xw_of 766 rfl rfl, xw_of 51 (by decide +kernel) rfl, by decide, by decide, by decide +kernel⟩, xw_of 765 (by decide +kernel) rfl⟩
set_option maxRecDepth 20000 in
theorem xs_X5_dropper : xMs yX5_dropper cX5_dropper 4 (some .int) 3 := ⟨⟨xw_of 776 rfl rfl, xw_of 51 (by decide +kernel) rfl, by decide, by decide, by decide +kernel⟩, xw_of 775 (by decide +kernel) rfl⟩
set_option maxRecDepth 20000 in
theorem xs_X5_met : xMs yX5_met cX5_met 5 (some .int) 3 := ⟨⟨xw_of 773 rfl rfl, xw_of 51 (by decide +kernel) rfl, by decide, by decide, by decide +kernel⟩, xw_of 772 (by decide +kernel) rfl⟩
set_option maxRecDepth 20000 in
theorem xs_X5_isBelieved : xMs yX5_isBelieved cX5_isBelieved 3 (some .boolean) 3 := ⟨⟨xw_of 782 rfl rfl, xw_of 51 (by decide +kernel) rfl, by decide, by decide, by decide +kernel⟩, xw_of 781 (by decide +kernel) rfl⟩
set_option maxRecDepth 20000 in
theorem xv_X5_sends : xMv yX5_sends cX5_sends 5 none 3 := ⟨⟨xw_of 763 rfl rfl, xw_of 51 (by decide +kernel) rfl, by decide, by decide, by decide +kernel⟩, xw_of 762 (by decide +kernel) rfl, xw_of 33 (by decide +kernel) rfl⟩
set_option maxRecDepth 20000 in
theorem xv_X5_isGone : xMv yX5_isGone cX5_isGone 1 (some .boolean) 0 := ⟨⟨xw_of 786 rfl rfl, xw_of 51 (by decide +kernel) rfl, by decide, by decide, by decide +kernel⟩, xw_of 785 (by decide +kernel) rfl, xw_of 34 (by decide +kernel) rfl⟩
set_option maxRecDepth 20000 in
theorem xv_X5_feels : xMv yX5_feels cX5_feels 5 none 2 := ⟨⟨xw_of 759 rfl rfl, xw_of 51 (by decide +kernel) rfl, by decide, by decide, by decide +kernel⟩, xw_of 758 (by decide +kernel) rfl, xw_of 32 (by decide +kernel) rfl⟩
set_option maxRecDepth 20000 in
theorem xs_X5_probed : xMs yX5_probed cX5_probed 3 (some .int) 2 := ⟨⟨xw_of 796 rfl rfl, xw_of 51 (by decide +kernel) rfl, by decide, by decide, by decide +kernel⟩, xw_of 795 (by decide +kernel) rfl⟩
set_option maxRecDepth 20000 in
theorem xv_X5_probes : xMv yX5_probes cX5_probes 4 none 2 := ⟨⟨xw_of 793 rfl rfl, xw_of 51 (by decide +kernel) rfl, by decide, by decide, by decide +kernel⟩, xw_of 792 (by decide +kernel) rfl, xw_of 35 (by decide +kernel) rfl⟩
set_option maxRecDepth 20000 in
theorem xv_X5_ticks : xMv yX5_ticks cX5_ticks 8 none 2 := ⟨⟨xw_of 755 rfl rfl, xw_of 51 (by decide +kernel) rfl, by decide, by decide, by decide +kernel⟩, xw_of 754 (by decide +kernel) rfl, xw_of 31 (by decide +kernel) rfl⟩
set_option maxRecDepth 20000 in
theorem xv_X5_keeps : xMv yX5_keeps cX5_keeps 2 none 0 := ⟨⟨xw_of 747 rfl rfl, xw_of 51 (by decide +kernel) rfl, by decide, by decide, by decide +kernel⟩, xw_of 746 (by decide +kernel) rfl, xw_of 29 (by decide +kernel) rfl⟩
set_option maxRecDepth 20000 in
theorem xv_X5_undo : xMv yX5_undo cX5_undo 1 (some .int) 0 := ⟨⟨xw_of 739 rfl rfl, xw_of 51 (by decide +kernel) rfl, by decide, by decide, by decide +kernel⟩, xw_of 737 (by decide +kernel) rfl, xw_of 738 (by decide +kernel) rfl⟩
set_option maxRecDepth 20000 in
theorem xv_X5_sumOf : xMv yX5_sumOf cX5_sumOf 4 (some .int) 1 := ⟨⟨xw_of 751 rfl rfl, xw_of 51 (by decide +kernel) rfl, by decide, by decide, by decide +kernel⟩, xw_of 750 (by decide +kernel) rfl, xw_of 30 (by decide +kernel) rfl⟩
set_option maxRecDepth 20000 in
theorem xv_X5_tick : xMv yX5_tick cX5_tick 5 (some .int) 1 := ⟨⟨xw_of 743 rfl rfl, xw_of 51 (by decide +kernel) rfl, by decide, by decide, by decide +kernel⟩, xw_of 741 (by decide +kernel) rfl, xw_of 742 (by decide +kernel) rfl⟩
set_option maxRecDepth 20000 in
theorem xv_X5_isWay : xMv yX5_isWay cX5_isWay 2 (some .boolean) 1 := ⟨⟨xw_of 804 rfl rfl, xw_of 51 (by decide +kernel) rfl, by decide, by decide, by decide +kernel⟩, xw_of 803 (by decide +kernel) rfl, xw_of 36 (by decide +kernel) rfl⟩
set_option maxRecDepth 20000 in
theorem xv_X5_isHop : xMv yX5_isHop cX5_isHop 3 (some .boolean) 2 := ⟨⟨xw_of 813 rfl rfl, xw_of 51 (by decide +kernel) rfl, by decide, by decide, by decide +kernel⟩, xw_of 812 (by decide +kernel) rfl, xw_of 37 (by decide +kernel) rfl⟩
set_option maxRecDepth 20000 in
theorem xv_X5_send : xMv yX5_send cX5_send 3 (some .int) 2 := ⟨⟨xw_of 800 rfl rfl, xw_of 51 (by decide +kernel) rfl, by decide, by decide, by decide +kernel⟩, xw_of 798 (by decide +kernel) rfl, xw_of 799 (by decide +kernel) rfl⟩
set_option maxRecDepth 20000 in
theorem xv_X5_changed : xMv yX5_changed cX5_changed 4 (some .int) 2 := ⟨⟨xw_of 817 rfl rfl, xw_of 51 (by decide +kernel) rfl, by decide, by decide, by decide +kernel⟩, xw_of 816 (by decide +kernel) rfl, xw_of 38 (by decide +kernel) rfl⟩
set_option maxRecDepth 20000 in
theorem xv_X5_limit : xMv yX5_limit cX5_limit 4 (some .int) 3 := ⟨⟨xw_of 809 rfl rfl, xw_of 51 (by decide +kernel) rfl, by decide, by decide, by decide +kernel⟩, xw_of 807 (by decide +kernel) rfl, xw_of 808 (by decide +kernel) rfl⟩
set_option maxRecDepth 20000 in
theorem xv_X5_kind : xMv yX5_kind cX5_kind 4 (some .int) 3 := ⟨⟨xw_of 821 rfl rfl, xw_of 51 (by decide +kernel) rfl, by decide, by decide, by decide +kernel⟩, xw_of 819 (by decide +kernel) rfl, xw_of 820 (by decide +kernel) rfl⟩
set_option maxRecDepth 20000 in
theorem xv_X5_loss : xMv yX5_loss cX5_loss 3 (some .int) 2 := ⟨⟨xw_of 825 rfl rfl, xw_of 51 (by decide +kernel) rfl, by decide, by decide, by decide +kernel⟩, xw_of 823 (by decide +kernel) rfl, xw_of 824 (by decide +kernel) rfl⟩
set_option maxRecDepth 20000 in
theorem xv_X5_believe : xMv yX5_believe cX5_believe 2 (some .int) 1 := ⟨⟨xw_of 829 rfl rfl, xw_of 51 (by decide +kernel) rfl, by decide, by decide, by decide +kernel⟩, xw_of 827 (by decide +kernel) rfl, xw_of 828 (by decide +kernel) rfl⟩
set_option maxRecDepth 20000 in
theorem xs_X5_passes : xMs yX5_passes cX5_passes 4 (some .int) 2 := ⟨⟨xw_of 836 rfl rfl, xw_of 51 (by decide +kernel) rfl, by decide, by decide, by decide +kernel⟩, xw_of 835 (by decide +kernel) rfl⟩
set_option maxRecDepth 20000 in
theorem xv_X5_way : xMv yX5_way cX5_way 3 (some .int) 2 := ⟨⟨xw_of 833 rfl rfl, xw_of 51 (by decide +kernel) rfl, by decide, by decide, by decide +kernel⟩, xw_of 831 (by decide +kernel) rfl, xw_of 832 (by decide +kernel) rfl⟩
set_option maxRecDepth 20000 in
theorem xv_X5_hop : xMv yX5_hop cX5_hop 4 (some .int) 3 := ⟨⟨xw_of 840 rfl rfl, xw_of 51 (by decide +kernel) rfl, by decide, by decide, by decide +kernel⟩, xw_of 838 (by decide +kernel) rfl, xw_of 839 (by decide +kernel) rfl⟩
set_option maxRecDepth 20000 in
theorem xv_X5_probe : xMv yX5_probe cX5_probe 2 (some .int) 1 := ⟨⟨xw_of 844 rfl rfl, xw_of 51 (by decide +kernel) rfl, by decide, by decide, by decide +kernel⟩, xw_of 842 (by decide +kernel) rfl, xw_of 843 (by decide +kernel) rfl⟩
set_option maxRecDepth 20000 in
theorem xv_X5_padding : xMv yX5_padding cX5_padding 4 (some .int) 2 := ⟨⟨xw_of 848 rfl rfl, xw_of 51 (by decide +kernel) rfl, by decide, by decide, by decide +kernel⟩, xw_of 846 (by decide +kernel) rfl, xw_of 847 (by decide +kernel) rfl⟩
set_option maxRecDepth 20000 in
theorem xv_X5_meets : xMv yX5_meets cX5_meets 4 (some .int) 3 := ⟨⟨xw_of 852 rfl rfl, xw_of 51 (by decide +kernel) rfl, by decide, by decide, by decide +kernel⟩, xw_of 850 (by decide +kernel) rfl, xw_of 851 (by decide +kernel) rfl⟩
set_option maxRecDepth 20000 in
theorem xv_X5_draw : xMv yX5_draw cX5_draw 3 (some .int) 2 := ⟨⟨xw_of 856 rfl rfl, xw_of 51 (by decide +kernel) rfl, by decide, by decide, by decide +kernel⟩, xw_of 854 (by decide +kernel) rfl, xw_of 855 (by decide +kernel) rfl⟩
set_option maxRecDepth 20000 in
theorem xv_X5_ahead : xMv yX5_ahead cX5_ahead 5 (some .int) 3 := ⟨⟨xw_of 860 rfl rfl, xw_of 51 (by decide +kernel) rfl, by decide, by decide, by decide +kernel⟩, xw_of 858 (by decide +kernel) rfl, xw_of 859 (by decide +kernel) rfl⟩
set_option maxRecDepth 20000 in
theorem xv_X5_soonBy : xMv yX5_soonBy cX5_soonBy 5 (some .int) 2 := ⟨⟨xw_of 868 rfl rfl, xw_of 51 (by decide +kernel) rfl, by decide, by decide, by decide +kernel⟩, xw_of 867 (by decide +kernel) rfl, xw_of 39 (by decide +kernel) rfl⟩
set_option maxRecDepth 20000 in
theorem xv_X5_soon : xMv yX5_soon cX5_soon 3 (some .int) 2 := ⟨⟨xw_of 864 rfl rfl, xw_of 51 (by decide +kernel) rfl, by decide, by decide, by decide +kernel⟩, xw_of 862 (by decide +kernel) rfl, xw_of 863 (by decide +kernel) rfl⟩
set_option maxRecDepth 20000 in
theorem xv_X5_best : xMv yX5_best cX5_best 7 (some .int) 1 := ⟨⟨xw_of 872 rfl rfl, xw_of 51 (by decide +kernel) rfl, by decide, by decide, by decide +kernel⟩, xw_of 870 (by decide +kernel) rfl, xw_of 871 (by decide +kernel) rfl⟩
set_option maxRecDepth 20000 in
theorem xv_X5_count : xMv yX5_count cX5_count 5 (some .int) 1 := ⟨⟨xw_of 876 rfl rfl, xw_of 51 (by decide +kernel) rfl, by decide, by decide, by decide +kernel⟩, xw_of 874 (by decide +kernel) rfl, xw_of 875 (by decide +kernel) rfl⟩
set_option maxRecDepth 20000 in
theorem xs_J9_max_7cf53 : xMs yJ9_max_7cf53 cJ9_max_7cf53 2 (some .int) 2 := ⟨⟨xw_of 453 rfl rfl, xw_of 52 (by decide +kernel) rfl, by decide, by decide, by decide +kernel⟩, xw_of 452 (by decide +kernel) rfl⟩
set_option maxRecDepth 20000 in
theorem xs_J9_min_7cf53 : xMs yJ9_min_7cf53 cJ9_min_7cf53 2 (some .int) 2 := ⟨⟨xw_of 530 rfl rfl, xw_of 52 (by decide +kernel) rfl, by decide, by decide, by decide +kernel⟩, xw_of 529 (by decide +kernel) rfl⟩
set_option maxRecDepth 20000 in
theorem xv_J0_length_8abf5 : xMv yJ0_length_8abf5 cJ0_length_8abf5 1 (some .int) 0 := ⟨⟨xw_of 217 rfl rfl, xw_of 46 (by decide +kernel) rfl, by decide, by decide, by decide +kernel⟩, xw_of 215 (by decide +kernel) rfl, xw_of 216 (by decide +kernel) rfl⟩
set_option maxRecDepth 20000 in
theorem xv_J0_charAt_5068e : xMv yJ0_charAt_5068e cJ0_charAt_5068e 2 (some .char) 1 := ⟨⟨xw_of 227 rfl rfl, xw_of 46 (by decide +kernel) rfl, by decide, by decide, by decide +kernel⟩, xw_of 225 (by decide +kernel) rfl, xw_of 226 (by decide +kernel) rfl⟩
set_option maxRecDepth 20000 in
theorem xv_J0_coder_7d493 : xMv yJ0_coder_7d493 cJ0_coder_7d493 1 (some .byte) 0 := ⟨⟨xw_of 221 rfl rfl, xw_of 46 (by decide +kernel) rfl, by decide, by decide, by decide +kernel⟩, xw_of 219 (by decide +kernel) rfl, xw_of 220 (by decide +kernel) rfl⟩
set_option maxRecDepth 20000 in
theorem xv_J0_isLatin1_aae02 : xMv yJ0_isLatin1_aae02 cJ0_isLatin1_aae02 1 (some .boolean) 0 := ⟨⟨xw_of 231 rfl rfl, xw_of 46 (by decide +kernel) rfl, by decide, by decide, by decide +kernel⟩, xw_of 229 (by decide +kernel) rfl, xw_of 230 (by decide +kernel) rfl⟩
set_option maxRecDepth 20000 in
theorem xs_J0_checkIndex_df160 : xMs yJ0_checkIndex_df160 cJ0_checkIndex_df160 2 none 2 := ⟨⟨xw_of 237 rfl rfl, xw_of 46 (by decide +kernel) rfl, by decide, by decide, by decide +kernel⟩, xw_of 236 (by decide +kernel) rfl⟩
set_option maxRecDepth 20000 in
theorem xs_J1_charAt_3b067 : xMs yJ1_charAt_3b067 cJ1_charAt_3b067 2 (some .char) 2 := ⟨⟨xw_of 234 rfl rfl, xw_of 47 (by decide +kernel) rfl, by decide, by decide, by decide +kernel⟩, xw_of 233 (by decide +kernel) rfl⟩
set_option maxRecDepth 20000 in
theorem xs_J2_getChar_3b067 : xMs yJ2_getChar_3b067 cJ2_getChar_3b067 2 (some .char) 2 := ⟨⟨xw_of 255 rfl rfl, xw_of 49 (by decide +kernel) rfl, by decide, by decide, by decide +kernel⟩, xw_of 254 (by decide +kernel) rfl⟩
set_option maxRecDepth 20000 in
theorem xs_J2_length_9d52b : xMs yJ2_length_9d52b cJ2_length_9d52b 1 (some .int) 1 := ⟨⟨xw_of 251 rfl rfl, xw_of 49 (by decide +kernel) rfl, by decide, by decide, by decide +kernel⟩, xw_of 250 (by decide +kernel) rfl⟩
set_option maxRecDepth 20000 in
theorem xs_J2_charAt_3b067 : xMs yJ2_charAt_3b067 cJ2_charAt_3b067 2 (some .char) 2 := ⟨⟨xw_of 245 rfl rfl, xw_of 49 (by decide +kernel) rfl, by decide, by decide, by decide +kernel⟩, xw_of 244 (by decide +kernel) rfl⟩
set_option maxRecDepth 20000 in
theorem xs_J2_checkIndex_2214a : xMs yJ2_checkIndex_2214a cJ2_checkIndex_2214a 2 none 2 := ⟨⟨xw_of 248 rfl rfl, xw_of 49 (by decide +kernel) rfl, by decide, by decide, by decide +kernel⟩, xw_of 247 (by decide +kernel) rfl⟩
set_option maxRecDepth 20000 in
theorem xs_J3_checkIndex_8e157 : xMs yJ3_checkIndex_8e157 cJ3_checkIndex_8e157 3 (some .int) 3 := ⟨⟨xw_of 242 rfl rfl, xw_of 48 (by decide +kernel) rfl, by decide, by decide, by decide +kernel⟩, xw_of 241 (by decide +kernel) rfl⟩
theorem xn_L_7 : xNw RL 7 4 8 [.null, .null, .null, .null, .int 0, .int 0, .null, .null] := ⟨RX4, TX4, tyX4, rfl, inWX4, tyX4_ok, xw_of 53 (by decide +kernel) rfl, xw_of 54 (by decide +kernel) rfl, xw_of 41 (by decide +kernel) rfl, by decide +kernel⟩
theorem xc_L_7 : Cond.classLink RL 7 RX4 ∈ xW := xw_of 53 (by decide +kernel) rfl
theorem xl_L_9 : Cond.methodLink RL 9 yX4_init ∈ xW := xw_of 55 (by decide +kernel) rfl
theorem xl_X4_1 : Cond.methodLink RX4 1 objectInit ∈ xW := xw_of 58 (by decide +kernel) rfl
theorem xn_X4_7 : xNw RX4 7 2 3 [.null, .int 0, .int 0] := ⟨RX2, TX2, tyX2, rfl, inWX2, tyX2_ok, xw_of 61 (by decide +kernel) rfl, xw_of 62 (by decide +kernel) rfl, xw_of 42 (by decide +kernel) rfl, by decide +kernel⟩
theorem xc_X4_7 : Cond.classLink RX4 7 RX2 ∈ xW := xw_of 61 (by decide +kernel) rfl
theorem xl_X2_3 : Cond.methodLink RX2 3 objectInit ∈ xW := xw_of 66 (by decide +kernel) rfl
theorem xn_X4_16 : xNw RX4 16 0 4 [.null, .null, .int 0, .int 0] := ⟨RX0, TX0, tyX0, rfl, inWX0, tyX0_ok, xw_of 81 (by decide +kernel) rfl, xw_of 82 (by decide +kernel) rfl, xw_of 43 (by decide +kernel) rfl, by decide +kernel⟩
theorem xc_X4_16 : Cond.classLink RX4 16 RX0 ∈ xW := xw_of 81 (by decide +kernel) rfl
theorem xl_X4_18 : Cond.methodLink RX4 18 yX0_init ∈ xW := xw_of 83 (by decide +kernel) rfl
theorem xl_X0_3 : Cond.methodLink RX0 3 objectInit ∈ xW := xw_of 86 (by decide +kernel) rfl
theorem xn_X0_9 : xNw RX0 9 1 5 [.int 0, .int 0, .int 0, .int 0, .int 0] := ⟨RX1, TX1, tyX1, rfl, inWX1, tyX1_ok, xw_of 87 (by decide +kernel) rfl, xw_of 88 (by decide +kernel) rfl, xw_of 44 (by decide +kernel) rfl, by decide +kernel⟩
theorem xc_X0_9 : Cond.classLink RX0 9 RX1 ∈ xW := xw_of 87 (by decide +kernel) rfl
theorem xl_X1_3 : Cond.methodLink RX1 3 objectInit ∈ xW := xw_of 92 (by decide +kernel) rfl
theorem xn_X0_18 : xNw RX0 18 3 15 [.int 0, .int 0, .null, .null, .int 0, .int 0, .int 0, .int 0, .int 0, .int 0, .int 0, .int 0, .int 0, .int 0, .int 0] := ⟨RX3, TX3, tyX3, rfl, inWX3, tyX3_ok, xw_of 122 (by decide +kernel) rfl, xw_of 124 (by decide +kernel) rfl, xw_of 45 (by decide +kernel) rfl, by decide +kernel⟩
theorem xc_X0_18 : Cond.classLink RX0 18 RX3 ∈ xW := xw_of 122 (by decide +kernel) rfl
theorem xl_X3_3 : Cond.methodLink RX3 3 objectInit ∈ xW := xw_of 128 (by decide +kernel) rfl
theorem xn_X4_30 : xNw RX4 30 3 15 [.int 0, .int 0, .null, .null, .int 0, .int 0, .int 0, .int 0, .int 0, .int 0, .int 0, .int 0, .int 0, .int 0, .int 0] := ⟨RX3, TX3, tyX3, rfl, inWX3, tyX3_ok, xw_of 209 (by decide +kernel) rfl, xw_of 124 (by decide +kernel) rfl, xw_of 45 (by decide +kernel) rfl, by decide +kernel⟩
theorem xc_X4_30 : Cond.classLink RX4 30 RX3 ∈ xW := xw_of 209 (by decide +kernel) rfl
theorem xn_X4_37 : xNw RX4 37 1 5 [.int 0, .int 0, .int 0, .int 0, .int 0] := ⟨RX1, TX1, tyX1, rfl, inWX1, tyX1_ok, xw_of 211 (by decide +kernel) rfl, xw_of 88 (by decide +kernel) rfl, xw_of 44 (by decide +kernel) rfl, by decide +kernel⟩
theorem xc_X4_37 : Cond.classLink RX4 37 RX1 ∈ xW := xw_of 211 (by decide +kernel) rfl
theorem xl_X4_46 : Cond.methodLink RX4 46 yJ0_length_8abf5 ∈ xW := xw_of 214 (by decide +kernel) rfl
theorem xl_J0_335 : Cond.methodLink RJ0 335 yJ0_coder_7d493 ∈ xW := xw_of 218 (by decide +kernel) rfl
theorem xl_X4_52 : Cond.methodLink RX4 52 yJ0_charAt_5068e ∈ xW := xw_of 224 (by decide +kernel) rfl
theorem xl_J0_492 : Cond.methodLink RJ0 492 yJ0_isLatin1_aae02 ∈ xW := xw_of 228 (by decide +kernel) rfl
theorem xl_J0_495 : Cond.methodLink RJ0 495 yJ1_charAt_3b067 ∈ xW := xw_of 232 (by decide +kernel) rfl
theorem xl_J1_9 : Cond.methodLink RJ1 9 yJ0_checkIndex_df160 ∈ xW := xw_of 235 (by decide +kernel) rfl
theorem xl_J0_1059 : Cond.methodLink RJ0 1059 yJ3_checkIndex_8e157 ∈ xW := xw_of 240 (by decide +kernel) rfl
theorem xl_J0_498 : Cond.methodLink RJ0 498 yJ2_charAt_3b067 ∈ xW := xw_of 243 (by decide +kernel) rfl
theorem xl_J2_67 : Cond.methodLink RJ2 67 yJ2_checkIndex_2214a ∈ xW := xw_of 246 (by decide +kernel) rfl
theorem xl_J2_48 : Cond.methodLink RJ2 48 yJ2_length_9d52b ∈ xW := xw_of 249 (by decide +kernel) rfl
theorem xl_J2_414 : Cond.methodLink RJ2 414 yJ0_checkIndex_df160 ∈ xW := xw_of 252 (by decide +kernel) rfl
theorem xl_J2_71 : Cond.methodLink RJ2 71 yJ2_getChar_3b067 ∈ xW := xw_of 253 (by decide +kernel) rfl
theorem xl_X4_56 : Cond.methodLink RX4 56 yX2_append ∈ xW := xw_of 262 (by decide +kernel) rfl
theorem xl_X4_60 : Cond.methodLink RX4 60 yX0_read ∈ xW := xw_of 266 (by decide +kernel) rfl
theorem xl_X0_57 : Cond.methodLink RX0 57 yX1_clear ∈ xW := xw_of 270 (by decide +kernel) rfl
theorem xl_X0_68 : Cond.methodLink RX0 68 yX0_readItem ∈ xW := xw_of 274 (by decide +kernel) rfl
theorem xl_X0_74 : Cond.methodLink RX0 74 yX2_take ∈ xW := xw_of 279 (by decide +kernel) rfl
theorem xl_X2_22 : Cond.methodLink RX2 22 yJ0_length_8abf5 ∈ xW := xw_of 283 (by decide +kernel) rfl
theorem xl_X2_27 : Cond.methodLink RX2 27 yJ0_charAt_5068e ∈ xW := xw_of 284 (by decide +kernel) rfl
theorem xl_X0_83 : Cond.methodLink RX0 83 yX0_addWay ∈ xW := xw_of 285 (by decide +kernel) rfl
theorem xl_X0_100 : Cond.methodLink RX0 100 yX3_clear ∈ xW := xw_of 289 (by decide +kernel) rfl
theorem xl_X0_89 : Cond.methodLink RX0 89 yX0_readHop ∈ xW := xw_of 294 (by decide +kernel) rfl
theorem xl_X0_103 : Cond.methodLink RX0 103 yX2_takeNumber ∈ xW := xw_of 298 (by decide +kernel) rfl
theorem xl_X0_108 : Cond.methodLink RX0 108 yX2_takeKind ∈ xW := xw_of 306 (by decide +kernel) rfl
theorem xl_X2_37 : Cond.methodLink RX2 37 yX2_take ∈ xW := xw_of 311 (by decide +kernel) rfl
theorem xl_X0_112 : Cond.methodLink RX0 112 yX3_addHop ∈ xW := xw_of 315 (by decide +kernel) rfl
theorem xl_X0_94 : Cond.methodLink RX0 94 yX0_readLoss ∈ xW := xw_of 320 (by decide +kernel) rfl
theorem xl_X0_97 : Cond.methodLink RX0 97 yX0_readRule ∈ xW := xw_of 324 (by decide +kernel) rfl
theorem xl_X0_136 : Cond.methodLink RX0 136 yX2_takeBelief ∈ xW := xw_of 332 (by decide +kernel) rfl
theorem xl_X0_78 : Cond.methodLink RX0 78 yX3_begin ∈ xW := xw_of 341 (by decide +kernel) rfl
theorem xl_X3_42 : Cond.methodLink RX3 42 yX3_isNarrowed ∈ xW := xw_of 345 (by decide +kernel) rfl
theorem xl_X4_64 : Cond.methodLink RX4 64 yX0_copy ∈ xW := xw_of 349 (by decide +kernel) rfl
theorem xl_X0_25 : Cond.methodLink RX0 25 yX1_copy ∈ xW := xw_of 353 (by decide +kernel) rfl
theorem xl_X0_33 : Cond.methodLink RX0 33 yX3_copy ∈ xW := xw_of 357 (by decide +kernel) rfl
theorem xl_X3_70 : Cond.methodLink RX3 70 arraycopyName ∈ xW := xw_of 361 (by decide +kernel) rfl
theorem xl_L_13 : Cond.methodLink RL 13 yX4_write ∈ xW := xw_of 390 (by decide +kernel) rfl
theorem xl_L_18 : Cond.methodLink RL 18 yX4_wipe ∈ xW := xw_of 394 (by decide +kernel) rfl
theorem xl_L_23 : Cond.methodLink RL 23 yX4_fault ∈ xW := xw_of 398 (by decide +kernel) rfl
theorem xl_L_27 : Cond.methodLink RL 27 yX4_lay ∈ xW := xw_of 402 (by decide +kernel) rfl
theorem xl_L_31 : Cond.methodLink RL 31 yX4_tick ∈ xW := xw_of 406 (by decide +kernel) rfl
theorem xl_X4_77 : Cond.methodLink RX4 77 yX4_isBetween ∈ xW := xw_of 410 (by decide +kernel) rfl
theorem xl_X4_84 : Cond.methodLink RX4 84 yX4_remember ∈ xW := xw_of 411 (by decide +kernel) rfl
theorem xl_X4_87 : Cond.methodLink RX4 87 yX0_allLost ∈ xW := xw_of 415 (by decide +kernel) rfl
theorem xl_X4_97 : Cond.methodLink RX4 97 yX3_goOn ∈ xW := xw_of 419 (by decide +kernel) rfl
theorem xl_X3_119 : Cond.methodLink RX3 119 yX3_step ∈ xW := xw_of 423 (by decide +kernel) rfl
theorem xl_X3_123 : Cond.methodLink RX3 123 yX3_checkLow ∈ xW := xw_of 427 (by decide +kernel) rfl
theorem xl_X3_132 : Cond.methodLink RX3 132 yX3_post ∈ xW := xw_of 431 (by decide +kernel) rfl
theorem xl_X3_104 : Cond.methodLink RX3 104 yX3_drawn ∈ xW := xw_of 435 (by decide +kernel) rfl
theorem xk_X3_89 : Cond.constantLong RX3 89 (7919) ∈ xW := xw_of 439 (by decide +kernel) rfl
theorem xk_X3_94 : Cond.constantLong RX3 94 (6151) ∈ xW := xw_of 440 (by decide +kernel) rfl
theorem xk_X3_96 : Cond.constantLong RX3 96 (3571) ∈ xW := xw_of 441 (by decide +kernel) rfl
theorem xk_X3_98 : Cond.constantLong RX3 98 (65521) ∈ xW := xw_of 442 (by decide +kernel) rfl
theorem xl_X3_108 : Cond.methodLink RX3 108 yX3_meeting ∈ xW := xw_of 443 (by decide +kernel) rfl
theorem xl_X3_100 : Cond.methodLink RX3 100 yX3_dropper ∈ xW := xw_of 447 (by decide +kernel) rfl
theorem xl_X3_86 : Cond.methodLink RX3 86 Lib.Math.max.name ∈ xW := xw_of 451 (by decide +kernel) rfl
theorem xl_X3_111 : Cond.methodLink RX3 111 yX3_isLost ∈ xW := xw_of 454 (by decide +kernel) rfl
theorem xl_X3_115 : Cond.methodLink RX3 115 yX1_trusts ∈ xW := xw_of 458 (by decide +kernel) rfl
theorem xl_X3_135 : Cond.methodLink RX3 135 yX3_miss ∈ xW := xw_of 462 (by decide +kernel) rfl
theorem xl_X3_138 : Cond.methodLink RX3 138 yX3_lowerHigh ∈ xW := xw_of 466 (by decide +kernel) rfl
theorem xl_X3_126 : Cond.methodLink RX3 126 yX3_search ∈ xW := xw_of 470 (by decide +kernel) rfl
theorem xl_X3_142 : Cond.methodLink RX3 142 yX3_probeSize ∈ xW := xw_of 474 (by decide +kernel) rfl
theorem xl_X3_129 : Cond.methodLink RX3 129 yX3_growOlder ∈ xW := xw_of 478 (by decide +kernel) rfl
theorem xl_L_35 : Cond.methodLink RL 35 yX4_send ∈ xW := xw_of 482 (by decide +kernel) rfl
theorem xl_X4_101 : Cond.methodLink RX4 101 yX4_isWay ∈ xW := xw_of 486 (by decide +kernel) rfl
theorem xk_X4_108 : Cond.constant RX4 108 (99999) ∈ xW := xw_of 490 (by decide +kernel) rfl
theorem xl_X4_109 : Cond.methodLink RX4 109 yX3_post ∈ xW := xw_of 491 (by decide +kernel) rfl
theorem xl_L_40 : Cond.methodLink RL 40 yX4_limit ∈ xW := xw_of 492 (by decide +kernel) rfl
theorem xl_X4_113 : Cond.methodLink RX4 113 yX4_isHop ∈ xW := xw_of 496 (by decide +kernel) rfl
theorem xl_L_45 : Cond.methodLink RL 45 yX4_kind ∈ xW := xw_of 500 (by decide +kernel) rfl
theorem xl_L_49 : Cond.methodLink RL 49 yX4_loss ∈ xW := xw_of 504 (by decide +kernel) rfl
theorem xl_L_53 : Cond.methodLink RL 53 yX4_believe ∈ xW := xw_of 508 (by decide +kernel) rfl
theorem xl_L_57 : Cond.methodLink RL 57 yX4_undo ∈ xW := xw_of 512 (by decide +kernel) rfl
theorem xl_L_61 : Cond.methodLink RL 61 yX4_way ∈ xW := xw_of 516 (by decide +kernel) rfl
theorem xl_X4_133 : Cond.methodLink RX4 133 yX3_tell ∈ xW := xw_of 520 (by decide +kernel) rfl
theorem xl_X3_76 : Cond.methodLink RX3 76 yX3_passes ∈ xW := xw_of 524 (by decide +kernel) rfl
theorem xl_X3_80 : Cond.methodLink RX3 80 Lib.Math.min.name ∈ xW := xw_of 528 (by decide +kernel) rfl
theorem xl_L_65 : Cond.methodLink RL 65 yX4_hop ∈ xW := xw_of 531 (by decide +kernel) rfl
theorem xl_L_69 : Cond.methodLink RL 69 yX4_probe ∈ xW := xw_of 535 (by decide +kernel) rfl
theorem xl_X4_137 : Cond.methodLink RX4 137 yX3_isNarrowed ∈ xW := xw_of 539 (by decide +kernel) rfl
theorem xl_X4_141 : Cond.methodLink RX4 141 yX3_probeSize ∈ xW := xw_of 540 (by decide +kernel) rfl
theorem xl_L_73 : Cond.methodLink RL 73 yX4_padding ∈ xW := xw_of 541 (by decide +kernel) rfl
theorem xl_L_77 : Cond.methodLink RL 77 yX4_meets ∈ xW := xw_of 545 (by decide +kernel) rfl
theorem xl_X4_144 : Cond.methodLink RX4 144 yX3_meeting ∈ xW := xw_of 549 (by decide +kernel) rfl
theorem xl_X4_147 : Cond.methodLink RX4 147 yX3_dropper ∈ xW := xw_of 550 (by decide +kernel) rfl
theorem xl_L_81 : Cond.methodLink RL 81 yX4_draw ∈ xW := xw_of 551 (by decide +kernel) rfl
theorem xl_X4_150 : Cond.methodLink RX4 150 yX3_drawn ∈ xW := xw_of 555 (by decide +kernel) rfl
theorem xl_L_85 : Cond.methodLink RL 85 yX4_ahead ∈ xW := xw_of 556 (by decide +kernel) rfl
theorem xl_X4_153 : Cond.methodLink RX4 153 yX4_startTrial ∈ xW := xw_of 560 (by decide +kernel) rfl
theorem xl_X4_197 : Cond.methodLink RX4 197 yX3_copy ∈ xW := xw_of 564 (by decide +kernel) rfl
theorem xl_X4_200 : Cond.methodLink RX4 200 yX1_copy ∈ xW := xw_of 565 (by decide +kernel) rfl
theorem xl_L_89 : Cond.methodLink RL 89 yX4_soon ∈ xW := xw_of 566 (by decide +kernel) rfl
theorem xl_X4_172 : Cond.methodLink RX4 172 yX4_ticksUntilFound ∈ xW := xw_of 570 (by decide +kernel) rfl
theorem xl_X4_203 : Cond.methodLink RX4 203 yX3_sought ∈ xW := xw_of 574 (by decide +kernel) rfl
theorem xl_X4_207 : Cond.methodLink RX4 207 yX3_step ∈ xW := xw_of 578 (by decide +kernel) rfl
theorem xl_L_93 : Cond.methodLink RL 93 yX4_best ∈ xW := xw_of 579 (by decide +kernel) rfl
theorem xl_L_97 : Cond.methodLink RL 97 yX4_count ∈ xW := xw_of 583 (by decide +kernel) rfl
theorem xl_X4_185 : Cond.methodLink RX4 185 yX0_leastLow ∈ xW := xw_of 587 (by decide +kernel) rfl
theorem xl_X0_42 : Cond.methodLink RX0 42 Lib.Math.min.name ∈ xW := xw_of 591 (by decide +kernel) rfl
theorem xl_X4_188 : Cond.methodLink RX4 188 yX0_allDone ∈ xW := xw_of 592 (by decide +kernel) rfl
theorem xl_X4_191 : Cond.methodLink RX4 191 yX0_allSent ∈ xW := xw_of 596 (by decide +kernel) rfl
theorem xn_L_10 : xNw RL 10 5 10 [.null, .null, .null, .null, .int 0, .null, .int 0, .int 0, .int 0, .int 0] := ⟨RX5, TX5, tyX5, rfl, inWX5, tyX5_ok, xw_of 600 (by decide +kernel) rfl, xw_of 601 (by decide +kernel) rfl, xw_of 51 (by decide +kernel) rfl, by decide +kernel⟩
theorem xc_L_10 : Cond.classLink RL 10 RX5 ∈ xW := xw_of 600 (by decide +kernel) rfl
theorem xl_L_12 : Cond.methodLink RL 12 yX5_init ∈ xW := xw_of 602 (by decide +kernel) rfl
theorem xl_X5_1 : Cond.methodLink RX5 1 objectInit ∈ xW := xw_of 605 (by decide +kernel) rfl
theorem xl_X5_25 : Cond.methodLink RX5 25 yX5_begins ∈ xW := xw_of 606 (by decide +kernel) rfl
theorem xl_X5_28 : Cond.methodLink RX5 28 yX5_addsWay ∈ xW := xw_of 610 (by decide +kernel) rfl
theorem xl_X5_32 : Cond.methodLink RX5 32 yX5_addsHop ∈ xW := xw_of 614 (by decide +kernel) rfl
theorem xl_X5_36 : Cond.methodLink RX5 36 yX5_at ∈ xW := xw_of 618 (by decide +kernel) rfl
theorem xl_X5_40 : Cond.methodLink RX5 40 yX5_takes ∈ xW := xw_of 621 (by decide +kernel) rfl
theorem xl_X5_43 : Cond.methodLink RX5 43 yX5_copies ∈ xW := xw_of 625 (by decide +kernel) rfl
theorem xl_L_17 : Cond.methodLink RL 17 yX5_write ∈ xW := xw_of 659 (by decide +kernel) rfl
theorem xl_X5_57 : Cond.methodLink RX5 57 yX5_in ∈ xW := xw_of 663 (by decide +kernel) rfl
theorem xl_L_22 : Cond.methodLink RL 22 yX5_wipe ∈ xW := xw_of 666 (by decide +kernel) rfl
theorem xl_L_26 : Cond.methodLink RL 26 yX5_fault ∈ xW := xw_of 670 (by decide +kernel) rfl
theorem xl_X5_126 : Cond.methodLink RX5 126 yX5_reads ∈ xW := xw_of 674 (by decide +kernel) rfl
theorem xl_X5_123 : Cond.methodLink RX5 123 yX5_takesItem ∈ xW := xw_of 678 (by decide +kernel) rfl
theorem xl_X5_77 : Cond.methodLink RX5 77 yX5_takesWord ∈ xW := xw_of 682 (by decide +kernel) rfl
theorem xl_X5_61 : Cond.methodLink RX5 61 yX5_isAt ∈ xW := xw_of 686 (by decide +kernel) rfl
theorem xk_X5_64 : Cond.constantLong RX5 64 (32) ∈ xW := xw_of 690 (by decide +kernel) rfl
theorem xk_X5_66 : Cond.constantLong RX5 66 (96) ∈ xW := xw_of 691 (by decide +kernel) rfl
theorem xk_X5_68 : Cond.constantLong RX5 68 (-4) ∈ xW := xw_of 692 (by decide +kernel) rfl
theorem xk_X5_98 : Cond.constantLong RX5 98 (23609) ∈ xW := xw_of 693 (by decide +kernel) rfl
theorem xk_X5_100 : Cond.constantLong RX5 100 (8688) ∈ xW := xw_of 694 (by decide +kernel) rfl
theorem xl_X5_102 : Cond.methodLink RX5 102 yX5_takesHop ∈ xW := xw_of 695 (by decide +kernel) rfl
theorem xl_X5_74 : Cond.methodLink RX5 74 yX5_takesNumber ∈ xW := xw_of 699 (by decide +kernel) rfl
theorem xl_X5_70 : Cond.methodLink RX5 70 yX5_takesSign ∈ xW := xw_of 703 (by decide +kernel) rfl
theorem xk_X5_81 : Cond.constantLong RX5 81 (660876) ∈ xW := xw_of 707 (by decide +kernel) rfl
theorem xk_X5_83 : Cond.constantLong RX5 83 (24722887) ∈ xW := xw_of 708 (by decide +kernel) rfl
theorem xk_X5_85 : Cond.constantLong RX5 85 (15748) ∈ xW := xw_of 709 (by decide +kernel) rfl
theorem xk_X5_87 : Cond.constantLong RX5 87 (647370196) ∈ xW := xw_of 710 (by decide +kernel) rfl
theorem xk_X5_105 : Cond.constantLong RX5 105 (409203) ∈ xW := xw_of 711 (by decide +kernel) rfl
theorem xl_X5_107 : Cond.methodLink RX5 107 yX5_takesLoss ∈ xW := xw_of 712 (by decide +kernel) rfl
theorem xl_X5_95 : Cond.methodLink RX5 95 yX5_puts ∈ xW := xw_of 716 (by decide +kernel) rfl
theorem xk_X5_110 : Cond.constantLong RX5 110 (67173) ∈ xW := xw_of 720 (by decide +kernel) rfl
theorem xk_X5_112 : Cond.constantLong RX5 112 (20976) ∈ xW := xw_of 721 (by decide +kernel) rfl
theorem xk_X5_114 : Cond.constantLong RX5 114 (1253) ∈ xW := xw_of 722 (by decide +kernel) rfl
theorem xk_X5_116 : Cond.constantLong RX5 116 (2328139461) ∈ xW := xw_of 723 (by decide +kernel) rfl
theorem xl_X5_118 : Cond.methodLink RX5 118 yX5_takesBelief ∈ xW := xw_of 724 (by decide +kernel) rfl
theorem xk_X5_89 : Cond.constantLong RX5 89 (1420) ∈ xW := xw_of 728 (by decide +kernel) rfl
theorem xk_X5_91 : Cond.constantLong RX5 91 (3495013540) ∈ xW := xw_of 729 (by decide +kernel) rfl
theorem xk_X5_93 : Cond.constantLong RX5 93 (474565) ∈ xW := xw_of 730 (by decide +kernel) rfl
theorem xk_X5_121 : Cond.constantLong RX5 121 (4785907) ∈ xW := xw_of 731 (by decide +kernel) rfl
theorem xl_L_30 : Cond.methodLink RL 30 yX5_lay ∈ xW := xw_of 732 (by decide +kernel) rfl
theorem xl_L_60 : Cond.methodLink RL 60 yX5_undo ∈ xW := xw_of 736 (by decide +kernel) rfl
theorem xl_L_34 : Cond.methodLink RL 34 yX5_tick ∈ xW := xw_of 740 (by decide +kernel) rfl
theorem xl_X5_183 : Cond.methodLink RX5 183 yX5_keeps ∈ xW := xw_of 744 (by decide +kernel) rfl
theorem xl_X5_186 : Cond.methodLink RX5 186 yX5_sumOf ∈ xW := xw_of 748 (by decide +kernel) rfl
theorem xl_X5_190 : Cond.methodLink RX5 190 yX5_ticks ∈ xW := xw_of 752 (by decide +kernel) rfl
theorem xl_X5_176 : Cond.methodLink RX5 176 yX5_feels ∈ xW := xw_of 756 (by decide +kernel) rfl
theorem xl_X5_165 : Cond.methodLink RX5 165 yX5_sends ∈ xW := xw_of 760 (by decide +kernel) rfl
theorem xl_X5_145 : Cond.methodLink RX5 145 yX5_drawn ∈ xW := xw_of 764 (by decide +kernel) rfl
theorem xk_X5_130 : Cond.constantLong RX5 130 (7919) ∈ xW := xw_of 767 (by decide +kernel) rfl
theorem xk_X5_132 : Cond.constantLong RX5 132 (6151) ∈ xW := xw_of 768 (by decide +kernel) rfl
theorem xk_X5_134 : Cond.constantLong RX5 134 (3571) ∈ xW := xw_of 769 (by decide +kernel) rfl
theorem xk_X5_136 : Cond.constantLong RX5 136 (65521) ∈ xW := xw_of 770 (by decide +kernel) rfl
theorem xl_X5_148 : Cond.methodLink RX5 148 yX5_met ∈ xW := xw_of 771 (by decide +kernel) rfl
theorem xl_X5_138 : Cond.methodLink RX5 138 yX5_dropper ∈ xW := xw_of 774 (by decide +kernel) rfl
theorem xl_X5_142 : Cond.methodLink RX5 142 yX5_greater ∈ xW := xw_of 777 (by decide +kernel) rfl
theorem xl_X5_154 : Cond.methodLink RX5 154 yX5_isBelieved ∈ xW := xw_of 780 (by decide +kernel) rfl
theorem xl_X5_162 : Cond.methodLink RX5 162 yX5_isGone ∈ xW := xw_of 783 (by decide +kernel) rfl
theorem xl_X5_169 : Cond.methodLink RX5 169 yX5_lesser ∈ xW := xw_of 787 (by decide +kernel) rfl
theorem xl_X5_180 : Cond.methodLink RX5 180 yX5_probes ∈ xW := xw_of 790 (by decide +kernel) rfl
theorem xl_X5_172 : Cond.methodLink RX5 172 yX5_probed ∈ xW := xw_of 794 (by decide +kernel) rfl
theorem xl_L_39 : Cond.methodLink RL 39 yX5_send ∈ xW := xw_of 797 (by decide +kernel) rfl
theorem xl_X5_193 : Cond.methodLink RX5 193 yX5_isWay ∈ xW := xw_of 801 (by decide +kernel) rfl
theorem xk_X5_196 : Cond.constant RX5 196 (99999) ∈ xW := xw_of 805 (by decide +kernel) rfl
theorem xl_L_44 : Cond.methodLink RL 44 yX5_limit ∈ xW := xw_of 806 (by decide +kernel) rfl
theorem xl_X5_197 : Cond.methodLink RX5 197 yX5_isHop ∈ xW := xw_of 810 (by decide +kernel) rfl
theorem xl_X5_200 : Cond.methodLink RX5 200 yX5_changed ∈ xW := xw_of 814 (by decide +kernel) rfl
theorem xl_L_48 : Cond.methodLink RL 48 yX5_kind ∈ xW := xw_of 818 (by decide +kernel) rfl
theorem xl_L_52 : Cond.methodLink RL 52 yX5_loss ∈ xW := xw_of 822 (by decide +kernel) rfl
theorem xl_L_56 : Cond.methodLink RL 56 yX5_believe ∈ xW := xw_of 826 (by decide +kernel) rfl
theorem xl_L_64 : Cond.methodLink RL 64 yX5_way ∈ xW := xw_of 830 (by decide +kernel) rfl
theorem xl_X5_203 : Cond.methodLink RX5 203 yX5_passes ∈ xW := xw_of 834 (by decide +kernel) rfl
theorem xl_L_68 : Cond.methodLink RL 68 yX5_hop ∈ xW := xw_of 837 (by decide +kernel) rfl
theorem xl_L_72 : Cond.methodLink RL 72 yX5_probe ∈ xW := xw_of 841 (by decide +kernel) rfl
theorem xl_L_76 : Cond.methodLink RL 76 yX5_padding ∈ xW := xw_of 845 (by decide +kernel) rfl
theorem xl_L_80 : Cond.methodLink RL 80 yX5_meets ∈ xW := xw_of 849 (by decide +kernel) rfl
theorem xl_L_84 : Cond.methodLink RL 84 yX5_draw ∈ xW := xw_of 853 (by decide +kernel) rfl
theorem xl_L_88 : Cond.methodLink RL 88 yX5_ahead ∈ xW := xw_of 857 (by decide +kernel) rfl
theorem xl_L_92 : Cond.methodLink RL 92 yX5_soon ∈ xW := xw_of 861 (by decide +kernel) rfl
theorem xl_X5_206 : Cond.methodLink RX5 206 yX5_soonBy ∈ xW := xw_of 865 (by decide +kernel) rfl
theorem xl_L_96 : Cond.methodLink RL 96 yX5_best ∈ xW := xw_of 869 (by decide +kernel) rfl
theorem xl_L_100 : Cond.methodLink RL 100 yX5_count ∈ xW := xw_of 873 (by decide +kernel) rfl
theorem xw_oi : Cond.instanceMethod objectInit ∈ xW := xw_of 59 (by decide +kernel) rfl
set_option maxRecDepth 20000 in
theorem xw_oc : Cond.code objectInit ⟨#[0xb1]⟩ 1 none ∈ xW := xw_of 60 (by decide +kernel) rfl
theorem xw_maxs : Cond.static Lib.Math.max.name ∈ xW := xw_of 452 (by decide +kernel) rfl
set_option maxRecDepth 20000 in
theorem xw_maxc : Cond.code Lib.Math.max.name Lib.Math.max.code 2 (some .int) ∈ xW := xw_of 453 (by decide +kernel) rfl
theorem xw_mins : Cond.static Lib.Math.min.name ∈ xW := xw_of 529 (by decide +kernel) rfl
set_option maxRecDepth 20000 in
theorem xw_minc : Cond.code Lib.Math.min.name Lib.Math.min.code 2 (some .int) ∈ xW := xw_of 530 (by decide +kernel) rfl
theorem xw_math : Cond.initialized "java/lang/Math" ∈ xW := xw_of 52 (by decide +kernel) rfl
theorem xw_acn : Cond.native arraycopyName ∈ xW := xw_of 363 (by decide +kernel) rfl
theorem xw_acs : Cond.static arraycopyName ∈ xW := xw_of 362 (by decide +kernel) rfl
theorem xw_sys : Cond.initialized "java/lang/System" ∈ xW := xw_of 50 (by decide +kernel) rfl
theorem xw_arr_int : Cond.arrayClass .int ∈ xW := xw_of 190 (by decide +kernel) rfl
theorem xw_arr_char : Cond.arrayClass .char ∈ xW := xw_of 80 (by decide +kernel) rfl
