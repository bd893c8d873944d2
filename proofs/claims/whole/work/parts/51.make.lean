/-! making: constructors over a world that grows -/
theorem cl_L_7 : Cond.classLink RL 7 RX9 ∈ tbU := tbm 70 (by decide +kernel) (by decide +kernel)
theorem it_X9 : Cond.instantiable RX9 9 ∈ tbU := tbm 71 (by decide +kernel) (by decide +kernel)
theorem mo_X9 : Cond.methodLink RX9 3 Lib.objectInit ∈ tbU := tbm 75 (by decide +kernel) (by decide +kernel)
theorem ob_inst : Cond.instanceMethod Lib.objectInit ∈ tbU := tbm 76 (by decide +kernel) (by decide +kernel)
theorem ob_code : Cond.code Lib.objectInit ⟨#[0xb1]⟩ 1 none ∈ tbU := tbm 77 (by decide +kernel) (by decide +kernel)
theorem cl_X9_9 : Cond.classLink RX9 9 RX4 ∈ tbU := tbm 78 (by decide +kernel) (by decide +kernel)
theorem it_X4 : Cond.instantiable RX4 8 ∈ tbU := tbm 79 (by decide +kernel) (by decide +kernel)
theorem mo_X4 : Cond.methodLink RX4 3 Lib.objectInit ∈ tbU := tbm 83 (by decide +kernel) (by decide +kernel)
theorem cl_X4_28 : Cond.classLink RX4 28 RX2 ∈ tbU := tbm 84 (by decide +kernel) (by decide +kernel)
theorem it_X2 : Cond.instantiable RX2 3 ∈ tbU := tbm 85 (by decide +kernel) (by decide +kernel)
theorem mo_X2 : Cond.methodLink RX2 1 Lib.objectInit ∈ tbU := tbm 89 (by decide +kernel) (by decide +kernel)
theorem ac_int : Cond.arrayClass .int ∈ tbU := tbm 103 (by decide +kernel) (by decide +kernel)
theorem cl_X9_25 : Cond.classLink RX9 25 RX5 ∈ tbU := tbm 137 (by decide +kernel) (by decide +kernel)
theorem it_X5 : Cond.instantiable RX5 7 ∈ tbU := tbm 138 (by decide +kernel) (by decide +kernel)
theorem mo_X5 : Cond.methodLink RX5 1 Lib.objectInit ∈ tbU := tbm 142 (by decide +kernel) (by decide +kernel)
theorem cl_X9_32 : Cond.classLink RX9 32 RX6 ∈ tbU := tbm 170 (by decide +kernel) (by decide +kernel)
theorem cl_X9_38 : Cond.classLink RX9 38 RX3 ∈ tbU := tbm 172 (by decide +kernel) (by decide +kernel)
theorem it_X3 : Cond.instantiable RX3 8 ∈ tbU := tbm 173 (by decide +kernel) (by decide +kernel)
theorem mo_X3 : Cond.methodLink RX3 3 Lib.objectInit ∈ tbU := tbm 177 (by decide +kernel) (by decide +kernel)
theorem cl_X9_45 : Cond.classLink RX9 45 RX1 ∈ tbU := tbm 205 (by decide +kernel) (by decide +kernel)
theorem it_X1 : Cond.instantiable RX1 4 ∈ tbU := tbm 206 (by decide +kernel) (by decide +kernel)
theorem mo_X1 : Cond.methodLink RX1 3 Lib.objectInit ∈ tbU := tbm 210 (by decide +kernel) (by decide +kernel)
theorem cl_X9_52 : Cond.classLink RX9 52 RX7 ∈ tbU := tbm 225 (by decide +kernel) (by decide +kernel)
theorem it_X7 : Cond.instantiable RX7 2 ∈ tbU := tbm 226 (by decide +kernel) (by decide +kernel)
theorem mo_X7 : Cond.methodLink RX7 1 Lib.objectInit ∈ tbU := tbm 230 (by decide +kernel) (by decide +kernel)
theorem cl_X9_59 : Cond.classLink RX9 59 RX8 ∈ tbU := tbm 240 (by decide +kernel) (by decide +kernel)
theorem it_X8 : Cond.instantiable RX8 1 ∈ tbU := tbm 241 (by decide +kernel) (by decide +kernel)
theorem mo_X8 : Cond.methodLink RX8 1 Lib.objectInit ∈ tbU := tbm 245 (by decide +kernel) (by decide +kernel)
theorem it_X6 : Cond.instantiable RX6 3 ∈ tbU := tbm 250 (by decide +kernel) (by decide +kernel)
theorem mo_X6 : Cond.methodLink RX6 1 Lib.objectInit ∈ tbU := tbm 254 (by decide +kernel) (by decide +kernel)
theorem ac_long : Cond.arrayClass .long ∈ tbU := tbm 268 (by decide +kernel) (by decide +kernel)
theorem cl_L_10 : Cond.classLink RL 10 RX10 ∈ tbU := tbm 749 (by decide +kernel) (by decide +kernel)
theorem it_X10 : Cond.instantiable RX10 18 ∈ tbU := tbm 750 (by decide +kernel) (by decide +kernel)
theorem mo_X10 : Cond.methodLink RX10 3 Lib.objectInit ∈ tbU := tbm 754 (by decide +kernel) (by decide +kernel)
theorem cl_X10_43 : Cond.classLink RX10 43 "[[J" ∈ tbU := tbm 756 (by decide +kernel) (by decide +kernel)
def MIn (y : MethodName) (cb : ByteArray) (nB n : Nat) : Prop := Cond.instanceMethod y ∈ tbU ∧ Cond.initialized y.cls ∈ tbU ∧ Cond.code y cb nB none ∈ tbU ∧ (y.cls ≠ "java/lang/invoke/MethodHandle" ∧ y.cls ≠ "java/lang/invoke/VarHandle" ∧ (parseMethodDescriptor y.desc).map (fun d => d.parameters.length) = some n) ∧ y.name = "<init>"
theorem mi_X9 : MIn yX9_init cX9_init 2 0 := ⟨tbm 73 (by decide +kernel) (by decide +kernel), ini_X9, tbm 74 (by decide +kernel) (by decide +kernel), by decide +kernel, rfl⟩
theorem mi_X4 : MIn yX4_init cX4_init 1 0 := ⟨tbm 81 (by decide +kernel) (by decide +kernel), ini_X4, tbm 82 (by decide +kernel) (by decide +kernel), by decide +kernel, rfl⟩
theorem mi_X2 : MIn yX2_init cX2_init 2 1 := ⟨tbm 87 (by decide +kernel) (by decide +kernel), ini_X2, tbm 88 (by decide +kernel) (by decide +kernel), by decide +kernel, rfl⟩
theorem mi_X5 : MIn yX5_init cX5_init 1 0 := ⟨tbm 140 (by decide +kernel) (by decide +kernel), ini_X5, tbm 141 (by decide +kernel) (by decide +kernel), by decide +kernel, rfl⟩
theorem mi_X3 : MIn yX3_init cX3_init 1 0 := ⟨tbm 175 (by decide +kernel) (by decide +kernel), ini_X3, tbm 176 (by decide +kernel) (by decide +kernel), by decide +kernel, rfl⟩
theorem mi_X1 : MIn yX1_init cX1_init 1 0 := ⟨tbm 208 (by decide +kernel) (by decide +kernel), ini_X1, tbm 209 (by decide +kernel) (by decide +kernel), by decide +kernel, rfl⟩
theorem mi_X7 : MIn yX7_init cX7_init 1 0 := ⟨tbm 228 (by decide +kernel) (by decide +kernel), ini_X7, tbm 229 (by decide +kernel) (by decide +kernel), by decide +kernel, rfl⟩
theorem mi_X8 : MIn yX8_init cX8_init 1 0 := ⟨tbm 243 (by decide +kernel) (by decide +kernel), ini_X8, tbm 244 (by decide +kernel) (by decide +kernel), by decide +kernel, rfl⟩
theorem mi_X6 : MIn yX6_init cX6_init 1 0 := ⟨tbm 252 (by decide +kernel) (by decide +kernel), ini_X6, tbm 253 (by decide +kernel) (by decide +kernel), by decide +kernel, rfl⟩
theorem mi_X10 : MIn yX10_init cX10_init 1 0 := ⟨tbm 752 (by decide +kernel) (by decide +kernel), ini_X10, tbm 753 (by decide +kernel) (by decide +kernel), by decide +kernel, rfl⟩
/-- a final field, written in its own constructor -/
def FF (ci k : Nat) (own : String) (ty : FieldType) : Prop := ∀ (C : String) (T : u_T) (N : Nat), vwCl[ci]? = some (C, T, N) → (T k).2.2.2 = true ∧ (T k).1 = own ∧ parseFieldDescriptor (T k).2.2.1 = some ty
theorem zf_X1 : ∀ j, j < 4 → defaultValue (tyX1 j) = vp_V [.null, .null, .null, .int 0] j := fun j hj => by
  rcases (show j = 0 ∨ j = 1 ∨ j = 2 ∨ j = 3 by omega) with rfl | rfl | rfl | rfl <;> rfl
theorem ff_0_0 : FF 0 0 RX1 (.array .int) := fun C T N h => by
  have e : some (RX1, TX1, 4) = some (C, T, N) := h
  cases e
  exact ⟨rfl, rfl, tyX1_ok 0 (by decide)⟩
theorem ff_0_1 : FF 0 1 RX1 (.array .int) := fun C T N h => by
  have e : some (RX1, TX1, 4) = some (C, T, N) := h
  cases e
  exact ⟨rfl, rfl, tyX1_ok 1 (by decide)⟩
theorem ff_0_2 : FF 0 2 RX1 (.array .int) := fun C T N h => by
  have e : some (RX1, TX1, 4) = some (C, T, N) := h
  cases e
  exact ⟨rfl, rfl, tyX1_ok 2 (by decide)⟩
theorem zf_X2 : ∀ j, j < 3 → defaultValue (tyX2 j) = vp_V [.null, .null, .int 0] j := fun j hj => by
  rcases (show j = 0 ∨ j = 1 ∨ j = 2 by omega) with rfl | rfl | rfl <;> rfl
theorem ff_1_0 : FF 1 0 RX2 (.array .int) := fun C T N h => by
  have e : some (RX2, TX2, 3) = some (C, T, N) := h
  cases e
  exact ⟨rfl, rfl, tyX2_ok 0 (by decide)⟩
theorem ff_1_1 : FF 1 1 RX2 (.array .int) := fun C T N h => by
  have e : some (RX2, TX2, 3) = some (C, T, N) := h
  cases e
  exact ⟨rfl, rfl, tyX2_ok 1 (by decide)⟩
theorem zf_X3 : ∀ j, j < 8 → defaultValue (tyX3 j) = vp_V [.null, .int 0, .null, .null, .null, .int 0, .int 0, .int 0] j := fun j hj => by
  rcases (show j = 0 ∨ j = 1 ∨ j = 2 ∨ j = 3 ∨ j = 4 ∨ j = 5 ∨ j = 6 ∨ j = 7 by omega) with rfl | rfl | rfl | rfl | rfl | rfl | rfl | rfl <;> rfl
theorem ff_2_0 : FF 2 0 RX3 (.array .int) := fun C T N h => by
  have e : some (RX3, TX3, 8) = some (C, T, N) := h
  cases e
  exact ⟨rfl, rfl, tyX3_ok 0 (by decide)⟩
theorem ff_2_2 : FF 2 2 RX3 (.array .int) := fun C T N h => by
  have e : some (RX3, TX3, 8) = some (C, T, N) := h
  cases e
  exact ⟨rfl, rfl, tyX3_ok 2 (by decide)⟩
theorem ff_2_3 : FF 2 3 RX3 (.array .int) := fun C T N h => by
  have e : some (RX3, TX3, 8) = some (C, T, N) := h
  cases e
  exact ⟨rfl, rfl, tyX3_ok 3 (by decide)⟩
theorem ff_2_4 : FF 2 4 RX3 (.array .int) := fun C T N h => by
  have e : some (RX3, TX3, 8) = some (C, T, N) := h
  cases e
  exact ⟨rfl, rfl, tyX3_ok 4 (by decide)⟩
theorem zf_X4 : ∀ j, j < 8 → defaultValue (tyX4 j) = vp_V [.int 0, .int 0, .int 0, .null, .int 0, .null, .null, .null] j := fun j hj => by
  rcases (show j = 0 ∨ j = 1 ∨ j = 2 ∨ j = 3 ∨ j = 4 ∨ j = 5 ∨ j = 6 ∨ j = 7 by omega) with rfl | rfl | rfl | rfl | rfl | rfl | rfl | rfl <;> rfl
theorem ff_3_3 : FF 3 3 RX4 (.array .int) := fun C T N h => by
  have e : some (RX4, TX4, 8) = some (C, T, N) := h
  cases e
  exact ⟨rfl, rfl, tyX4_ok 3 (by decide)⟩
theorem ff_3_5 : FF 3 5 RX4 (.object "WeighedLots$Rows") := fun C T N h => by
  have e : some (RX4, TX4, 8) = some (C, T, N) := h
  cases e
  exact ⟨rfl, rfl, tyX4_ok 5 (by decide)⟩
theorem ff_3_6 : FF 3 6 RX4 (.object "WeighedLots$Rows") := fun C T N h => by
  have e : some (RX4, TX4, 8) = some (C, T, N) := h
  cases e
  exact ⟨rfl, rfl, tyX4_ok 6 (by decide)⟩
theorem ff_3_7 : FF 3 7 RX4 (.object "WeighedLots$Rows") := fun C T N h => by
  have e : some (RX4, TX4, 8) = some (C, T, N) := h
  cases e
  exact ⟨rfl, rfl, tyX4_ok 7 (by decide)⟩
theorem zf_X5 : ∀ j, j < 7 → defaultValue (tyX5 j) = vp_V [.null, .int 0, .int 0, .null, .null, .null, .int 0] j := fun j hj => by
  rcases (show j = 0 ∨ j = 1 ∨ j = 2 ∨ j = 3 ∨ j = 4 ∨ j = 5 ∨ j = 6 by omega) with rfl | rfl | rfl | rfl | rfl | rfl | rfl <;> rfl
theorem ff_4_0 : FF 4 0 RX5 (.array .int) := fun C T N h => by
  have e : some (RX5, TX5, 7) = some (C, T, N) := h
  cases e
  exact ⟨rfl, rfl, tyX5_ok 0 (by decide)⟩
theorem ff_4_3 : FF 4 3 RX5 (.array .int) := fun C T N h => by
  have e : some (RX5, TX5, 7) = some (C, T, N) := h
  cases e
  exact ⟨rfl, rfl, tyX5_ok 3 (by decide)⟩
theorem ff_4_4 : FF 4 4 RX5 (.array .int) := fun C T N h => by
  have e : some (RX5, TX5, 7) = some (C, T, N) := h
  cases e
  exact ⟨rfl, rfl, tyX5_ok 4 (by decide)⟩
theorem ff_4_5 : FF 4 5 RX5 (.array .int) := fun C T N h => by
  have e : some (RX5, TX5, 7) = some (C, T, N) := h
  cases e
  exact ⟨rfl, rfl, tyX5_ok 5 (by decide)⟩
theorem zf_X6 : ∀ j, j < 3 → defaultValue (tyX6 j) = vp_V [.int 0, .int 0, .null] j := fun j hj => by
  rcases (show j = 0 ∨ j = 1 ∨ j = 2 by omega) with rfl | rfl | rfl <;> rfl
theorem ff_5_2 : FF 5 2 RX6 (.array .long) := fun C T N h => by
  have e : some (RX6, TX6, 3) = some (C, T, N) := h
  cases e
  exact ⟨rfl, rfl, tyX6_ok 2 (by decide)⟩
theorem zf_X7 : ∀ j, j < 2 → defaultValue (tyX7 j) = vp_V [.int 0, .null] j := fun j hj => by
  rcases (show j = 0 ∨ j = 1 by omega) with rfl | rfl <;> rfl
theorem ff_6_1 : FF 6 1 RX7 (.array .int) := fun C T N h => by
  have e : some (RX7, TX7, 2) = some (C, T, N) := h
  cases e
  exact ⟨rfl, rfl, tyX7_ok 1 (by decide)⟩
theorem zf_X8 : ∀ j, j < 1 → defaultValue (tyX8 j) = vp_V [.null] j := fun j hj => by
  rcases (show j = 0 by omega) with rfl <;> rfl
theorem ff_7_0 : FF 7 0 RX8 (.array .int) := fun C T N h => by
  have e : some (RX8, TX8, 1) = some (C, T, N) := h
  cases e
  exact ⟨rfl, rfl, tyX8_ok 0 (by decide)⟩
theorem zf_X9 : ∀ j, j < 9 → defaultValue (tyX9 j) = vp_V [.null, .null, .int 0, .null, .null, .null, .null, .null, .null] j := fun j hj => by
  rcases (show j = 0 ∨ j = 1 ∨ j = 2 ∨ j = 3 ∨ j = 4 ∨ j = 5 ∨ j = 6 ∨ j = 7 ∨ j = 8 by omega) with rfl | rfl | rfl | rfl | rfl | rfl | rfl | rfl | rfl <;> rfl
theorem ff_8_0 : FF 8 0 RX9 (.object "WeighedLots$Setup") := fun C T N h => by
  have e : some (RX9, TX9, 9) = some (C, T, N) := h
  cases e
  exact ⟨rfl, rfl, tyX9_ok 0 (by decide)⟩
theorem ff_8_1 : FF 8 1 RX9 (.object "WeighedLots$Setup") := fun C T N h => by
  have e : some (RX9, TX9, 9) = some (C, T, N) := h
  cases e
  exact ⟨rfl, rfl, tyX9_ok 1 (by decide)⟩
theorem ff_8_3 : FF 8 3 RX9 (.object "WeighedLots$SetupText") := fun C T N h => by
  have e : some (RX9, TX9, 9) = some (C, T, N) := h
  cases e
  exact ⟨rfl, rfl, tyX9_ok 3 (by decide)⟩
theorem ff_8_4 : FF 8 4 RX9 (.array (.object "WeighedLots$Tape")) := fun C T N h => by
  have e : some (RX9, TX9, 9) = some (C, T, N) := h
  cases e
  exact ⟨rfl, rfl, tyX9_ok 4 (by decide)⟩
theorem ff_8_5 : FF 8 5 RX9 (.object "WeighedLots$Scales") := fun C T N h => by
  have e : some (RX9, TX9, 9) = some (C, T, N) := h
  cases e
  exact ⟨rfl, rfl, tyX9_ok 5 (by decide)⟩
theorem ff_8_6 : FF 8 6 RX9 (.object "WeighedLots$Orbit") := fun C T N h => by
  have e : some (RX9, TX9, 9) = some (C, T, N) := h
  cases e
  exact ⟨rfl, rfl, tyX9_ok 6 (by decide)⟩
theorem ff_8_7 : FF 8 7 RX9 (.object "WeighedLots$Trades") := fun C T N h => by
  have e : some (RX9, TX9, 9) = some (C, T, N) := h
  cases e
  exact ⟨rfl, rfl, tyX9_ok 7 (by decide)⟩
theorem ff_8_8 : FF 8 8 RX9 (.object "WeighedLots$Twins") := fun C T N h => by
  have e : some (RX9, TX9, 9) = some (C, T, N) := h
  cases e
  exact ⟨rfl, rfl, tyX9_ok 8 (by decide)⟩
theorem zf_X10 : ∀ j, j < 18 → defaultValue (tyX10 j) = vp_V [.null, .null, .int 0, .null, .null, .int 0, .null, .null, .null, .int 0, .int 0, .null, .int 0, .int 0, .null, .null, .null, .null] j := fun j hj => by
  rcases (show j = 0 ∨ j = 1 ∨ j = 2 ∨ j = 3 ∨ j = 4 ∨ j = 5 ∨ j = 6 ∨ j = 7 ∨ j = 8 ∨ j = 9 ∨ j = 10 ∨ j = 11 ∨ j = 12 ∨ j = 13 ∨ j = 14 ∨ j = 15 ∨ j = 16 ∨ j = 17 by omega) with rfl | rfl | rfl | rfl | rfl | rfl | rfl | rfl | rfl | rfl | rfl | rfl | rfl | rfl | rfl | rfl | rfl | rfl <;> rfl
theorem ff_9_0 : FF 9 0 RX10 (.array .int) := fun C T N h => by
  have e : some (RX10, TX10, 18) = some (C, T, N) := h
  cases e
  exact ⟨rfl, rfl, tyX10_ok 0 (by decide)⟩
theorem ff_9_1 : FF 9 1 RX10 (.array .int) := fun C T N h => by
  have e : some (RX10, TX10, 18) = some (C, T, N) := h
  cases e
  exact ⟨rfl, rfl, tyX10_ok 1 (by decide)⟩
theorem ff_9_3 : FF 9 3 RX10 (.array .int) := fun C T N h => by
  have e : some (RX10, TX10, 18) = some (C, T, N) := h
  cases e
  exact ⟨rfl, rfl, tyX10_ok 3 (by decide)⟩
theorem ff_9_4 : FF 9 4 RX10 (.array .int) := fun C T N h => by
  have e : some (RX10, TX10, 18) = some (C, T, N) := h
  cases e
  exact ⟨rfl, rfl, tyX10_ok 4 (by decide)⟩
theorem ff_9_6 : FF 9 6 RX10 (.array .int) := fun C T N h => by
  have e : some (RX10, TX10, 18) = some (C, T, N) := h
  cases e
  exact ⟨rfl, rfl, tyX10_ok 6 (by decide)⟩
theorem ff_9_7 : FF 9 7 RX10 (.array .int) := fun C T N h => by
  have e : some (RX10, TX10, 18) = some (C, T, N) := h
  cases e
  exact ⟨rfl, rfl, tyX10_ok 7 (by decide)⟩
theorem ff_9_8 : FF 9 8 RX10 (.array .int) := fun C T N h => by
  have e : some (RX10, TX10, 18) = some (C, T, N) := h
  cases e
  exact ⟨rfl, rfl, tyX10_ok 8 (by decide)⟩
theorem ff_9_11 : FF 9 11 RX10 (.array .int) := fun C T N h => by
  have e : some (RX10, TX10, 18) = some (C, T, N) := h
  cases e
  exact ⟨rfl, rfl, tyX10_ok 11 (by decide)⟩
theorem ff_9_14 : FF 9 14 RX10 (.array .int) := fun C T N h => by
  have e : some (RX10, TX10, 18) = some (C, T, N) := h
  cases e
  exact ⟨rfl, rfl, tyX10_ok 14 (by decide)⟩
theorem ff_9_15 : FF 9 15 RX10 (.array .int) := fun C T N h => by
  have e : some (RX10, TX10, 18) = some (C, T, N) := h
  cases e
  exact ⟨rfl, rfl, tyX10_ok 15 (by decide)⟩
theorem ff_9_16 : FF 9 16 RX10 (.array (.array .long)) := fun C T N h => by
  have e : some (RX10, TX10, 18) = some (C, T, N) := h
  cases e
  exact ⟨rfl, rfl, tyX10_ok 16 (by decide)⟩
theorem ff_9_17 : FF 9 17 RX10 (.array .long) := fun C T N h => by
  have e : some (RX10, TX10, 18) = some (C, T, N) := h
  cases e
  exact ⟨rfl, rfl, tyX10_ok 17 (by decide)⟩
def AO2 (U : State) : Prop := ∃ (comp cA : ClassId) (k : Class), U.vm.findClass "[J" = some comp ∧ U.vm.classes[cA]? = some k ∧ k.kind = .array comp (.array .long) ∧ U.vm.findClass "[[J" = some cA
theorem AO2.moved {u U : State} (hvm : u.vm.Alike U.vm) (h : AO2 u) : AO2 U := by
  obtain ⟨comp, cA, k, h1, h2, h3, h4⟩ := h
  obtain ⟨k', hk', he⟩ := hvm.2.2 _ _ h2
  exact ⟨comp, cA, k', by rw [hvm.findClass]; exact h1, hk', by rw [he]; exact h3, by rw [hvm.findClass]; exact h4⟩
def Kz (g : GC) (U : State) : Prop := va_K (gD g) vwCl (gTys g) U ∧ va_AO "WeighedLots$Tape" U ∧ AO2 U
theorem Kz.moved {g : GC} {u U : State} (hvm : u.vm.Alike U.vm) (h : Kz g u) : Kz g U := ⟨va_K.moved hvm h.1, va_AO.moved hvm h.2.1, AO2.moved hvm h.2.2⟩
def Cz (g : GC) (own : String) (cc : ByteArray) (nL : Nat) (A : Nat → Prop) (p : Program) (s : State) (m : MethodId) (args : Array Value) (meth : Method) (c : Code) : Prop :=
  p.tables.exec = Jvm.exec ∧ c.code = cc ∧ meth.sig.returnType = none ∧ c.maxLocals = nL ∧ s.vm.findClass own = some m.cls ∧ (∀ w ∈ tbU, w.before args s = true) ∧ meth.locks = false ∧ Kz g s ∧ (∀ q, s.heap.size ≤ q → A q) ∧ (nL = 3 ∨ meth.name = "<init>")
def Tc (g : GC) (own : String) (cc : ByteArray) (nL : Nat) (R : Room) (mc ms : Nat) (Qc : QC) (A : Nat → Prop) (pc : Nat) (l : List (Option Value)) (st : List Value) (w : va_W) (k n : Nat) : Prop :=
  ∀ (p : Program) (e : Env) (s : State) (m : MethodId) (args : Array Value) (below : List Frame) (meth : Method) (c : Code) (H : Heap) (locs : List Loc) (ls : Array Slot), Cz g own cc nL A p s m args meth c → PL ls nL l → va_P (gD g) vwCl w H → va_D A w → va_S A s.heap H locs →
    W p (gL g) e R s m args below meth c H locs k n (MQ below Qc args s mc ms A) (F0 m pc ls st)
def PcZ (g : GC) (av : List Value) (w : va_W) (sz : Nat) : Array Value → State → Prop := va_Pc av (fun U => U.heap.size = sz ∧ va_P (gD g) vwCl w U.heap ∧ Kz g U ∧ va_D (fun _ => True) w)
def QZ (g : GC) (mk : (Nat → Nat) → va_W) (b a : Nat) (A : Nat → Prop) : QC := va_Qv (fun u : Nat → Nat => u b = a) (fun u t => va_P (gD g) vwCl (mk u) t.heap ∧ va_D A (mk u)) A
/-- a constructor's contract: of the one cell a (with its zeros) it makes the world mk u, u its addresses -/
def CZ (g : GC) (y : MethodName) (cc : ByteArray) (nL : Nat) (R : Room) (av : List Value) (w : va_W) (mk : (Nat → Nat) → va_W) (b a sz : Nat) : Prop := Met (gL g) y (wsU y cc nL none) R (PcZ g av w sz) (QZ g mk b a (va_A w sz)) R.cells R.slots (va_A w sz)
theorem cz_of {g : GC} {y : MethodName} {own : String} {cc : ByteArray} {nL : Nat} {R : Room} {av : List Value} {w : va_W} {mk : (Nat → Nat) → va_W} {b a sz : Nat} {l : List (Option Value)} (kk : Nat) (hl : enF av ++ List.replicate kk none = l) (hy : plainName y.cls = true) (ho : y.cls = own) (hnm : nL = 3 ∨ y.name = "<init>") (hn : (lg_sl av).length ≤ nL)
    (k : Tc g own cc nL R R.cells R.slots (QZ g mk b a (va_A w sz)) (va_A w sz) 0 l [] w 0 0) : CZ g y cc nL R av w mk b a sz := by
  refine Met.ofW (cc := cc) (maxL := nL) (ret := none) hy rfl ?_
  intro p e s m args below meth c s₁ B hml hv
  obtain ⟨rfl, hsz, hP, hK, hD⟩ := hv
  have hts := atoms_spec (ws := wsU y cc nL none) B.pre
  have hown : s.vm.findClass own = some m.cls := ho ▸ findClass_of_methodNamed B.named
  have hpl := PL.entry av hn kk
  rw [hl] at hpl
  have hin : nL = 3 ∨ meth.name = "<init>" := hnm.imp id (fun z => (name_of_methodNamed B.named B.method).1.trans z)
  have K := k p e s m _ below meth c s.heap [] _ ⟨B.exec, B.bytes, B.returns, hml, hown, fun w hw => hts w (List.mem_cons_of_mem _ hw), B.notSynchronized, hK, fun q h => Or.inr (by rw [← hsz]; exact h), hin⟩ hpl hP hD.self va_S.rf
  rw [← lg_entry_eq] at K
  exact K
section Make
variable {g : GC} {own : String} {cc : ByteArray} {nL : Nat} {R : Room} {mc ms : Nat} {Qc : QC} {A : Nat → Prop} {pc : Nat} {l : List (Option Value)} {st : List Value} {w : va_W} {k n : Nat}
theorem tc_aload_0 {r : List (Option Value)} {x : Nat} (n2 : Nat) (hn : pc + 1 = n2) (hdg : decode cc pc = .ok (.aload_n 0, 1)) (kk : Tc g own cc nL R mc ms Qc A n2 (some (.ref x) :: r) (.ref x :: st) w k n) : Tc g own cc nL R mc ms Qc A pc (some (.ref x) :: r) st w k n := by
  subst hn
  exact fun p e s m args below meth c H locs ls C hl hP hD hS => lv_aload_n C.1 C.2.1 hdg (i := 0) rfl (hl.2.2 0 _ rfl) (kk p e s m args below meth c H locs ls C hl hP hD hS)
theorem tc_iload_1 {r : List (Option Value)} {a0 : Option Value} {x : Int32} (n2 : Nat) (hn : pc + 1 = n2) (hdg : decode cc pc = .ok (.iload_n 1, 1)) (kk : Tc g own cc nL R mc ms Qc A n2 (a0 :: some (.int x) :: r) (.int x :: st) w k n) : Tc g own cc nL R mc ms Qc A pc (a0 :: some (.int x) :: r) st w k n := by
  subst hn
  exact fun p e s m args below meth c H locs ls C hl hP hD hS => lv_iload_n C.1 C.2.1 hdg (i := 1) rfl (hl.2.2 1 _ rfl) (kk p e s m args below meth c H locs ls C hl hP hD hS)
theorem tc_iconst {z : Int} (v : Int32) (hv : Int32.ofInt z = v) (n2 : Nat) (hn : pc + 1 = n2) (hdg : decode cc pc = .ok (.iconst z, 1)) (kk : Tc g own cc nL R mc ms Qc A n2 l (.int v :: st) w k n) : Tc g own cc nL R mc ms Qc A pc l st w k n := by
  subst hn
  exact fun p e s m args below meth c H locs ls C hl hP hD hS => lv_iconst C.1 C.2.1 hdg hv (kk p e s m args below meth c H locs ls C hl hP hD hS)
theorem tc_bipush {z : Int} (v : Int32) (hv : (Int8.ofInt z).toInt32 = v) (n2 : Nat) (hn : pc + 2 = n2) (hdg : decode cc pc = .ok (.bipush z, 2)) (kk : Tc g own cc nL R mc ms Qc A n2 l (.int v :: st) w k n) : Tc g own cc nL R mc ms Qc A pc l st w k n := by
  subst hn
  exact fun p e s m args below meth c H locs ls C hl hP hD hS => lv_bipush C.1 C.2.1 hdg hv (kk p e s m args below meth c H locs ls C hl hP hD hS)
theorem tc_sipush {z : Int} (v : Int32) (hv : (Int16.ofInt z).toInt32 = v) (n2 : Nat) (hn : pc + 3 = n2) (hdg : decode cc pc = .ok (.sipush z, 3)) (kk : Tc g own cc nL R mc ms Qc A n2 l (.int v :: st) w k n) : Tc g own cc nL R mc ms Qc A pc l st w k n := by
  subst hn
  exact fun p e s m args below meth c H locs ls C hl hP hD hS => lv_sipush C.1 C.2.1 hdg hv (kk p e s m args below meth c H locs ls C hl hP hD hS)
theorem tc_ldc {index : Nat} {v : Int32} (hw : Cond.constant own index v ∈ tbU) (n2 : Nat) (hn : pc + 2 = n2) (hdg : decode cc pc = .ok (.ldc index, 2)) (kk : Tc g own cc nL R mc ms Qc A n2 l (.int v :: st) w k n) : Tc g own cc nL R mc ms Qc A pc l st w k n := by
  subst hn
  exact fun p e s m args below meth c H locs ls C hl hP hD hS => lv_ldc C.1 C.2.1 C.2.2.2.2.1 (C.2.2.2.2.2.1 _ hw) hdg (kk p e s m args below meth c H locs ls C hl hP hD hS)
theorem tc_dup {v : Value} (hc : v.category = 1) (n2 : Nat) (hn : pc + 1 = n2) (hdg : decode cc pc = .ok (.dup, 1)) (kk : Tc g own cc nL R mc ms Qc A n2 l (v :: v :: st) w k n) : Tc g own cc nL R mc ms Qc A pc l (v :: st) w k n := by
  subst hn
  exact fun p e s m args below meth c H locs ls C hl hP hD hS => lv_dup C.1 C.2.1 hdg hc (kk p e s m args below meth c H locs ls C hl hP hD hS)
theorem tc_obj {a idx : Nat} (hlink : Cond.methodLink own idx Lib.objectInit ∈ tbU) (hf : 1 ≤ R.frames) (hl : (st.map fun v => v.category).sum + 12 ≤ R.locals) (n2 : Nat) (hn : pc + 3 = n2) (hdg : decode cc pc = .ok (.invokespecial idx, 3)) (kk : Tc g own cc nL R mc ms Qc A n2 l st w k n) : Tc g own cc nL R mc ms Qc A pc l (.ref a :: st) w k n := by
  subst hn
  intro p e s m args below meth c H locs ls C hl2 hP hD hS
  refine W.objInit C.1 C.2.1 C.2.2.2.2.1 (C.2.2.2.2.2.1 _ hlink) (C.2.2.2.2.2.1 _ ob_inst) (C.2.2.2.2.2.1 _ ob_code) rfl (by rw [C.2.2.2.1]; exact hl2.1) rfl hdg hf (by show 2 * 0 + (st.map fun v => v.category).sum + 12 ≤ R.locals; omega) ?_
  refine W.eq (g2 := F0 m (pc + 3) ls st) rfl ?_
  exact kk p e s m args below meth c H locs ls C hl2 hP hD hS
theorem tc_puti {index ci kf h0 : Nat} {fs : List Value} {tl : va_W} {ty : FieldType} {x : Int32} (hf : FL own index ci kf) (hw : FW ci kf ty) (hx : narrow ty (.int x) = .int x) (hx2 : fits ty (.int x) = true) (hkl : kf < fs.length) (n2 : Nat) (hn : pc + 3 = n2) (hdg : decode cc pc = .ok (.putfield index, 3)) (kk : Tc g own cc nL R mc ms Qc A n2 l st ((h0, .inr (ci, fs.set kf (.int x))) :: tl) k n) : Tc g own cc nL R mc ms Qc A pc l (.int x :: .ref h0 :: st) ((h0, .inr (ci, fs)) :: tl) k n := by
  subst hn
  intro p e s m args below meth c H locs ls C hl hP hD hS
  obtain ⟨Cn, Tn, N, ty0, h1, h2, h3, h4, h5, h6⟩ := hf
  obtain ⟨w1, w2⟩ := hw Cn Tn N h1
  exact va_put C.1 C.2.1 C.2.2.2.2.2.1 h2 ty0 h5 h6 C.2.2.2.2.1 C.2.2.2.2.2.2.2.1.1 hP hD hS 0 rfl h1 kf h3 (C.2.2.2.2.2.1 _ h4) (fun _ h9 => h9) w1 w2 hx hx2 hkl hdg (fun H1 locs1 hP1 hD1 hS1 => kk p e s m args below meth c H1 locs1 ls C hl hP1 hD1 hS1)
theorem tc_putr {index ci kf h0 : Nat} {fs : List Value} {tl : va_W} {ty : FieldType} {v : Value} (hf : FL own index ci kf) (hw : FF ci kf own ty) (hx : narrow ty v = v) (hx2 : fits ty v = true) (hkl : kf < fs.length) (h3 : nL ≠ 3) (n2 : Nat) (hn : pc + 3 = n2) (hdg : decode cc pc = .ok (.putfield index, 3)) (kk : Tc g own cc nL R mc ms Qc A n2 l st ((h0, .inr (ci, fs.set kf v)) :: tl) k n) : Tc g own cc nL R mc ms Qc A pc l (v :: .ref h0 :: st) ((h0, .inr (ci, fs)) :: tl) k n := by
  subst hn
  intro p e s m args below meth c H locs ls C hl hP hD hS
  have h3b := h3
  obtain ⟨Cn, Tn, N, ty0, h1, h2, h3, h4, h5, h6⟩ := hf
  obtain ⟨w1, w2, w3⟩ := hw Cn Tn N h1
  exact va_putF C.1 C.2.1 C.2.2.2.2.2.1 h2 ty0 h5 h6 C.2.2.2.2.1 C.2.2.2.2.2.2.2.1.1 hP hD hS 0 rfl h1 kf h3 (C.2.2.2.2.2.1 _ h4) (fun _ h9 => h9) w1 (C.2.2.2.2.2.2.2.2.2.resolve_left h3b) w2 w3 hx hx2 hkl hdg (fun H1 locs1 hP1 hD1 hS1 => kk p e s m args below meth c H1 locs1 ls C hl hP1 hD1 hS1)
theorem tc_newi {x : Int32} (N : Nat) (hx : ¬ x < 0) (hN : x.toNatClampNeg = N) (hB : N * 4 ≤ 536870912) (hc : k + 1 ≤ R.cells) (hs : n + N ≤ R.slots) (n2 : Nat) (hn : pc + 2 = n2) (hdg : decode cc pc = .ok (.newarray .int, 2)) (kk : ∀ q, Tc g own cc nL R mc ms Qc A n2 l (.ref q :: st) (w ++ [(q, .inl (gI g, N, .inl (fun _ => 0)))]) (k + 1) (n + N)) : Tc g own cc nL R mc ms Qc A pc l (.int x :: st) w k n := by
  subst hn
  intro p e s m args below meth c H locs ls C hl hP hD hS
  have hK := C.2.2.2.2.2.2.2.1.1
  refine va_newa (atype := .int) (ty := .int) (a0 := (N, .inl (fun _ => 0))) C.1 C.2.1 (C.2.2.2.2.2.1 _ ac_int) rfl hK hP hD hS C.2.2.2.2.2.2.2.2.1 (fun _ => rfl) hx hN hB hc hs hdg (fun q cA H1 hK1 hP1 hD1 hS1 => ?_)
  have e1 := (hK1.2 4 _ rfl).2
  have e2 := (hK.2 0 _ rfl).2
  have e3 : cA = gI g := Option.some.inj (e1.symm.trans e2)
  subst e3
  exact kk q p e s m args below meth c H1 locs ls C hl hP1 hD1 hS1
theorem tc_newl {x : Int32} (N : Nat) (hx : ¬ x < 0) (hN : x.toNatClampNeg = N) (hB : N * 8 ≤ 536870912) (hc : k + 1 ≤ R.cells) (hs : n + N ≤ R.slots) (n2 : Nat) (hn : pc + 2 = n2) (hdg : decode cc pc = .ok (.newarray .long, 2)) (kk : ∀ q, Tc g own cc nL R mc ms Qc A n2 l (.ref q :: st) (w ++ [(q, .inl (gJ g, N, .inr (.inl (fun _ => 0))))]) (k + 1) (n + N)) : Tc g own cc nL R mc ms Qc A pc l (.int x :: st) w k n := by
  subst hn
  intro p e s m args below meth c H locs ls C hl hP hD hS
  have hK := C.2.2.2.2.2.2.2.1.1
  refine va_newa (atype := .long) (ty := .long) (a0 := (N, .inr (.inl (fun _ => 0)))) C.1 C.2.1 (C.2.2.2.2.2.1 _ ac_long) rfl hK hP hD hS C.2.2.2.2.2.2.2.2.1 (fun _ => rfl) hx hN hB hc hs hdg (fun q cA H1 hK1 hP1 hD1 hS1 => ?_)
  have e1 := (hK1.2 4 _ rfl).2
  have e2 := (hK.2 1 _ rfl).2
  have e3 : cA = gJ g := Option.some.inj (e1.symm.trans e2)
  subst e3
  exact kk q p e s m args below meth c H1 locs ls C hl hP1 hD1 hS1
theorem tc_newT {x : Int32} {index : Nat} (N : Nat) (hcl : Cond.classLink own index "WeighedLots$Tape" ∈ tbU) (hx : ¬ x < 0) (hN : x.toNatClampNeg = N) (hB : N * 4 ≤ 536870912) (hc : k + 1 ≤ R.cells) (hs : n + N ≤ R.slots) (n2 : Nat) (hn : pc + 3 = n2) (hdg : decode cc pc = .ok (.anewarray index, 3)) (kk : ∀ q, Tc g own cc nL R mc ms Qc A n2 l (.ref q :: st) (w ++ [(q, .inl (gT g, N, .inr (.inr (.inr (.inr (fun _ => none))))))]) (k + 1) (n + N)) : Tc g own cc nL R mc ms Qc A pc l (.int x :: st) w k n := by
  subst hn
  intro p e s m args below meth c H locs ls C hl hP hD hS
  have hK := C.2.2.2.2.2.2.2.1.1
  refine va_newq C.1 C.2.1 C.2.2.2.2.1 (C.2.2.2.2.2.1 _ hcl) C.2.2.2.2.2.2.2.1.2.1 hK hP hD hS C.2.2.2.2.2.2.2.2.1 hx hN hB hc hs hdg (fun q cA H1 hK1 hP1 hD1 hS1 => ?_)
  obtain ⟨k1, c1, -, -, -, e1⟩ := (hK1.2 4 _ rfl).2
  obtain ⟨k2, c2, -, -, -, e2⟩ := (hK.2 2 _ rfl).2
  have e3 : cA = gT g := Option.some.inj (e1.symm.trans e2)
  subst e3
  exact kk q p e s m args below meth c H1 locs ls C hl hP1 hD1 hS1
theorem tc_new {index ci N : Nat} {C0 : String} {T : u_T} {ty : Nat → FieldType} {fs : List Value} (hc0 : vwCl[ci]? = some (C0, T, N)) (hin : ∀ w ∈ u_ws C0 T N, w ∈ tbU) (hty : ∀ k, k < N → parseFieldDescriptor (T k).2.2.1 = some (ty k)) (hcl : Cond.classLink own index C0 ∈ tbU) (hit : Cond.instantiable C0 N ∈ tbU) (hini : Cond.initialized C0 ∈ tbU) (hfs : ∀ j, j < N → defaultValue (ty j) = vp_V fs j) (hc : k + 1 ≤ R.cells) (hs : n + N ≤ R.slots) (n2 : Nat) (hn : pc + 3 = n2) (hdg : decode cc pc = .ok (.new index, 3)) (kk : ∀ q, Tc g own cc nL R mc ms Qc A n2 l (.ref q :: st) (w ++ [(q, .inr (ci, fs))]) (k + 1) (n + N)) : Tc g own cc nL R mc ms Qc A pc l st w k n := by
  subst hn
  intro p e s m args below meth c H locs ls C hl hP hD hS
  exact va_new C.1 C.2.1 C.2.2.2.2.2.1 hin ty hty C.2.2.2.2.1 (C.2.2.2.2.2.1 _ hcl) (C.2.2.2.2.2.1 _ hit) (C.2.2.2.2.2.1 _ hini) C.2.2.2.2.2.2.2.1.1 hP hD hS C.2.2.2.2.2.2.2.2.1 hc0 hfs hc hs hdg (fun q H1 hP1 hD1 hS1 => kk q p e s m args below meth c H1 locs ls C hl hP1 hD1 hS1)
theorem range_map (w : va_W) (e : Nat × va_E) : (List.range w.length).map (fun i => (w ++ [e])[i]?) = w.map some := by
  apply List.ext_getElem?
  intro i
  by_cases h : i < w.length
  · rw [List.getElem?_map, List.getElem?_map, List.getElem?_range h]
    simp [List.getElem?_append_left h, h]
  · rw [List.getElem?_eq_none (by simp; omega), List.getElem?_eq_none (by simp; omega)]
theorem nd_range : ∀ n, va_nd (List.range n) = true := fun n => by
  have H : ∀ (l : List Nat), l.Nodup → va_nd l = true := by
    intro l
    induction l with
    | nil => intro _; rfl
    | cons a l ih =>
      intro h
      obtain ⟨h1, h2⟩ := List.nodup_cons.mp h
      show (decide (a ∉ l) && va_nd l) = true
      rw [ih h2, decide_eq_true h1]
      rfl
  exact H _ List.nodup_range
theorem tc_callI {y : MethodName} {cb : ByteArray} {nB index q a b : Nat} {R1 : Room} {As : List Value} {e0 : va_E} {mk : (Nat → Nat) → va_W} {stk : List Value} (hM : ∀ sz, CZ g y cb nB R1 (.ref a :: As) [(a, e0)] mk b a sz) (hm : MIn y cb nB q) (hln : Cond.methodLink own index y ∈ tbU) (hq : As.length = q) (hst : stk = As.reverse ++ .ref a :: st) (hroom : (st.map fun v => v.category).sum ≤ 8) (hR : R1.frames + 1 ≤ R.frames ∧ 8 + (nB + 11) + R1.locals ≤ R.locals) (hc : k + R1.cells ≤ R.cells) (hs : n + R1.slots ≤ R.slots) (n2 : Nat) (hn : pc + 3 = n2) (hdg : decode cc pc = .ok (.invokespecial index, 3)) (kk : ∀ u : Nat → Nat, u b = a → Tc g own cc nL R mc ms Qc A n2 l st (w ++ mk u) (k + R1.cells) (n + R1.slots)) : Tc g own cc nL R mc ms Qc A pc l stk (w ++ [(a, e0)]) k n := by
  subst hn; subst hst
  intro p e s m args below meth c H locs ls C hl hP hD hS
  obtain ⟨m1, m2, m3, m4, m5⟩ := hm
  have hts := C.2.2.2.2.2.1
  have hg : GoodIn tbU (wsU y cb nB none) := tb_goodIn (fun w hw => by
    rcases List.mem_cons.mp hw with rfl | hw
    · exact m3
    · exact hw)
  have hPc := hP.sub (ws' := [(a, e0)]) [w.length] (by simp)
  have hDc := hD.sub (ws' := [(a, e0)]) [w.length] rfl (by simp)
  have hFc := va_free (wc := [(a, e0)]) hD hS C.2.2.2.2.2.2.2.2.1 [w.length] (by simp)
  refine va_callv (va_runI (As := As) (rest := st) ⟨C.1, C.2.1, C.2.2.2.1, C.2.2.2.2.1, hts⟩ (hM H.size) (cwI q hts hg rfl rfl rfl (hts _ m2) (hts _ hln) (hts _ m1) m5 m4 hR) ⟨fun x U f mk' z => by obtain ⟨q0, q1, qP, qK, qD⟩ := z; exact ⟨q0, q1, qP, Kz.moved (u := U) (U := U.calling f mk' x) (Vm.Alike.refl U.vm) qK, qD⟩, fun U hU hW => ⟨rfl, by rw [hU], by rw [hU]; exact hPc, Kz.moved hW.alike C.2.2.2.2.2.2.2.1, hDc.weaken (fun _ _ _ _ => trivial)⟩⟩ rfl hq hl.1 rfl (lv_room hroom) hdg ⟨hc, hs⟩) hS (fun q _ h => hFc q h) hFc (fun u t H1 locs1 ht hvm hw hB hz1 hk1 hS1 => ?_)
  obtain ⟨hP1, hD1⟩ := hB
  rw [ht] at hP1
  obtain ⟨hP2, hD2⟩ := va_join (wr := w) (w1 := mk u) hP hD [w.length] (List.range w.length) (by simp) (range_map w _) (nd_range _) (fun i hi z => by have := List.mem_range.mp hi; rw [List.mem_singleton] at z; omega) hk1 hFc hP1 hD1
  exact kk u hw p e s m args below meth c H1 locs1 ls C hl hP2 hD2 hS1
theorem tc_w {w2 : va_W} (h : w = w2) (kk : Tc g own cc nL R mc ms Qc A pc l st w2 k n) : Tc g own cc nL R mc ms Qc A pc l st w k n := h ▸ kk
theorem tc_vret {mk : (Nat → Nat) → va_W} {b a : Nat} (u : Nat → Nat) (is : List Nat) (hu : u b = a) (hp : is.filterMap (fun i => w[i]?) = mk u) (hd : is.map (fun i => w[i]?) = (mk u).map some) (hn : va_nd is = true) (hdg : decode cc pc = .ok (.return_, 1)) : Tc g own cc nL R k n (QZ g mk b a A) A pc l [] w k n :=
  fun p e s m args below meth c H locs ls C hl hP hD hS => W.vret C.1 C.2.1 C.2.2.1 (fun t ht hW => ⟨⟨u, rfl, hu, by rw [ht]; exact hP.sub is hp, hD.sub is hn hd⟩, hS.F ht⟩) hS.2.2 hdg C.2.2.2.2.2.2.1
end Make
