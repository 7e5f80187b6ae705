def W0 : List Cond := lw_tbl.filter goodWord
def isNest : Cond → Bool
  | .methodLinkNest _ _ _ _ => true
  | .fieldLinkNest _ _ _ _ _ _ => true
  | _ => false
def Wn : List Cond := lw_tbl.filter isNest
theorem W0_good : GoodIn W0 W0 := fun w h => ⟨h, good_of_word (List.mem_filter.mp h).2⟩
theorem W0_in : ∀ w ∈ W0, w ∈ lw_tbl := fun _ h => (List.mem_filter.mp h).1
theorem Wn_in : ∀ w ∈ Wn, w ∈ lw_tbl := fun _ h => (List.mem_filter.mp h).1
theorem tI1 {w : Cond} (h : w ∈ tables_1_1) : w ∈ lw_tbl := List.mem_append_right _ (List.mem_append_left _ h)
theorem tI2 {w : Cond} (h : w ∈ tables_1_2) : w ∈ lw_tbl := List.mem_append_right _ (List.mem_append_right _ (List.mem_append_left _ h))
theorem tI3 {w : Cond} (h : w ∈ tables_1_3) : w ∈ lw_tbl := List.mem_append_right _ (List.mem_append_right _ (List.mem_append_right _ (List.mem_append_left _ h)))
theorem tI4 {w : Cond} (h : w ∈ tables_1_4) : w ∈ lw_tbl := List.mem_append_right _ (List.mem_append_right _ (List.mem_append_right _ (List.mem_append_right _ (List.mem_append_left _ h))))
theorem tI5 {w : Cond} (h : w ∈ tables_1_5) : w ∈ lw_tbl := List.mem_append_right _ (List.mem_append_right _ (List.mem_append_right _ (List.mem_append_right _ (List.mem_append_right _ (List.mem_append_left _ h)))))
theorem tI6 {w : Cond} (h : w ∈ tables_1_6) : w ∈ lw_tbl := List.mem_append_right _ (List.mem_append_right _ (List.mem_append_right _ (List.mem_append_right _ (List.mem_append_right _ (List.mem_append_right _ h)))))
theorem tIp {q : MethodName × Nat} (h : q ∈ lw_privs) : Cond.selects q.1.cls q.1 q.1 ∈ lw_tbl := List.mem_append_left _ (List.mem_map.mpr ⟨q, h, rfl⟩)
theorem iW {w : Cond} (h : w ∈ lw_tbl) (hg : goodWord w = true) : w ∈ W0 := List.mem_filter.mpr ⟨h, hg⟩
theorem iN {w : Cond} (h : w ∈ lw_tbl) (hg : isNest w = true) : w ∈ Wn := List.mem_filter.mpr ⟨h, hg⟩
/-- a method: name, bytes, its locals, what it returns -/
abbrev fMI : Type := MethodName × ByteArray × Nat × Option FieldType
def GOK (own : String) (idx ci j : Nat) : Prop := ∃ (C : String) (T : u_T) (N : Nat), vwCl[ci]? = some (C, T, N) ∧ (∀ w ∈ u_ws C T N, w ∈ W0) ∧ j < N ∧ Cond.fieldLink own idx C (T j).2.1 (T j).2.2.1 ∈ W0 ∧ (T j).1 = C
def POK (own : String) (idx ci j : Nat) (ty : FieldType) : Prop := ∃ (C : String) (T : u_T) (N : Nat) (ty0 : Nat → FieldType), vwCl[ci]? = some (C, T, N) ∧ (∀ w ∈ u_ws C T N, w ∈ W0) ∧ j < N ∧ Cond.fieldLink own idx C (T j).2.1 (T j).2.2.1 ∈ W0 ∧ (T j).1 = C ∧ (∀ k, k < N → parseFieldDescriptor (T k).2.2.1 = some (ty0 k)) ∧ (∀ a, a < N → ∀ b, b < N → a ≠ b → (T a).2.1 ≠ (T b).2.1) ∧ (T j).2.2.2 = false ∧ parseFieldDescriptor (T j).2.2.1 = some ty
def mhOK (y : MethodName) (n : Nat) : Prop := y.cls ≠ "java/lang/invoke/MethodHandle" ∧ y.cls ≠ "java/lang/invoke/VarHandle" ∧ (parseMethodDescriptor y.desc).map (fun d => d.parameters.length) = some n
def CalS (I : fMI) (n : Nat) : Prop := Cond.code I.1 I.2.1 I.2.2.1 I.2.2.2 ∈ W0 ∧ Cond.initialized I.1.cls ∈ W0 ∧ Cond.static I.1 ∈ W0 ∧ mhOK I.1 n
def CalV (I : fMI) (n : Nat) : Prop := Cond.code I.1 I.2.1 I.2.2.1 I.2.2.2 ∈ W0 ∧ Cond.initialized I.1.cls ∈ W0 ∧ Cond.instanceMethod I.1 ∈ W0 ∧ Cond.selects I.1.cls I.1 I.1 ∈ W0 ∧ mhOK I.1 n
def CalI (I : fMI) (n : Nat) : Prop := Cond.code I.1 I.2.1 I.2.2.1 none ∈ W0 ∧ Cond.initialized I.1.cls ∈ W0 ∧ Cond.instanceMethod I.1 ∈ W0 ∧ I.1.name = "<init>" ∧ mhOK I.1 n
def Lk (own : String) (idx : Nat) (y : MethodName) : Prop := Cond.methodLink own idx y ∈ W0 ∨ ∃ host, Cond.methodLinkNest own idx y host ∈ Wn
theorem w_objInit : Cond.code Lib.objectInit ⟨#[0xb1]⟩ 1 none ∈ W0 := iW (tI1 (List.mem_of_getElem? (i := 26) (by decide +kernel))) (by decide +kernel)
theorem w_objInst : Cond.instanceMethod Lib.objectInit ∈ W0 := iW (tI1 (List.mem_of_getElem? (i := 25) (by decide +kernel))) (by decide +kernel)
theorem ini_FirstStepsLaw : Cond.initialized RL ∈ W0 := iW (tI1 (List.mem_of_getElem? (i := 0) (by decide +kernel))) (by decide +kernel)
theorem ini_FirstSteps : Cond.initialized RX9 ∈ W0 := iW (tI1 (List.mem_of_getElem? (i := 1) (by decide +kernel))) (by decide +kernel)
theorem ini_FirstSteps_World : Cond.initialized RX8 ∈ W0 := iW (tI1 (List.mem_of_getElem? (i := 2) (by decide +kernel))) (by decide +kernel)
theorem ini_FirstSteps_Room : Cond.initialized RX3 ∈ W0 := iW (tI1 (List.mem_of_getElem? (i := 3) (by decide +kernel))) (by decide +kernel)
theorem ini_FirstSteps_Goings : Cond.initialized RX1 ∈ W0 := iW (tI1 (List.mem_of_getElem? (i := 4) (by decide +kernel))) (by decide +kernel)
theorem ini_FirstSteps_Text : Cond.initialized RX7 ∈ W0 := iW (tI1 (List.mem_of_getElem? (i := 5) (by decide +kernel))) (by decide +kernel)
theorem ini_FirstSteps_Gait : Cond.initialized RX0 ∈ W0 := iW (tI1 (List.mem_of_getElem? (i := 6) (by decide +kernel))) (by decide +kernel)
theorem ini_java_lang_String : Cond.initialized RJ0 ∈ W0 := iW (tI1 (List.mem_of_getElem? (i := 7) (by decide +kernel))) (by decide +kernel)
theorem ini_FirstSteps_Reader : Cond.initialized RX2 ∈ W0 := iW (tI1 (List.mem_of_getElem? (i := 8) (by decide +kernel))) (by decide +kernel)
theorem ini_FirstSteps_Rows : Cond.initialized RX4 ∈ W0 := iW (tI1 (List.mem_of_getElem? (i := 9) (by decide +kernel))) (by decide +kernel)
theorem ini_FirstSteps_Speech : Cond.initialized RX6 ∈ W0 := iW (tI1 (List.mem_of_getElem? (i := 10) (by decide +kernel))) (by decide +kernel)
theorem ini_FirstSteps_Sheet : Cond.initialized RX5 ∈ W0 := iW (tI1 (List.mem_of_getElem? (i := 11) (by decide +kernel))) (by decide +kernel)
theorem ini_FirstStepsModel : Cond.initialized RX10 ∈ W0 := iW (tI1 (List.mem_of_getElem? (i := 12) (by decide +kernel))) (by decide +kernel)
theorem ini_java_lang_Math : Cond.initialized RJ9 ∈ W0 := iW (tI1 (List.mem_of_getElem? (i := 13) (by decide +kernel))) (by decide +kernel)
theorem ini_java_lang_StringLatin1 : Cond.initialized RJ1 ∈ W0 := iW (tI1 (List.mem_of_getElem? (i := 14) (by decide +kernel))) (by decide +kernel)
theorem ini_java_lang_StringUTF16 : Cond.initialized RJ2 ∈ W0 := iW (tI1 (List.mem_of_getElem? (i := 15) (by decide +kernel))) (by decide +kernel)
theorem ini_jdk_internal_util_Preconditions : Cond.initialized RJ3 ∈ W0 := iW (tI1 (List.mem_of_getElem? (i := 16) (by decide +kernel))) (by decide +kernel)
theorem ini_java_lang_Character : Cond.initialized RJ11 ∈ W0 := iW (tI1 (List.mem_of_getElem? (i := 17) (by decide +kernel))) (by decide +kernel)
theorem ini_java_lang_System : Cond.initialized RJ10 ∈ W0 := iW (tI1 (List.mem_of_getElem? (i := 18) (by decide +kernel))) (by decide +kernel)
theorem inst_X9 : Cond.instantiable RX9 9 ∈ W0 := iW (tI1 (List.mem_of_getElem? (i := 20) (by decide +kernel))) (by decide +kernel)
theorem inst_X8 : Cond.instantiable RX8 11 ∈ W0 := iW (tI1 (List.mem_of_getElem? (i := 28) (by decide +kernel))) (by decide +kernel)
theorem inst_X3 : Cond.instantiable RX3 6 ∈ W0 := iW (tI1 (List.mem_of_getElem? (i := 43) (by decide +kernel))) (by decide +kernel)
theorem inst_X1 : Cond.instantiable RX1 4 ∈ W0 := iW (tI1 (List.mem_of_getElem? (i := 78) (by decide +kernel))) (by decide +kernel)
theorem inst_X7 : Cond.instantiable RX7 3 ∈ W0 := iW (tI1 (List.mem_of_getElem? (i := 107) (by decide +kernel))) (by decide +kernel)
theorem inst_X0 : Cond.instantiable RX0 4 ∈ W0 := iW (tI1 (List.mem_of_getElem? (i := 126) (by decide +kernel))) (by decide +kernel)
theorem inst_X2 : Cond.instantiable RX2 7 ∈ W0 := iW (tI1 (List.mem_of_getElem? (i := 208) (by decide +kernel))) (by decide +kernel)
theorem inst_X4 : Cond.instantiable RX4 4 ∈ W0 := iW (tI1 (List.mem_of_getElem? (i := 239) (by decide +kernel))) (by decide +kernel)
theorem inst_X6 : Cond.instantiable RX6 6 ∈ W0 := iW (tI2 (List.mem_of_getElem? (i := 23) (by decide +kernel))) (by decide +kernel)
theorem inst_X5 : Cond.instantiable RX5 3 ∈ W0 := iW (tI2 (List.mem_of_getElem? (i := 50) (by decide +kernel))) (by decide +kernel)
theorem inst_X10 : Cond.instantiable RX10 28 ∈ W0 := iW (tI4 (List.mem_of_getElem? (i := 179) (by decide +kernel))) (by decide +kernel)
theorem cl_L_7 : Cond.classLink RL 7 RX9 ∈ W0 := iW (tI1 (List.mem_of_getElem? (i := 19) (by decide +kernel))) (by decide +kernel)
theorem cl_X9_7 : Cond.classLink RX9 7 RX8 ∈ W0 := iW (tI1 (List.mem_of_getElem? (i := 27) (by decide +kernel))) (by decide +kernel)
theorem cl_X8_23 : Cond.classLink RX8 23 RX3 ∈ W0 := iW (tI1 (List.mem_of_getElem? (i := 42) (by decide +kernel))) (by decide +kernel)
theorem cl_X8_30 : Cond.classLink RX8 30 RX1 ∈ W0 := iW (tI1 (List.mem_of_getElem? (i := 77) (by decide +kernel))) (by decide +kernel)
theorem cl_X8_37 : Cond.classLink RX8 37 RX7 ∈ W0 := iW (tI1 (List.mem_of_getElem? (i := 106) (by decide +kernel))) (by decide +kernel)
theorem cl_X8_60 : Cond.classLink RX8 60 RX0 ∈ W0 := iW (tI1 (List.mem_of_getElem? (i := 125) (by decide +kernel))) (by decide +kernel)
theorem cl_X9_22 : Cond.classLink RX9 22 RX2 ∈ W0 := iW (tI1 (List.mem_of_getElem? (i := 207) (by decide +kernel))) (by decide +kernel)
theorem cl_X2_9 : Cond.classLink RX2 9 RX7 ∈ W0 := iW (tI1 (List.mem_of_getElem? (i := 213) (by decide +kernel))) (by decide +kernel)
theorem cl_X9_29 : Cond.classLink RX9 29 RX4 ∈ W0 := iW (tI1 (List.mem_of_getElem? (i := 238) (by decide +kernel))) (by decide +kernel)
theorem cl_X9_36 : Cond.classLink RX9 36 RX5 ∈ W0 := iW (tI2 (List.mem_of_getElem? (i := 20) (by decide +kernel))) (by decide +kernel)
theorem cl_X9_46 : Cond.classLink RX9 46 RX6 ∈ W0 := iW (tI2 (List.mem_of_getElem? (i := 22) (by decide +kernel))) (by decide +kernel)
theorem cl_L_10 : Cond.classLink RL 10 RX10 ∈ W0 := iW (tI4 (List.mem_of_getElem? (i := 178) (by decide +kernel))) (by decide +kernel)
theorem cl_X10_28 : Cond.classLink RX10 28 RJ0 ∈ W0 := iW (tI4 (List.mem_of_getElem? (i := 184) (by decide +kernel))) (by decide +kernel)
theorem arr_int : Cond.arrayClass .int ∈ W0 := iW (tI1 (List.mem_of_getElem? (i := 76) (by decide +kernel))) (by decide +kernel)
theorem arr_byte : Cond.arrayClass .byte ∈ W0 := iW (tI1 (List.mem_of_getElem? (i := 206) (by decide +kernel))) (by decide +kernel)
theorem arr_long : Cond.arrayClass .long ∈ W0 := iW (tI2 (List.mem_of_getElem? (i := 19) (by decide +kernel))) (by decide +kernel)
theorem k_X9_296 : Cond.constant RX9 296 (-1000000000) ∈ W0 := iW (tI2 (List.mem_of_getElem? (i := 113) (by decide +kernel))) (by decide +kernel)
theorem k_J2_227 : Cond.constant RJ2 227 (65536) ∈ W0 := iW (tI3 (List.mem_of_getElem? (i := 88) (by decide +kernel))) (by decide +kernel)
theorem k_J11_110 : Cond.constant RJ11 110 (55232) ∈ W0 := iW (tI3 (List.mem_of_getElem? (i := 127) (by decide +kernel))) (by decide +kernel)
theorem k_J11_76 : Cond.constant RJ11 76 (56320) ∈ W0 := iW (tI3 (List.mem_of_getElem? (i := 131) (by decide +kernel))) (by decide +kernel)
theorem k_X8_172 : Cond.constant RX8 172 (1103515245) ∈ W0 := iW (tI3 (List.mem_of_getElem? (i := 167) (by decide +kernel))) (by decide +kernel)
theorem k_X8_191 : Cond.constant RX8 191 (999999) ∈ W0 := iW (tI3 (List.mem_of_getElem? (i := 178) (by decide +kernel))) (by decide +kernel)
theorem k_X9_241 : Cond.constant RX9 241 (2147483647) ∈ W0 := iW (tI4 (List.mem_of_getElem? (i := 63) (by decide +kernel))) (by decide +kernel)
theorem k_X9_245 : Cond.constant RX9 245 (-2147483648) ∈ W0 := iW (tI4 (List.mem_of_getElem? (i := 72) (by decide +kernel))) (by decide +kernel)
theorem k_X10_91 : Cond.constant RX10 91 (-1000000001) ∈ W0 := iW (tI5 (List.mem_of_getElem? (i := 44) (by decide +kernel))) (by decide +kernel)
theorem k_X10_69 : Cond.constant RX10 69 (-1000000000) ∈ W0 := iW (tI5 (List.mem_of_getElem? (i := 49) (by decide +kernel))) (by decide +kernel)
theorem k_X10_100 : Cond.constant RX10 100 (-1000000004) ∈ W0 := iW (tI5 (List.mem_of_getElem? (i := 57) (by decide +kernel))) (by decide +kernel)
theorem k_X10_124 : Cond.constant RX10 124 (-1000000002) ∈ W0 := iW (tI5 (List.mem_of_getElem? (i := 103) (by decide +kernel))) (by decide +kernel)
theorem k_X10_158 : Cond.constant RX10 158 (-1000000005) ∈ W0 := iW (tI5 (List.mem_of_getElem? (i := 156) (by decide +kernel))) (by decide +kernel)
theorem k_X10_260 : Cond.constant RX10 260 (-1000000003) ∈ W0 := iW (tI5 (List.mem_of_getElem? (i := 239) (by decide +kernel))) (by decide +kernel)
theorem k_X10_228 : Cond.constant RX10 228 (1103515245) ∈ W0 := iW (tI6 (List.mem_of_getElem? (i := 12) (by decide +kernel))) (by decide +kernel)
theorem k_X10_87 : Cond.constant RX10 87 (999999) ∈ W0 := iW (tI6 (List.mem_of_getElem? (i := 28) (by decide +kernel))) (by decide +kernel)
theorem k_X10_314 : Cond.constant RX10 314 (-1000000006) ∈ W0 := iW (tI6 (List.mem_of_getElem? (i := 144) (by decide +kernel))) (by decide +kernel)
theorem k_X9_300 : Cond.constantLong RX9 300 (1000) ∈ W0 := iW (tI4 (List.mem_of_getElem? (i := 146) (by decide +kernel))) (by decide +kernel)
theorem k_X10_159 : Cond.constantLong RX10 159 (255) ∈ W0 := iW (tI5 (List.mem_of_getElem? (i := 165) (by decide +kernel))) (by decide +kernel)
theorem k_X10_321 : Cond.constantLong RX10 321 (1000) ∈ W0 := iW (tI6 (List.mem_of_getElem? (i := 177) (by decide +kernel))) (by decide +kernel)
theorem k_L_61 : Cond.constantLong RL 61 (4294967295) ∈ W0 := iW (tI6 (List.mem_of_getElem? (i := 207) (by decide +kernel))) (by decide +kernel)
theorem ul_X0 : ∀ w ∈ u_ws RX0 TX0 4, w ∈ W0 := List.forall_mem_cons.mpr ⟨iW (tI1 (List.mem_of_getElem? (i := 144) (by decide +kernel))) (by decide +kernel), List.forall_mem_cons.mpr ⟨iW (tI1 (List.mem_of_getElem? (i := 146) (by decide +kernel))) (by decide +kernel), List.forall_mem_cons.mpr ⟨iW (tI1 (List.mem_of_getElem? (i := 148) (by decide +kernel))) (by decide +kernel), List.forall_mem_cons.mpr ⟨iW (tI1 (List.mem_of_getElem? (i := 150) (by decide +kernel))) (by decide +kernel), fun _ h => absurd h List.not_mem_nil⟩⟩⟩⟩
theorem ul_X1 : ∀ w ∈ u_ws RX1 TX1 4, w ∈ W0 := List.forall_mem_cons.mpr ⟨iW (tI1 (List.mem_of_getElem? (i := 97) (by decide +kernel))) (by decide +kernel), List.forall_mem_cons.mpr ⟨iW (tI1 (List.mem_of_getElem? (i := 99) (by decide +kernel))) (by decide +kernel), List.forall_mem_cons.mpr ⟨iW (tI1 (List.mem_of_getElem? (i := 101) (by decide +kernel))) (by decide +kernel), List.forall_mem_cons.mpr ⟨iW (tI1 (List.mem_of_getElem? (i := 103) (by decide +kernel))) (by decide +kernel), fun _ h => absurd h List.not_mem_nil⟩⟩⟩⟩
theorem ul_X2 : ∀ w ∈ u_ws RX2 TX2 7, w ∈ W0 := List.forall_mem_cons.mpr ⟨iW (tI1 (List.mem_of_getElem? (i := 223) (by decide +kernel))) (by decide +kernel), List.forall_mem_cons.mpr ⟨iW (tI1 (List.mem_of_getElem? (i := 225) (by decide +kernel))) (by decide +kernel), List.forall_mem_cons.mpr ⟨iW (tI1 (List.mem_of_getElem? (i := 227) (by decide +kernel))) (by decide +kernel), List.forall_mem_cons.mpr ⟨iW (tI1 (List.mem_of_getElem? (i := 229) (by decide +kernel))) (by decide +kernel), List.forall_mem_cons.mpr ⟨iW (tI1 (List.mem_of_getElem? (i := 231) (by decide +kernel))) (by decide +kernel), List.forall_mem_cons.mpr ⟨iW (tI1 (List.mem_of_getElem? (i := 233) (by decide +kernel))) (by decide +kernel), List.forall_mem_cons.mpr ⟨iW (tI1 (List.mem_of_getElem? (i := 235) (by decide +kernel))) (by decide +kernel), fun _ h => absurd h List.not_mem_nil⟩⟩⟩⟩⟩⟩⟩
theorem ul_X3 : ∀ w ∈ u_ws RX3 TX3 6, w ∈ W0 := List.forall_mem_cons.mpr ⟨iW (tI1 (List.mem_of_getElem? (i := 63) (by decide +kernel))) (by decide +kernel), List.forall_mem_cons.mpr ⟨iW (tI1 (List.mem_of_getElem? (i := 65) (by decide +kernel))) (by decide +kernel), List.forall_mem_cons.mpr ⟨iW (tI1 (List.mem_of_getElem? (i := 67) (by decide +kernel))) (by decide +kernel), List.forall_mem_cons.mpr ⟨iW (tI1 (List.mem_of_getElem? (i := 69) (by decide +kernel))) (by decide +kernel), List.forall_mem_cons.mpr ⟨iW (tI1 (List.mem_of_getElem? (i := 71) (by decide +kernel))) (by decide +kernel), List.forall_mem_cons.mpr ⟨iW (tI1 (List.mem_of_getElem? (i := 73) (by decide +kernel))) (by decide +kernel), fun _ h => absurd h List.not_mem_nil⟩⟩⟩⟩⟩⟩
theorem ul_X4 : ∀ w ∈ u_ws RX4 TX4 4, w ∈ W0 := List.forall_mem_cons.mpr ⟨iW (tI2 (List.mem_of_getElem? (i := 10) (by decide +kernel))) (by decide +kernel), List.forall_mem_cons.mpr ⟨iW (tI2 (List.mem_of_getElem? (i := 12) (by decide +kernel))) (by decide +kernel), List.forall_mem_cons.mpr ⟨iW (tI2 (List.mem_of_getElem? (i := 14) (by decide +kernel))) (by decide +kernel), List.forall_mem_cons.mpr ⟨iW (tI2 (List.mem_of_getElem? (i := 16) (by decide +kernel))) (by decide +kernel), fun _ h => absurd h List.not_mem_nil⟩⟩⟩⟩
theorem ul_X5 : ∀ w ∈ u_ws RX5 TX5 3, w ∈ W0 := List.forall_mem_cons.mpr ⟨iW (tI2 (List.mem_of_getElem? (i := 61) (by decide +kernel))) (by decide +kernel), List.forall_mem_cons.mpr ⟨iW (tI2 (List.mem_of_getElem? (i := 63) (by decide +kernel))) (by decide +kernel), List.forall_mem_cons.mpr ⟨iW (tI2 (List.mem_of_getElem? (i := 65) (by decide +kernel))) (by decide +kernel), fun _ h => absurd h List.not_mem_nil⟩⟩⟩
theorem ul_X6 : ∀ w ∈ u_ws RX6 TX6 6, w ∈ W0 := List.forall_mem_cons.mpr ⟨iW (tI2 (List.mem_of_getElem? (i := 37) (by decide +kernel))) (by decide +kernel), List.forall_mem_cons.mpr ⟨iW (tI2 (List.mem_of_getElem? (i := 39) (by decide +kernel))) (by decide +kernel), List.forall_mem_cons.mpr ⟨iW (tI2 (List.mem_of_getElem? (i := 41) (by decide +kernel))) (by decide +kernel), List.forall_mem_cons.mpr ⟨iW (tI2 (List.mem_of_getElem? (i := 43) (by decide +kernel))) (by decide +kernel), List.forall_mem_cons.mpr ⟨iW (tI2 (List.mem_of_getElem? (i := 45) (by decide +kernel))) (by decide +kernel), List.forall_mem_cons.mpr ⟨iW (tI2 (List.mem_of_getElem? (i := 47) (by decide +kernel))) (by decide +kernel), fun _ h => absurd h List.not_mem_nil⟩⟩⟩⟩⟩⟩
theorem ul_X7 : ∀ w ∈ u_ws RX7 TX7 3, w ∈ W0 := List.forall_mem_cons.mpr ⟨iW (tI1 (List.mem_of_getElem? (i := 118) (by decide +kernel))) (by decide +kernel), List.forall_mem_cons.mpr ⟨iW (tI1 (List.mem_of_getElem? (i := 120) (by decide +kernel))) (by decide +kernel), List.forall_mem_cons.mpr ⟨iW (tI1 (List.mem_of_getElem? (i := 122) (by decide +kernel))) (by decide +kernel), fun _ h => absurd h List.not_mem_nil⟩⟩⟩
theorem ul_X8 : ∀ w ∈ u_ws RX8 TX8 11, w ∈ W0 := List.forall_mem_cons.mpr ⟨iW (tI1 (List.mem_of_getElem? (i := 183) (by decide +kernel))) (by decide +kernel), List.forall_mem_cons.mpr ⟨iW (tI1 (List.mem_of_getElem? (i := 185) (by decide +kernel))) (by decide +kernel), List.forall_mem_cons.mpr ⟨iW (tI1 (List.mem_of_getElem? (i := 187) (by decide +kernel))) (by decide +kernel), List.forall_mem_cons.mpr ⟨iW (tI1 (List.mem_of_getElem? (i := 189) (by decide +kernel))) (by decide +kernel), List.forall_mem_cons.mpr ⟨iW (tI1 (List.mem_of_getElem? (i := 191) (by decide +kernel))) (by decide +kernel), List.forall_mem_cons.mpr ⟨iW (tI1 (List.mem_of_getElem? (i := 193) (by decide +kernel))) (by decide +kernel), List.forall_mem_cons.mpr ⟨iW (tI1 (List.mem_of_getElem? (i := 195) (by decide +kernel))) (by decide +kernel), List.forall_mem_cons.mpr ⟨iW (tI1 (List.mem_of_getElem? (i := 197) (by decide +kernel))) (by decide +kernel), List.forall_mem_cons.mpr ⟨iW (tI1 (List.mem_of_getElem? (i := 199) (by decide +kernel))) (by decide +kernel), List.forall_mem_cons.mpr ⟨iW (tI1 (List.mem_of_getElem? (i := 201) (by decide +kernel))) (by decide +kernel), List.forall_mem_cons.mpr ⟨iW (tI1 (List.mem_of_getElem? (i := 203) (by decide +kernel))) (by decide +kernel), fun _ h => absurd h List.not_mem_nil⟩⟩⟩⟩⟩⟩⟩⟩⟩⟩⟩
theorem ul_X9 : ∀ w ∈ u_ws RX9 TX9 9, w ∈ W0 := List.forall_mem_cons.mpr ⟨iW (tI2 (List.mem_of_getElem? (i := 77) (by decide +kernel))) (by decide +kernel), List.forall_mem_cons.mpr ⟨iW (tI2 (List.mem_of_getElem? (i := 79) (by decide +kernel))) (by decide +kernel), List.forall_mem_cons.mpr ⟨iW (tI2 (List.mem_of_getElem? (i := 81) (by decide +kernel))) (by decide +kernel), List.forall_mem_cons.mpr ⟨iW (tI2 (List.mem_of_getElem? (i := 83) (by decide +kernel))) (by decide +kernel), List.forall_mem_cons.mpr ⟨iW (tI2 (List.mem_of_getElem? (i := 85) (by decide +kernel))) (by decide +kernel), List.forall_mem_cons.mpr ⟨iW (tI2 (List.mem_of_getElem? (i := 87) (by decide +kernel))) (by decide +kernel), List.forall_mem_cons.mpr ⟨iW (tI2 (List.mem_of_getElem? (i := 89) (by decide +kernel))) (by decide +kernel), List.forall_mem_cons.mpr ⟨iW (tI2 (List.mem_of_getElem? (i := 91) (by decide +kernel))) (by decide +kernel), List.forall_mem_cons.mpr ⟨iW (tI2 (List.mem_of_getElem? (i := 93) (by decide +kernel))) (by decide +kernel), fun _ h => absurd h List.not_mem_nil⟩⟩⟩⟩⟩⟩⟩⟩⟩
theorem ul_X10 : ∀ w ∈ u_ws RX10 TX10 28, w ∈ W0 := List.forall_mem_cons.mpr ⟨iW (tI4 (List.mem_of_getElem? (i := 216) (by decide +kernel))) (by decide +kernel), List.forall_mem_cons.mpr ⟨iW (tI4 (List.mem_of_getElem? (i := 218) (by decide +kernel))) (by decide +kernel), List.forall_mem_cons.mpr ⟨iW (tI4 (List.mem_of_getElem? (i := 220) (by decide +kernel))) (by decide +kernel), List.forall_mem_cons.mpr ⟨iW (tI4 (List.mem_of_getElem? (i := 222) (by decide +kernel))) (by decide +kernel), List.forall_mem_cons.mpr ⟨iW (tI4 (List.mem_of_getElem? (i := 224) (by decide +kernel))) (by decide +kernel), List.forall_mem_cons.mpr ⟨iW (tI4 (List.mem_of_getElem? (i := 226) (by decide +kernel))) (by decide +kernel), List.forall_mem_cons.mpr ⟨iW (tI4 (List.mem_of_getElem? (i := 228) (by decide +kernel))) (by decide +kernel), List.forall_mem_cons.mpr ⟨iW (tI4 (List.mem_of_getElem? (i := 230) (by decide +kernel))) (by decide +kernel), List.forall_mem_cons.mpr ⟨iW (tI4 (List.mem_of_getElem? (i := 232) (by decide +kernel))) (by decide +kernel), List.forall_mem_cons.mpr ⟨iW (tI4 (List.mem_of_getElem? (i := 234) (by decide +kernel))) (by decide +kernel), List.forall_mem_cons.mpr ⟨iW (tI4 (List.mem_of_getElem? (i := 236) (by decide +kernel))) (by decide +kernel), List.forall_mem_cons.mpr ⟨iW (tI4 (List.mem_of_getElem? (i := 238) (by decide +kernel))) (by decide +kernel), List.forall_mem_cons.mpr ⟨iW (tI5 (List.mem_of_getElem? (i := 0) (by decide +kernel))) (by decide +kernel), List.forall_mem_cons.mpr ⟨iW (tI5 (List.mem_of_getElem? (i := 2) (by decide +kernel))) (by decide +kernel), List.forall_mem_cons.mpr ⟨iW (tI5 (List.mem_of_getElem? (i := 4) (by decide +kernel))) (by decide +kernel), List.forall_mem_cons.mpr ⟨iW (tI5 (List.mem_of_getElem? (i := 6) (by decide +kernel))) (by decide +kernel), List.forall_mem_cons.mpr ⟨iW (tI5 (List.mem_of_getElem? (i := 8) (by decide +kernel))) (by decide +kernel), List.forall_mem_cons.mpr ⟨iW (tI5 (List.mem_of_getElem? (i := 10) (by decide +kernel))) (by decide +kernel), List.forall_mem_cons.mpr ⟨iW (tI5 (List.mem_of_getElem? (i := 12) (by decide +kernel))) (by decide +kernel), List.forall_mem_cons.mpr ⟨iW (tI5 (List.mem_of_getElem? (i := 14) (by decide +kernel))) (by decide +kernel), List.forall_mem_cons.mpr ⟨iW (tI5 (List.mem_of_getElem? (i := 16) (by decide +kernel))) (by decide +kernel), List.forall_mem_cons.mpr ⟨iW (tI5 (List.mem_of_getElem? (i := 18) (by decide +kernel))) (by decide +kernel), List.forall_mem_cons.mpr ⟨iW (tI5 (List.mem_of_getElem? (i := 20) (by decide +kernel))) (by decide +kernel), List.forall_mem_cons.mpr ⟨iW (tI5 (List.mem_of_getElem? (i := 22) (by decide +kernel))) (by decide +kernel), List.forall_mem_cons.mpr ⟨iW (tI5 (List.mem_of_getElem? (i := 24) (by decide +kernel))) (by decide +kernel), List.forall_mem_cons.mpr ⟨iW (tI5 (List.mem_of_getElem? (i := 26) (by decide +kernel))) (by decide +kernel), List.forall_mem_cons.mpr ⟨iW (tI5 (List.mem_of_getElem? (i := 28) (by decide +kernel))) (by decide +kernel), List.forall_mem_cons.mpr ⟨iW (tI5 (List.mem_of_getElem? (i := 30) (by decide +kernel))) (by decide +kernel), fun _ h => absurd h List.not_mem_nil⟩⟩⟩⟩⟩⟩⟩⟩⟩⟩⟩⟩⟩⟩⟩⟩⟩⟩⟩⟩⟩⟩⟩⟩⟩⟩⟩⟩
theorem fl_X3_9 : Cond.fieldLink RX3 9 RX3 (TX3 0).2.1 (TX3 0).2.2.1 ∈ W0 := iW (tI1 (List.mem_of_getElem? (i := 48) (by decide +kernel))) (by decide +kernel)
theorem g_X3_9 : GOK RX3 9 3 0 := ⟨RX3, TX3, 6, rfl, ul_X3, by decide, fl_X3_9, rfl⟩
theorem fl_X9_70 : Cond.fieldLink RX9 70 RX3 (TX3 0).2.1 (TX3 0).2.2.1 ∈ W0 := iW (tI1 (List.mem_of_getElem? (i := 49) (by decide +kernel))) (by decide +kernel)
theorem g_X9_70 : GOK RX9 70 3 0 := ⟨RX3, TX3, 6, rfl, ul_X3, by decide, fl_X9_70, rfl⟩
theorem fl_X8_179 : Cond.fieldLink RX8 179 RX3 (TX3 0).2.1 (TX3 0).2.2.1 ∈ W0 := iW (tI1 (List.mem_of_getElem? (i := 50) (by decide +kernel))) (by decide +kernel)
theorem g_X8_179 : GOK RX8 179 3 0 := ⟨RX3, TX3, 6, rfl, ul_X3, by decide, fl_X8_179, rfl⟩
theorem fl_X3_15 : Cond.fieldLink RX3 15 RX3 (TX3 1).2.1 (TX3 1).2.2.1 ∈ W0 := iW (tI1 (List.mem_of_getElem? (i := 51) (by decide +kernel))) (by decide +kernel)
theorem g_X3_15 : GOK RX3 15 3 1 := ⟨RX3, TX3, 6, rfl, ul_X3, by decide, fl_X3_15, rfl⟩
theorem fl_X9_75 : Cond.fieldLink RX9 75 RX3 (TX3 1).2.1 (TX3 1).2.2.1 ∈ W0 := iW (tI1 (List.mem_of_getElem? (i := 52) (by decide +kernel))) (by decide +kernel)
theorem g_X9_75 : GOK RX9 75 3 1 := ⟨RX3, TX3, 6, rfl, ul_X3, by decide, fl_X9_75, rfl⟩
theorem fl_X8_96 : Cond.fieldLink RX8 96 RX3 (TX3 1).2.1 (TX3 1).2.2.1 ∈ W0 := iW (tI1 (List.mem_of_getElem? (i := 53) (by decide +kernel))) (by decide +kernel)
theorem g_X8_96 : GOK RX8 96 3 1 := ⟨RX3, TX3, 6, rfl, ul_X3, by decide, fl_X8_96, rfl⟩
theorem fl_X3_18 : Cond.fieldLink RX3 18 RX3 (TX3 2).2.1 (TX3 2).2.2.1 ∈ W0 := iW (tI1 (List.mem_of_getElem? (i := 54) (by decide +kernel))) (by decide +kernel)
theorem g_X3_18 : GOK RX3 18 3 2 := ⟨RX3, TX3, 6, rfl, ul_X3, by decide, fl_X3_18, rfl⟩
theorem fl_X9_222 : Cond.fieldLink RX9 222 RX3 (TX3 2).2.1 (TX3 2).2.2.1 ∈ W0 := iW (tI1 (List.mem_of_getElem? (i := 55) (by decide +kernel))) (by decide +kernel)
theorem g_X9_222 : GOK RX9 222 3 2 := ⟨RX3, TX3, 6, rfl, ul_X3, by decide, fl_X9_222, rfl⟩
theorem fl_X3_21 : Cond.fieldLink RX3 21 RX3 (TX3 3).2.1 (TX3 3).2.2.1 ∈ W0 := iW (tI1 (List.mem_of_getElem? (i := 56) (by decide +kernel))) (by decide +kernel)
theorem g_X3_21 : GOK RX3 21 3 3 := ⟨RX3, TX3, 6, rfl, ul_X3, by decide, fl_X3_21, rfl⟩
theorem fl_X8_199 : Cond.fieldLink RX8 199 RX3 (TX3 3).2.1 (TX3 3).2.2.1 ∈ W0 := iW (tI1 (List.mem_of_getElem? (i := 57) (by decide +kernel))) (by decide +kernel)
theorem g_X8_199 : GOK RX8 199 3 3 := ⟨RX3, TX3, 6, rfl, ul_X3, by decide, fl_X8_199, rfl⟩
theorem fl_X3_24 : Cond.fieldLink RX3 24 RX3 (TX3 4).2.1 (TX3 4).2.2.1 ∈ W0 := iW (tI1 (List.mem_of_getElem? (i := 58) (by decide +kernel))) (by decide +kernel)
theorem g_X3_24 : GOK RX3 24 3 4 := ⟨RX3, TX3, 6, rfl, ul_X3, by decide, fl_X3_24, rfl⟩
theorem fl_X8_196 : Cond.fieldLink RX8 196 RX3 (TX3 4).2.1 (TX3 4).2.2.1 ∈ W0 := iW (tI1 (List.mem_of_getElem? (i := 59) (by decide +kernel))) (by decide +kernel)
theorem g_X8_196 : GOK RX8 196 3 4 := ⟨RX3, TX3, 6, rfl, ul_X3, by decide, fl_X8_196, rfl⟩
theorem fl_X9_242 : Cond.fieldLink RX9 242 RX3 (TX3 4).2.1 (TX3 4).2.2.1 ∈ W0 := iW (tI1 (List.mem_of_getElem? (i := 60) (by decide +kernel))) (by decide +kernel)
theorem g_X9_242 : GOK RX9 242 3 4 := ⟨RX3, TX3, 6, rfl, ul_X3, by decide, fl_X9_242, rfl⟩
theorem fl_X3_27 : Cond.fieldLink RX3 27 RX3 (TX3 5).2.1 (TX3 5).2.2.1 ∈ W0 := iW (tI1 (List.mem_of_getElem? (i := 61) (by decide +kernel))) (by decide +kernel)
theorem g_X3_27 : GOK RX3 27 3 5 := ⟨RX3, TX3, 6, rfl, ul_X3, by decide, fl_X3_27, rfl⟩
theorem p_X3_27 : POK RX3 27 3 5 .int := ⟨RX3, TX3, 6, tyX3, rfl, ul_X3, by decide, fl_X3_27, rfl, tyX3_ok, nmX3, rfl, by decide +kernel⟩
theorem fl_X9_86 : Cond.fieldLink RX9 86 RX3 (TX3 5).2.1 (TX3 5).2.2.1 ∈ W0 := iW (tI1 (List.mem_of_getElem? (i := 62) (by decide +kernel))) (by decide +kernel)
theorem g_X9_86 : GOK RX9 86 3 5 := ⟨RX3, TX3, 6, rfl, ul_X3, by decide, fl_X9_86, rfl⟩
theorem p_X9_86 : POK RX9 86 3 5 .int := ⟨RX3, TX3, 6, tyX3, rfl, ul_X3, by decide, fl_X9_86, rfl, tyX3_ok, nmX3, rfl, by decide +kernel⟩
theorem fl_X1_9 : Cond.fieldLink RX1 9 RX1 (TX1 0).2.1 (TX1 0).2.2.1 ∈ W0 := iW (tI1 (List.mem_of_getElem? (i := 83) (by decide +kernel))) (by decide +kernel)
theorem g_X1_9 : GOK RX1 9 1 0 := ⟨RX1, TX1, 4, rfl, ul_X1, by decide, fl_X1_9, rfl⟩
theorem fl_X6_23 : Cond.fieldLink RX6 23 RX1 (TX1 0).2.1 (TX1 0).2.2.1 ∈ W0 := iW (tI1 (List.mem_of_getElem? (i := 84) (by decide +kernel))) (by decide +kernel)
theorem g_X6_23 : GOK RX6 23 1 0 := ⟨RX1, TX1, 4, rfl, ul_X1, by decide, fl_X6_23, rfl⟩
theorem fl_X8_109 : Cond.fieldLink RX8 109 RX1 (TX1 0).2.1 (TX1 0).2.2.1 ∈ W0 := iW (tI1 (List.mem_of_getElem? (i := 85) (by decide +kernel))) (by decide +kernel)
theorem g_X8_109 : GOK RX8 109 1 0 := ⟨RX1, TX1, 4, rfl, ul_X1, by decide, fl_X8_109, rfl⟩
theorem fl_X9_141 : Cond.fieldLink RX9 141 RX1 (TX1 0).2.1 (TX1 0).2.2.1 ∈ W0 := iW (tI1 (List.mem_of_getElem? (i := 86) (by decide +kernel))) (by decide +kernel)
theorem g_X9_141 : GOK RX9 141 1 0 := ⟨RX1, TX1, 4, rfl, ul_X1, by decide, fl_X9_141, rfl⟩
theorem fl_X1_15 : Cond.fieldLink RX1 15 RX1 (TX1 1).2.1 (TX1 1).2.2.1 ∈ W0 := iW (tI1 (List.mem_of_getElem? (i := 87) (by decide +kernel))) (by decide +kernel)
theorem g_X1_15 : GOK RX1 15 1 1 := ⟨RX1, TX1, 4, rfl, ul_X1, by decide, fl_X1_15, rfl⟩
theorem fl_X6_38 : Cond.fieldLink RX6 38 RX1 (TX1 1).2.1 (TX1 1).2.2.1 ∈ W0 := iW (tI1 (List.mem_of_getElem? (i := 88) (by decide +kernel))) (by decide +kernel)
theorem g_X6_38 : GOK RX6 38 1 1 := ⟨RX1, TX1, 4, rfl, ul_X1, by decide, fl_X6_38, rfl⟩
theorem fl_X8_112 : Cond.fieldLink RX8 112 RX1 (TX1 1).2.1 (TX1 1).2.2.1 ∈ W0 := iW (tI1 (List.mem_of_getElem? (i := 89) (by decide +kernel))) (by decide +kernel)
theorem g_X8_112 : GOK RX8 112 1 1 := ⟨RX1, TX1, 4, rfl, ul_X1, by decide, fl_X8_112, rfl⟩
theorem fl_X9_144 : Cond.fieldLink RX9 144 RX1 (TX1 1).2.1 (TX1 1).2.2.1 ∈ W0 := iW (tI1 (List.mem_of_getElem? (i := 90) (by decide +kernel))) (by decide +kernel)
theorem g_X9_144 : GOK RX9 144 1 1 := ⟨RX1, TX1, 4, rfl, ul_X1, by decide, fl_X9_144, rfl⟩
theorem fl_X1_18 : Cond.fieldLink RX1 18 RX1 (TX1 2).2.1 (TX1 2).2.2.1 ∈ W0 := iW (tI1 (List.mem_of_getElem? (i := 91) (by decide +kernel))) (by decide +kernel)
theorem g_X1_18 : GOK RX1 18 1 2 := ⟨RX1, TX1, 4, rfl, ul_X1, by decide, fl_X1_18, rfl⟩
theorem fl_X8_106 : Cond.fieldLink RX8 106 RX1 (TX1 2).2.1 (TX1 2).2.2.1 ∈ W0 := iW (tI1 (List.mem_of_getElem? (i := 92) (by decide +kernel))) (by decide +kernel)
theorem g_X8_106 : GOK RX8 106 1 2 := ⟨RX1, TX1, 4, rfl, ul_X1, by decide, fl_X8_106, rfl⟩
theorem fl_X9_147 : Cond.fieldLink RX9 147 RX1 (TX1 2).2.1 (TX1 2).2.2.1 ∈ W0 := iW (tI1 (List.mem_of_getElem? (i := 93) (by decide +kernel))) (by decide +kernel)
theorem g_X9_147 : GOK RX9 147 1 2 := ⟨RX1, TX1, 4, rfl, ul_X1, by decide, fl_X9_147, rfl⟩
theorem fl_X1_21 : Cond.fieldLink RX1 21 RX1 (TX1 3).2.1 (TX1 3).2.2.1 ∈ W0 := iW (tI1 (List.mem_of_getElem? (i := 94) (by decide +kernel))) (by decide +kernel)
theorem g_X1_21 : GOK RX1 21 1 3 := ⟨RX1, TX1, 4, rfl, ul_X1, by decide, fl_X1_21, rfl⟩
theorem p_X1_21 : POK RX1 21 1 3 .int := ⟨RX1, TX1, 4, tyX1, rfl, ul_X1, by decide, fl_X1_21, rfl, tyX1_ok, nmX1, rfl, by decide +kernel⟩
theorem fl_X8_103 : Cond.fieldLink RX8 103 RX1 (TX1 3).2.1 (TX1 3).2.2.1 ∈ W0 := iW (tI1 (List.mem_of_getElem? (i := 95) (by decide +kernel))) (by decide +kernel)
theorem g_X8_103 : GOK RX8 103 1 3 := ⟨RX1, TX1, 4, rfl, ul_X1, by decide, fl_X8_103, rfl⟩
theorem p_X8_103 : POK RX8 103 1 3 .int := ⟨RX1, TX1, 4, tyX1, rfl, ul_X1, by decide, fl_X8_103, rfl, tyX1_ok, nmX1, rfl, by decide +kernel⟩
theorem fl_X9_124 : Cond.fieldLink RX9 124 RX1 (TX1 3).2.1 (TX1 3).2.2.1 ∈ W0 := iW (tI1 (List.mem_of_getElem? (i := 96) (by decide +kernel))) (by decide +kernel)
theorem g_X9_124 : GOK RX9 124 1 3 := ⟨RX1, TX1, 4, rfl, ul_X1, by decide, fl_X9_124, rfl⟩
theorem p_X9_124 : POK RX9 124 1 3 .int := ⟨RX1, TX1, 4, tyX1, rfl, ul_X1, by decide, fl_X9_124, rfl, tyX1_ok, nmX1, rfl, by decide +kernel⟩
theorem fl_X7_9 : Cond.fieldLink RX7 9 RX7 (TX7 0).2.1 (TX7 0).2.2.1 ∈ W0 := iW (tI1 (List.mem_of_getElem? (i := 112) (by decide +kernel))) (by decide +kernel)
theorem g_X7_9 : GOK RX7 9 7 0 := ⟨RX7, TX7, 3, rfl, ul_X7, by decide, fl_X7_9, rfl⟩
theorem fl_X7_15 : Cond.fieldLink RX7 15 RX7 (TX7 1).2.1 (TX7 1).2.2.1 ∈ W0 := iW (tI1 (List.mem_of_getElem? (i := 113) (by decide +kernel))) (by decide +kernel)
theorem g_X7_15 : GOK RX7 15 7 1 := ⟨RX7, TX7, 3, rfl, ul_X7, by decide, fl_X7_15, rfl⟩
theorem p_X7_15 : POK RX7 15 7 1 .int := ⟨RX7, TX7, 3, tyX7, rfl, ul_X7, by decide, fl_X7_15, rfl, tyX7_ok, nmX7, rfl, by decide +kernel⟩
theorem fl_X2_39 : Cond.fieldLink RX2 39 RX7 (TX7 1).2.1 (TX7 1).2.2.1 ∈ W0 := iW (tI1 (List.mem_of_getElem? (i := 114) (by decide +kernel))) (by decide +kernel)
theorem g_X2_39 : GOK RX2 39 7 1 := ⟨RX7, TX7, 3, rfl, ul_X7, by decide, fl_X2_39, rfl⟩
theorem p_X2_39 : POK RX2 39 7 1 .int := ⟨RX7, TX7, 3, tyX7, rfl, ul_X7, by decide, fl_X2_39, rfl, tyX7_ok, nmX7, rfl, by decide +kernel⟩
theorem fl_X9_195 : Cond.fieldLink RX9 195 RX7 (TX7 1).2.1 (TX7 1).2.2.1 ∈ W0 := iW (tI1 (List.mem_of_getElem? (i := 115) (by decide +kernel))) (by decide +kernel)
theorem g_X9_195 : GOK RX9 195 7 1 := ⟨RX7, TX7, 3, rfl, ul_X7, by decide, fl_X9_195, rfl⟩
theorem p_X9_195 : POK RX9 195 7 1 .int := ⟨RX7, TX7, 3, tyX7, rfl, ul_X7, by decide, fl_X9_195, rfl, tyX7_ok, nmX7, rfl, by decide +kernel⟩
theorem fl_X8_216 : Cond.fieldLink RX8 216 RX7 (TX7 1).2.1 (TX7 1).2.2.1 ∈ W0 := iW (tI1 (List.mem_of_getElem? (i := 116) (by decide +kernel))) (by decide +kernel)
theorem g_X8_216 : GOK RX8 216 7 1 := ⟨RX7, TX7, 3, rfl, ul_X7, by decide, fl_X8_216, rfl⟩
theorem p_X8_216 : POK RX8 216 7 1 .int := ⟨RX7, TX7, 3, tyX7, rfl, ul_X7, by decide, fl_X8_216, rfl, tyX7_ok, nmX7, rfl, by decide +kernel⟩
theorem fl_X7_19 : Cond.fieldLink RX7 19 RX7 (TX7 2).2.1 (TX7 2).2.2.1 ∈ W0 := iW (tI1 (List.mem_of_getElem? (i := 117) (by decide +kernel))) (by decide +kernel)
theorem g_X7_19 : GOK RX7 19 7 2 := ⟨RX7, TX7, 3, rfl, ul_X7, by decide, fl_X7_19, rfl⟩
theorem fl_X0_13 : Cond.fieldLink RX0 13 RX0 (TX0 0).2.1 (TX0 0).2.2.1 ∈ W0 := iW (tI1 (List.mem_of_getElem? (i := 131) (by decide +kernel))) (by decide +kernel)
theorem g_X0_13 : GOK RX0 13 0 0 := ⟨RX0, TX0, 4, rfl, ul_X0, by decide, fl_X0_13, rfl⟩
theorem p_X0_13 : POK RX0 13 0 0 .int := ⟨RX0, TX0, 4, tyX0, rfl, ul_X0, by decide, fl_X0_13, rfl, tyX0_ok, nmX0, rfl, by decide +kernel⟩
theorem fl_X4_47 : Cond.fieldLink RX4 47 RX0 (TX0 0).2.1 (TX0 0).2.2.1 ∈ W0 := iW (tI1 (List.mem_of_getElem? (i := 132) (by decide +kernel))) (by decide +kernel)
theorem g_X4_47 : GOK RX4 47 0 0 := ⟨RX0, TX0, 4, rfl, ul_X0, by decide, fl_X4_47, rfl⟩
theorem p_X4_47 : POK RX4 47 0 0 .int := ⟨RX0, TX0, 4, tyX0, rfl, ul_X0, by decide, fl_X4_47, rfl, tyX0_ok, nmX0, rfl, by decide +kernel⟩
theorem fl_X8_141 : Cond.fieldLink RX8 141 RX0 (TX0 0).2.1 (TX0 0).2.2.1 ∈ W0 := iW (tI1 (List.mem_of_getElem? (i := 133) (by decide +kernel))) (by decide +kernel)
theorem g_X8_141 : GOK RX8 141 0 0 := ⟨RX0, TX0, 4, rfl, ul_X0, by decide, fl_X8_141, rfl⟩
theorem p_X8_141 : POK RX8 141 0 0 .int := ⟨RX0, TX0, 4, tyX0, rfl, ul_X0, by decide, fl_X8_141, rfl, tyX0_ok, nmX0, rfl, by decide +kernel⟩
theorem fl_X9_150 : Cond.fieldLink RX9 150 RX0 (TX0 0).2.1 (TX0 0).2.2.1 ∈ W0 := iW (tI1 (List.mem_of_getElem? (i := 134) (by decide +kernel))) (by decide +kernel)
theorem g_X9_150 : GOK RX9 150 0 0 := ⟨RX0, TX0, 4, rfl, ul_X0, by decide, fl_X9_150, rfl⟩
theorem p_X9_150 : POK RX9 150 0 0 .int := ⟨RX0, TX0, 4, tyX0, rfl, ul_X0, by decide, fl_X9_150, rfl, tyX0_ok, nmX0, rfl, by decide +kernel⟩
theorem fl_X0_19 : Cond.fieldLink RX0 19 RX0 (TX0 1).2.1 (TX0 1).2.2.1 ∈ W0 := iW (tI1 (List.mem_of_getElem? (i := 135) (by decide +kernel))) (by decide +kernel)
theorem g_X0_19 : GOK RX0 19 0 1 := ⟨RX0, TX0, 4, rfl, ul_X0, by decide, fl_X0_19, rfl⟩
theorem p_X0_19 : POK RX0 19 0 1 .int := ⟨RX0, TX0, 4, tyX0, rfl, ul_X0, by decide, fl_X0_19, rfl, tyX0_ok, nmX0, rfl, by decide +kernel⟩
theorem fl_X9_155 : Cond.fieldLink RX9 155 RX0 (TX0 1).2.1 (TX0 1).2.2.1 ∈ W0 := iW (tI1 (List.mem_of_getElem? (i := 136) (by decide +kernel))) (by decide +kernel)
theorem g_X9_155 : GOK RX9 155 0 1 := ⟨RX0, TX0, 4, rfl, ul_X0, by decide, fl_X9_155, rfl⟩
theorem p_X9_155 : POK RX9 155 0 1 .int := ⟨RX0, TX0, 4, tyX0, rfl, ul_X0, by decide, fl_X9_155, rfl, tyX0_ok, nmX0, rfl, by decide +kernel⟩
theorem fl_X8_188 : Cond.fieldLink RX8 188 RX0 (TX0 1).2.1 (TX0 1).2.2.1 ∈ W0 := iW (tI1 (List.mem_of_getElem? (i := 137) (by decide +kernel))) (by decide +kernel)
theorem g_X8_188 : GOK RX8 188 0 1 := ⟨RX0, TX0, 4, rfl, ul_X0, by decide, fl_X8_188, rfl⟩
theorem p_X8_188 : POK RX8 188 0 1 .int := ⟨RX0, TX0, 4, tyX0, rfl, ul_X0, by decide, fl_X8_188, rfl, tyX0_ok, nmX0, rfl, by decide +kernel⟩
theorem fl_X0_22 : Cond.fieldLink RX0 22 RX0 (TX0 2).2.1 (TX0 2).2.2.1 ∈ W0 := iW (tI1 (List.mem_of_getElem? (i := 138) (by decide +kernel))) (by decide +kernel)
theorem g_X0_22 : GOK RX0 22 0 2 := ⟨RX0, TX0, 4, rfl, ul_X0, by decide, fl_X0_22, rfl⟩
theorem p_X0_22 : POK RX0 22 0 2 .int := ⟨RX0, TX0, 4, tyX0, rfl, ul_X0, by decide, fl_X0_22, rfl, tyX0_ok, nmX0, rfl, by decide +kernel⟩
theorem fl_X9_158 : Cond.fieldLink RX9 158 RX0 (TX0 2).2.1 (TX0 2).2.2.1 ∈ W0 := iW (tI1 (List.mem_of_getElem? (i := 139) (by decide +kernel))) (by decide +kernel)
theorem g_X9_158 : GOK RX9 158 0 2 := ⟨RX0, TX0, 4, rfl, ul_X0, by decide, fl_X9_158, rfl⟩
theorem p_X9_158 : POK RX9 158 0 2 .int := ⟨RX0, TX0, 4, tyX0, rfl, ul_X0, by decide, fl_X9_158, rfl, tyX0_ok, nmX0, rfl, by decide +kernel⟩
theorem fl_X8_176 : Cond.fieldLink RX8 176 RX0 (TX0 2).2.1 (TX0 2).2.2.1 ∈ W0 := iW (tI1 (List.mem_of_getElem? (i := 140) (by decide +kernel))) (by decide +kernel)
theorem g_X8_176 : GOK RX8 176 0 2 := ⟨RX0, TX0, 4, rfl, ul_X0, by decide, fl_X8_176, rfl⟩
theorem p_X8_176 : POK RX8 176 0 2 .int := ⟨RX0, TX0, 4, tyX0, rfl, ul_X0, by decide, fl_X8_176, rfl, tyX0_ok, nmX0, rfl, by decide +kernel⟩
theorem fl_X0_25 : Cond.fieldLink RX0 25 RX0 (TX0 3).2.1 (TX0 3).2.2.1 ∈ W0 := iW (tI1 (List.mem_of_getElem? (i := 141) (by decide +kernel))) (by decide +kernel)
theorem g_X0_25 : GOK RX0 25 0 3 := ⟨RX0, TX0, 4, rfl, ul_X0, by decide, fl_X0_25, rfl⟩
theorem p_X0_25 : POK RX0 25 0 3 .int := ⟨RX0, TX0, 4, tyX0, rfl, ul_X0, by decide, fl_X0_25, rfl, tyX0_ok, nmX0, rfl, by decide +kernel⟩
theorem fl_X9_161 : Cond.fieldLink RX9 161 RX0 (TX0 3).2.1 (TX0 3).2.2.1 ∈ W0 := iW (tI1 (List.mem_of_getElem? (i := 142) (by decide +kernel))) (by decide +kernel)
theorem g_X9_161 : GOK RX9 161 0 3 := ⟨RX0, TX0, 4, rfl, ul_X0, by decide, fl_X9_161, rfl⟩
theorem p_X9_161 : POK RX9 161 0 3 .int := ⟨RX0, TX0, 4, tyX0, rfl, ul_X0, by decide, fl_X9_161, rfl, tyX0_ok, nmX0, rfl, by decide +kernel⟩
theorem fl_X8_182 : Cond.fieldLink RX8 182 RX0 (TX0 3).2.1 (TX0 3).2.2.1 ∈ W0 := iW (tI1 (List.mem_of_getElem? (i := 143) (by decide +kernel))) (by decide +kernel)
theorem g_X8_182 : GOK RX8 182 0 3 := ⟨RX0, TX0, 4, rfl, ul_X0, by decide, fl_X8_182, rfl⟩
theorem p_X8_182 : POK RX8 182 0 3 .int := ⟨RX0, TX0, 4, tyX0, rfl, ul_X0, by decide, fl_X8_182, rfl, tyX0_ok, nmX0, rfl, by decide +kernel⟩
theorem fl_J0_38 : Cond.fieldLink RJ0 38 RJ0 "COMPACT_STRINGS" "Z" ∈ W0 := iW (tI1 (List.mem_of_getElem? (i := 162) (by decide +kernel))) (by decide +kernel)
theorem fl_X8_18 : Cond.fieldLink RX8 18 RX8 (TX8 0).2.1 (TX8 0).2.2.1 ∈ W0 := iW (tI1 (List.mem_of_getElem? (i := 164) (by decide +kernel))) (by decide +kernel)
theorem g_X8_18 : GOK RX8 18 8 0 := ⟨RX8, TX8, 11, rfl, ul_X8, by decide, fl_X8_18, rfl⟩
theorem fl_X4_29 : Cond.fieldLink RX4 29 RX8 (TX8 0).2.1 (TX8 0).2.2.1 ∈ W0 := iW (tI1 (List.mem_of_getElem? (i := 165) (by decide +kernel))) (by decide +kernel)
theorem g_X4_29 : GOK RX4 29 8 0 := ⟨RX8, TX8, 11, rfl, ul_X8, by decide, fl_X4_29, rfl⟩
theorem fl_X9_114 : Cond.fieldLink RX9 114 RX8 (TX8 0).2.1 (TX8 0).2.2.1 ∈ W0 := iW (tI1 (List.mem_of_getElem? (i := 166) (by decide +kernel))) (by decide +kernel)
theorem g_X9_114 : GOK RX9 114 8 0 := ⟨RX8, TX8, 11, rfl, ul_X8, by decide, fl_X9_114, rfl⟩
theorem fl_X8_26 : Cond.fieldLink RX8 26 RX8 (TX8 1).2.1 (TX8 1).2.2.1 ∈ W0 := iW (tI1 (List.mem_of_getElem? (i := 167) (by decide +kernel))) (by decide +kernel)
theorem g_X8_26 : GOK RX8 26 8 1 := ⟨RX8, TX8, 11, rfl, ul_X8, by decide, fl_X8_26, rfl⟩
theorem fl_X9_66 : Cond.fieldLink RX9 66 RX8 (TX8 1).2.1 (TX8 1).2.2.1 ∈ W0 := iW (tI1 (List.mem_of_getElem? (i := 168) (by decide +kernel))) (by decide +kernel)
theorem g_X9_66 : GOK RX9 66 8 1 := ⟨RX8, TX8, 11, rfl, ul_X8, by decide, fl_X9_66, rfl⟩
theorem fl_X8_33 : Cond.fieldLink RX8 33 RX8 (TX8 2).2.1 (TX8 2).2.2.1 ∈ W0 := iW (tI1 (List.mem_of_getElem? (i := 169) (by decide +kernel))) (by decide +kernel)
theorem g_X8_33 : GOK RX8 33 8 2 := ⟨RX8, TX8, 11, rfl, ul_X8, by decide, fl_X8_33, rfl⟩
theorem fl_X9_120 : Cond.fieldLink RX9 120 RX8 (TX8 2).2.1 (TX8 2).2.2.1 ∈ W0 := iW (tI1 (List.mem_of_getElem? (i := 170) (by decide +kernel))) (by decide +kernel)
theorem g_X9_120 : GOK RX9 120 8 2 := ⟨RX8, TX8, 11, rfl, ul_X8, by decide, fl_X9_120, rfl⟩
theorem fl_X8_40 : Cond.fieldLink RX8 40 RX8 (TX8 3).2.1 (TX8 3).2.2.1 ∈ W0 := iW (tI1 (List.mem_of_getElem? (i := 171) (by decide +kernel))) (by decide +kernel)
theorem g_X8_40 : GOK RX8 40 8 3 := ⟨RX8, TX8, 11, rfl, ul_X8, by decide, fl_X8_40, rfl⟩
theorem fl_X8_44 : Cond.fieldLink RX8 44 RX8 (TX8 4).2.1 (TX8 4).2.2.1 ∈ W0 := iW (tI1 (List.mem_of_getElem? (i := 172) (by decide +kernel))) (by decide +kernel)
theorem g_X8_44 : GOK RX8 44 8 4 := ⟨RX8, TX8, 11, rfl, ul_X8, by decide, fl_X8_44, rfl⟩
theorem fl_X8_47 : Cond.fieldLink RX8 47 RX8 (TX8 5).2.1 (TX8 5).2.2.1 ∈ W0 := iW (tI1 (List.mem_of_getElem? (i := 173) (by decide +kernel))) (by decide +kernel)
theorem g_X8_47 : GOK RX8 47 8 5 := ⟨RX8, TX8, 11, rfl, ul_X8, by decide, fl_X8_47, rfl⟩
theorem fl_X9_170 : Cond.fieldLink RX9 170 RX8 (TX8 5).2.1 (TX8 5).2.2.1 ∈ W0 := iW (tI1 (List.mem_of_getElem? (i := 174) (by decide +kernel))) (by decide +kernel)
theorem g_X9_170 : GOK RX9 170 8 5 := ⟨RX8, TX8, 11, rfl, ul_X8, by decide, fl_X9_170, rfl⟩
theorem fl_X8_50 : Cond.fieldLink RX8 50 RX8 (TX8 6).2.1 (TX8 6).2.2.1 ∈ W0 := iW (tI1 (List.mem_of_getElem? (i := 175) (by decide +kernel))) (by decide +kernel)
theorem g_X8_50 : GOK RX8 50 8 6 := ⟨RX8, TX8, 11, rfl, ul_X8, by decide, fl_X8_50, rfl⟩
theorem fl_X9_290 : Cond.fieldLink RX9 290 RX8 (TX8 6).2.1 (TX8 6).2.2.1 ∈ W0 := iW (tI1 (List.mem_of_getElem? (i := 176) (by decide +kernel))) (by decide +kernel)
theorem g_X9_290 : GOK RX9 290 8 6 := ⟨RX8, TX8, 11, rfl, ul_X8, by decide, fl_X9_290, rfl⟩
theorem fl_X8_53 : Cond.fieldLink RX8 53 RX8 (TX8 7).2.1 (TX8 7).2.2.1 ∈ W0 := iW (tI1 (List.mem_of_getElem? (i := 177) (by decide +kernel))) (by decide +kernel)
theorem g_X8_53 : GOK RX8 53 8 7 := ⟨RX8, TX8, 11, rfl, ul_X8, by decide, fl_X8_53, rfl⟩
theorem p_X8_53 : POK RX8 53 8 7 .int := ⟨RX8, TX8, 11, tyX8, rfl, ul_X8, by decide, fl_X8_53, rfl, tyX8_ok, nmX8, rfl, by decide +kernel⟩
theorem fl_X9_167 : Cond.fieldLink RX9 167 RX8 (TX8 7).2.1 (TX8 7).2.2.1 ∈ W0 := iW (tI1 (List.mem_of_getElem? (i := 178) (by decide +kernel))) (by decide +kernel)
theorem g_X9_167 : GOK RX9 167 8 7 := ⟨RX8, TX8, 11, rfl, ul_X8, by decide, fl_X9_167, rfl⟩
theorem p_X9_167 : POK RX9 167 8 7 .int := ⟨RX8, TX8, 11, tyX8, rfl, ul_X8, by decide, fl_X9_167, rfl, tyX8_ok, nmX8, rfl, by decide +kernel⟩
theorem fl_X8_57 : Cond.fieldLink RX8 57 RX8 (TX8 8).2.1 (TX8 8).2.2.1 ∈ W0 := iW (tI1 (List.mem_of_getElem? (i := 179) (by decide +kernel))) (by decide +kernel)
theorem g_X8_57 : GOK RX8 57 8 8 := ⟨RX8, TX8, 11, rfl, ul_X8, by decide, fl_X8_57, rfl⟩
theorem p_X8_57 : POK RX8 57 8 8 .int := ⟨RX8, TX8, 11, tyX8, rfl, ul_X8, by decide, fl_X8_57, rfl, tyX8_ok, nmX8, rfl, by decide +kernel⟩
theorem fl_X9_287 : Cond.fieldLink RX9 287 RX8 (TX8 8).2.1 (TX8 8).2.2.1 ∈ W0 := iW (tI1 (List.mem_of_getElem? (i := 180) (by decide +kernel))) (by decide +kernel)
theorem g_X9_287 : GOK RX9 287 8 8 := ⟨RX8, TX8, 11, rfl, ul_X8, by decide, fl_X9_287, rfl⟩
theorem p_X9_287 : POK RX9 287 8 8 .int := ⟨RX8, TX8, 11, tyX8, rfl, ul_X8, by decide, fl_X9_287, rfl, tyX8_ok, nmX8, rfl, by decide +kernel⟩
theorem fl_X8_63 : Cond.fieldLink RX8 63 RX8 (TX8 9).2.1 (TX8 9).2.2.1 ∈ W0 := iW (tI1 (List.mem_of_getElem? (i := 181) (by decide +kernel))) (by decide +kernel)
theorem g_X8_63 : GOK RX8 63 8 9 := ⟨RX8, TX8, 11, rfl, ul_X8, by decide, fl_X8_63, rfl⟩
theorem fl_X8_75 : Cond.fieldLink RX8 75 RX8 (TX8 10).2.1 (TX8 10).2.2.1 ∈ W0 := iW (tI1 (List.mem_of_getElem? (i := 182) (by decide +kernel))) (by decide +kernel)
theorem g_X8_75 : GOK RX8 75 8 10 := ⟨RX8, TX8, 11, rfl, ul_X8, by decide, fl_X8_75, rfl⟩
theorem fl_X2_12 : Cond.fieldLink RX2 12 RX2 (TX2 0).2.1 (TX2 0).2.2.1 ∈ W0 := iW (tI1 (List.mem_of_getElem? (i := 215) (by decide +kernel))) (by decide +kernel)
theorem g_X2_12 : GOK RX2 12 2 0 := ⟨RX2, TX2, 7, rfl, ul_X2, by decide, fl_X2_12, rfl⟩
theorem fl_X9_185 : Cond.fieldLink RX9 185 RX2 (TX2 0).2.1 (TX2 0).2.2.1 ∈ W0 := iW (tI1 (List.mem_of_getElem? (i := 216) (by decide +kernel))) (by decide +kernel)
theorem g_X9_185 : GOK RX9 185 2 0 := ⟨RX2, TX2, 7, rfl, ul_X2, by decide, fl_X9_185, rfl⟩
theorem fl_X2_18 : Cond.fieldLink RX2 18 RX2 (TX2 1).2.1 (TX2 1).2.2.1 ∈ W0 := iW (tI1 (List.mem_of_getElem? (i := 217) (by decide +kernel))) (by decide +kernel)
theorem g_X2_18 : GOK RX2 18 2 1 := ⟨RX2, TX2, 7, rfl, ul_X2, by decide, fl_X2_18, rfl⟩
theorem fl_X2_22 : Cond.fieldLink RX2 22 RX2 (TX2 2).2.1 (TX2 2).2.2.1 ∈ W0 := iW (tI1 (List.mem_of_getElem? (i := 218) (by decide +kernel))) (by decide +kernel)
theorem g_X2_22 : GOK RX2 22 2 2 := ⟨RX2, TX2, 7, rfl, ul_X2, by decide, fl_X2_22, rfl⟩
theorem p_X2_22 : POK RX2 22 2 2 .int := ⟨RX2, TX2, 7, tyX2, rfl, ul_X2, by decide, fl_X2_22, rfl, tyX2_ok, nmX2, rfl, by decide +kernel⟩
theorem fl_X2_26 : Cond.fieldLink RX2 26 RX2 (TX2 3).2.1 (TX2 3).2.2.1 ∈ W0 := iW (tI1 (List.mem_of_getElem? (i := 219) (by decide +kernel))) (by decide +kernel)
theorem g_X2_26 : GOK RX2 26 2 3 := ⟨RX2, TX2, 7, rfl, ul_X2, by decide, fl_X2_26, rfl⟩
theorem p_X2_26 : POK RX2 26 2 3 .int := ⟨RX2, TX2, 7, tyX2, rfl, ul_X2, by decide, fl_X2_26, rfl, tyX2_ok, nmX2, rfl, by decide +kernel⟩
theorem fl_X2_29 : Cond.fieldLink RX2 29 RX2 (TX2 4).2.1 (TX2 4).2.2.1 ∈ W0 := iW (tI1 (List.mem_of_getElem? (i := 220) (by decide +kernel))) (by decide +kernel)
theorem g_X2_29 : GOK RX2 29 2 4 := ⟨RX2, TX2, 7, rfl, ul_X2, by decide, fl_X2_29, rfl⟩
theorem p_X2_29 : POK RX2 29 2 4 .int := ⟨RX2, TX2, 7, tyX2, rfl, ul_X2, by decide, fl_X2_29, rfl, tyX2_ok, nmX2, rfl, by decide +kernel⟩
theorem fl_X2_32 : Cond.fieldLink RX2 32 RX2 (TX2 5).2.1 (TX2 5).2.2.1 ∈ W0 := iW (tI1 (List.mem_of_getElem? (i := 221) (by decide +kernel))) (by decide +kernel)
theorem g_X2_32 : GOK RX2 32 2 5 := ⟨RX2, TX2, 7, rfl, ul_X2, by decide, fl_X2_32, rfl⟩
theorem p_X2_32 : POK RX2 32 2 5 .int := ⟨RX2, TX2, 7, tyX2, rfl, ul_X2, by decide, fl_X2_32, rfl, tyX2_ok, nmX2, rfl, by decide +kernel⟩
theorem fl_X2_35 : Cond.fieldLink RX2 35 RX2 (TX2 6).2.1 (TX2 6).2.2.1 ∈ W0 := iW (tI1 (List.mem_of_getElem? (i := 222) (by decide +kernel))) (by decide +kernel)
theorem g_X2_35 : GOK RX2 35 2 6 := ⟨RX2, TX2, 7, rfl, ul_X2, by decide, fl_X2_35, rfl⟩
theorem p_X2_35 : POK RX2 35 2 6 .boolean := ⟨RX2, TX2, 7, tyX2, rfl, ul_X2, by decide, fl_X2_35, rfl, tyX2_ok, nmX2, rfl, by decide +kernel⟩
theorem fl_X4_9 : Cond.fieldLink RX4 9 RX4 (TX4 0).2.1 (TX4 0).2.2.1 ∈ W0 := iW (tI2 (List.mem_of_getElem? (i := 4) (by decide +kernel))) (by decide +kernel)
theorem g_X4_9 : GOK RX4 9 4 0 := ⟨RX4, TX4, 4, rfl, ul_X4, by decide, fl_X4_9, rfl⟩
theorem p_X4_9 : POK RX4 9 4 0 .long := ⟨RX4, TX4, 4, tyX4, rfl, ul_X4, by decide, fl_X4_9, rfl, tyX4_ok, nmX4, rfl, by decide +kernel⟩
theorem fl_X9_211 : Cond.fieldLink RX9 211 RX4 (TX4 0).2.1 (TX4 0).2.2.1 ∈ W0 := iW (tI2 (List.mem_of_getElem? (i := 5) (by decide +kernel))) (by decide +kernel)
theorem g_X9_211 : GOK RX9 211 4 0 := ⟨RX4, TX4, 4, rfl, ul_X4, by decide, fl_X9_211, rfl⟩
theorem p_X9_211 : POK RX9 211 4 0 .long := ⟨RX4, TX4, 4, tyX4, rfl, ul_X4, by decide, fl_X9_211, rfl, tyX4_ok, nmX4, rfl, by decide +kernel⟩
theorem fl_X4_15 : Cond.fieldLink RX4 15 RX4 (TX4 1).2.1 (TX4 1).2.2.1 ∈ W0 := iW (tI2 (List.mem_of_getElem? (i := 6) (by decide +kernel))) (by decide +kernel)
theorem g_X4_15 : GOK RX4 15 4 1 := ⟨RX4, TX4, 4, rfl, ul_X4, by decide, fl_X4_15, rfl⟩
theorem p_X4_15 : POK RX4 15 4 1 .long := ⟨RX4, TX4, 4, tyX4, rfl, ul_X4, by decide, fl_X4_15, rfl, tyX4_ok, nmX4, rfl, by decide +kernel⟩
theorem fl_X9_215 : Cond.fieldLink RX9 215 RX4 (TX4 1).2.1 (TX4 1).2.2.1 ∈ W0 := iW (tI2 (List.mem_of_getElem? (i := 7) (by decide +kernel))) (by decide +kernel)
theorem g_X9_215 : GOK RX9 215 4 1 := ⟨RX4, TX4, 4, rfl, ul_X4, by decide, fl_X9_215, rfl⟩
theorem p_X9_215 : POK RX9 215 4 1 .long := ⟨RX4, TX4, 4, tyX4, rfl, ul_X4, by decide, fl_X9_215, rfl, tyX4_ok, nmX4, rfl, by decide +kernel⟩
theorem fl_X4_18 : Cond.fieldLink RX4 18 RX4 (TX4 2).2.1 (TX4 2).2.2.1 ∈ W0 := iW (tI2 (List.mem_of_getElem? (i := 8) (by decide +kernel))) (by decide +kernel)
theorem g_X4_18 : GOK RX4 18 4 2 := ⟨RX4, TX4, 4, rfl, ul_X4, by decide, fl_X4_18, rfl⟩
theorem fl_X4_22 : Cond.fieldLink RX4 22 RX4 (TX4 3).2.1 (TX4 3).2.2.1 ∈ W0 := iW (tI2 (List.mem_of_getElem? (i := 9) (by decide +kernel))) (by decide +kernel)
theorem g_X4_22 : GOK RX4 22 4 3 := ⟨RX4, TX4, 4, rfl, ul_X4, by decide, fl_X4_22, rfl⟩
theorem fl_X6_9 : Cond.fieldLink RX6 9 RX6 (TX6 0).2.1 (TX6 0).2.2.1 ∈ W0 := iW (tI2 (List.mem_of_getElem? (i := 28) (by decide +kernel))) (by decide +kernel)
theorem g_X6_9 : GOK RX6 9 6 0 := ⟨RX6, TX6, 6, rfl, ul_X6, by decide, fl_X6_9, rfl⟩
theorem fl_X9_255 : Cond.fieldLink RX9 255 RX6 (TX6 0).2.1 (TX6 0).2.2.1 ∈ W0 := iW (tI2 (List.mem_of_getElem? (i := 29) (by decide +kernel))) (by decide +kernel)
theorem g_X9_255 : GOK RX9 255 6 0 := ⟨RX6, TX6, 6, rfl, ul_X6, by decide, fl_X9_255, rfl⟩
theorem fl_X6_15 : Cond.fieldLink RX6 15 RX6 (TX6 1).2.1 (TX6 1).2.2.1 ∈ W0 := iW (tI2 (List.mem_of_getElem? (i := 30) (by decide +kernel))) (by decide +kernel)
theorem g_X6_15 : GOK RX6 15 6 1 := ⟨RX6, TX6, 6, rfl, ul_X6, by decide, fl_X6_15, rfl⟩
theorem p_X6_15 : POK RX6 15 6 1 .int := ⟨RX6, TX6, 6, tyX6, rfl, ul_X6, by decide, fl_X6_15, rfl, tyX6_ok, nmX6, rfl, by decide +kernel⟩
theorem fl_X9_254 : Cond.fieldLink RX9 254 RX6 (TX6 1).2.1 (TX6 1).2.2.1 ∈ W0 := iW (tI2 (List.mem_of_getElem? (i := 31) (by decide +kernel))) (by decide +kernel)
theorem g_X9_254 : GOK RX9 254 6 1 := ⟨RX6, TX6, 6, rfl, ul_X6, by decide, fl_X9_254, rfl⟩
theorem p_X9_254 : POK RX9 254 6 1 .int := ⟨RX6, TX6, 6, tyX6, rfl, ul_X6, by decide, fl_X9_254, rfl, tyX6_ok, nmX6, rfl, by decide +kernel⟩
theorem fl_X6_19 : Cond.fieldLink RX6 19 RX6 (TX6 2).2.1 (TX6 2).2.2.1 ∈ W0 := iW (tI2 (List.mem_of_getElem? (i := 32) (by decide +kernel))) (by decide +kernel)
theorem g_X6_19 : GOK RX6 19 6 2 := ⟨RX6, TX6, 6, rfl, ul_X6, by decide, fl_X6_19, rfl⟩
theorem p_X6_19 : POK RX6 19 6 2 .boolean := ⟨RX6, TX6, 6, tyX6, rfl, ul_X6, by decide, fl_X6_19, rfl, tyX6_ok, nmX6, rfl, by decide +kernel⟩
theorem fl_X9_250 : Cond.fieldLink RX9 250 RX6 (TX6 2).2.1 (TX6 2).2.2.1 ∈ W0 := iW (tI2 (List.mem_of_getElem? (i := 33) (by decide +kernel))) (by decide +kernel)
theorem g_X9_250 : GOK RX9 250 6 2 := ⟨RX6, TX6, 6, rfl, ul_X6, by decide, fl_X9_250, rfl⟩
theorem p_X9_250 : POK RX9 250 6 2 .boolean := ⟨RX6, TX6, 6, tyX6, rfl, ul_X6, by decide, fl_X9_250, rfl, tyX6_ok, nmX6, rfl, by decide +kernel⟩
theorem fl_X6_32 : Cond.fieldLink RX6 32 RX6 (TX6 3).2.1 (TX6 3).2.2.1 ∈ W0 := iW (tI2 (List.mem_of_getElem? (i := 34) (by decide +kernel))) (by decide +kernel)
theorem g_X6_32 : GOK RX6 32 6 3 := ⟨RX6, TX6, 6, rfl, ul_X6, by decide, fl_X6_32, rfl⟩
theorem p_X6_32 : POK RX6 32 6 3 .int := ⟨RX6, TX6, 6, tyX6, rfl, ul_X6, by decide, fl_X6_32, rfl, tyX6_ok, nmX6, rfl, by decide +kernel⟩
theorem fl_X6_35 : Cond.fieldLink RX6 35 RX6 (TX6 4).2.1 (TX6 4).2.2.1 ∈ W0 := iW (tI2 (List.mem_of_getElem? (i := 35) (by decide +kernel))) (by decide +kernel)
theorem g_X6_35 : GOK RX6 35 6 4 := ⟨RX6, TX6, 6, rfl, ul_X6, by decide, fl_X6_35, rfl⟩
theorem p_X6_35 : POK RX6 35 6 4 .int := ⟨RX6, TX6, 6, tyX6, rfl, ul_X6, by decide, fl_X6_35, rfl, tyX6_ok, nmX6, rfl, by decide +kernel⟩
theorem fl_X6_41 : Cond.fieldLink RX6 41 RX6 (TX6 5).2.1 (TX6 5).2.2.1 ∈ W0 := iW (tI2 (List.mem_of_getElem? (i := 36) (by decide +kernel))) (by decide +kernel)
theorem g_X6_41 : GOK RX6 41 6 5 := ⟨RX6, TX6, 6, rfl, ul_X6, by decide, fl_X6_41, rfl⟩
theorem p_X6_41 : POK RX6 41 6 5 .int := ⟨RX6, TX6, 6, tyX6, rfl, ul_X6, by decide, fl_X6_41, rfl, tyX6_ok, nmX6, rfl, by decide +kernel⟩
theorem fl_X5_9 : Cond.fieldLink RX5 9 RX5 (TX5 0).2.1 (TX5 0).2.2.1 ∈ W0 := iW (tI2 (List.mem_of_getElem? (i := 55) (by decide +kernel))) (by decide +kernel)
theorem g_X5_9 : GOK RX5 9 5 0 := ⟨RX5, TX5, 3, rfl, ul_X5, by decide, fl_X5_9, rfl⟩
theorem fl_X9_270 : Cond.fieldLink RX9 270 RX5 (TX5 0).2.1 (TX5 0).2.2.1 ∈ W0 := iW (tI2 (List.mem_of_getElem? (i := 56) (by decide +kernel))) (by decide +kernel)
theorem g_X9_270 : GOK RX9 270 5 0 := ⟨RX5, TX5, 3, rfl, ul_X5, by decide, fl_X9_270, rfl⟩
theorem fl_X5_15 : Cond.fieldLink RX5 15 RX5 (TX5 1).2.1 (TX5 1).2.2.1 ∈ W0 := iW (tI2 (List.mem_of_getElem? (i := 57) (by decide +kernel))) (by decide +kernel)
theorem g_X5_15 : GOK RX5 15 5 1 := ⟨RX5, TX5, 3, rfl, ul_X5, by decide, fl_X5_15, rfl⟩
theorem p_X5_15 : POK RX5 15 5 1 .int := ⟨RX5, TX5, 3, tyX5, rfl, ul_X5, by decide, fl_X5_15, rfl, tyX5_ok, nmX5, rfl, by decide +kernel⟩
theorem fl_X9_266 : Cond.fieldLink RX9 266 RX5 (TX5 1).2.1 (TX5 1).2.2.1 ∈ W0 := iW (tI2 (List.mem_of_getElem? (i := 58) (by decide +kernel))) (by decide +kernel)
theorem g_X9_266 : GOK RX9 266 5 1 := ⟨RX5, TX5, 3, rfl, ul_X5, by decide, fl_X9_266, rfl⟩
theorem p_X9_266 : POK RX9 266 5 1 .int := ⟨RX5, TX5, 3, tyX5, rfl, ul_X5, by decide, fl_X9_266, rfl, tyX5_ok, nmX5, rfl, by decide +kernel⟩
theorem fl_X5_19 : Cond.fieldLink RX5 19 RX5 (TX5 2).2.1 (TX5 2).2.2.1 ∈ W0 := iW (tI2 (List.mem_of_getElem? (i := 59) (by decide +kernel))) (by decide +kernel)
theorem g_X5_19 : GOK RX5 19 5 2 := ⟨RX5, TX5, 3, rfl, ul_X5, by decide, fl_X5_19, rfl⟩
theorem p_X5_19 : POK RX5 19 5 2 .int := ⟨RX5, TX5, 3, tyX5, rfl, ul_X5, by decide, fl_X5_19, rfl, tyX5_ok, nmX5, rfl, by decide +kernel⟩
theorem fl_X9_269 : Cond.fieldLink RX9 269 RX5 (TX5 2).2.1 (TX5 2).2.2.1 ∈ W0 := iW (tI2 (List.mem_of_getElem? (i := 60) (by decide +kernel))) (by decide +kernel)
theorem g_X9_269 : GOK RX9 269 5 2 := ⟨RX5, TX5, 3, rfl, ul_X5, by decide, fl_X9_269, rfl⟩
theorem p_X9_269 : POK RX9 269 5 2 .int := ⟨RX5, TX5, 3, tyX5, rfl, ul_X5, by decide, fl_X9_269, rfl, tyX5_ok, nmX5, rfl, by decide +kernel⟩
theorem fl_X9_10 : Cond.fieldLink RX9 10 RX9 (TX9 0).2.1 (TX9 0).2.2.1 ∈ W0 := iW (tI2 (List.mem_of_getElem? (i := 68) (by decide +kernel))) (by decide +kernel)
theorem g_X9_10 : GOK RX9 10 9 0 := ⟨RX9, TX9, 9, rfl, ul_X9, by decide, fl_X9_10, rfl⟩
theorem fl_X9_16 : Cond.fieldLink RX9 16 RX9 (TX9 1).2.1 (TX9 1).2.2.1 ∈ W0 := iW (tI2 (List.mem_of_getElem? (i := 69) (by decide +kernel))) (by decide +kernel)
theorem g_X9_16 : GOK RX9 16 9 1 := ⟨RX9, TX9, 9, rfl, ul_X9, by decide, fl_X9_16, rfl⟩
theorem fl_X9_19 : Cond.fieldLink RX9 19 RX9 (TX9 2).2.1 (TX9 2).2.2.1 ∈ W0 := iW (tI2 (List.mem_of_getElem? (i := 70) (by decide +kernel))) (by decide +kernel)
theorem g_X9_19 : GOK RX9 19 9 2 := ⟨RX9, TX9, 9, rfl, ul_X9, by decide, fl_X9_19, rfl⟩
theorem fl_X9_25 : Cond.fieldLink RX9 25 RX9 (TX9 3).2.1 (TX9 3).2.2.1 ∈ W0 := iW (tI2 (List.mem_of_getElem? (i := 71) (by decide +kernel))) (by decide +kernel)
theorem g_X9_25 : GOK RX9 25 9 3 := ⟨RX9, TX9, 9, rfl, ul_X9, by decide, fl_X9_25, rfl⟩
theorem fl_X9_32 : Cond.fieldLink RX9 32 RX9 (TX9 4).2.1 (TX9 4).2.2.1 ∈ W0 := iW (tI2 (List.mem_of_getElem? (i := 72) (by decide +kernel))) (by decide +kernel)
theorem g_X9_32 : GOK RX9 32 9 4 := ⟨RX9, TX9, 9, rfl, ul_X9, by decide, fl_X9_32, rfl⟩
theorem fl_X9_38 : Cond.fieldLink RX9 38 RX9 (TX9 5).2.1 (TX9 5).2.2.1 ∈ W0 := iW (tI2 (List.mem_of_getElem? (i := 73) (by decide +kernel))) (by decide +kernel)
theorem g_X9_38 : GOK RX9 38 9 5 := ⟨RX9, TX9, 9, rfl, ul_X9, by decide, fl_X9_38, rfl⟩
theorem fl_X9_42 : Cond.fieldLink RX9 42 RX9 (TX9 6).2.1 (TX9 6).2.2.1 ∈ W0 := iW (tI2 (List.mem_of_getElem? (i := 74) (by decide +kernel))) (by decide +kernel)
theorem g_X9_42 : GOK RX9 42 9 6 := ⟨RX9, TX9, 9, rfl, ul_X9, by decide, fl_X9_42, rfl⟩
theorem fl_X9_49 : Cond.fieldLink RX9 49 RX9 (TX9 7).2.1 (TX9 7).2.2.1 ∈ W0 := iW (tI2 (List.mem_of_getElem? (i := 75) (by decide +kernel))) (by decide +kernel)
theorem g_X9_49 : GOK RX9 49 9 7 := ⟨RX9, TX9, 9, rfl, ul_X9, by decide, fl_X9_49, rfl⟩
theorem fl_X9_53 : Cond.fieldLink RX9 53 RX9 (TX9 8).2.1 (TX9 8).2.2.1 ∈ W0 := iW (tI2 (List.mem_of_getElem? (i := 76) (by decide +kernel))) (by decide +kernel)
theorem g_X9_53 : GOK RX9 53 9 8 := ⟨RX9, TX9, 9, rfl, ul_X9, by decide, fl_X9_53, rfl⟩
theorem p_X9_53 : POK RX9 53 9 8 .int := ⟨RX9, TX9, 9, tyX9, rfl, ul_X9, by decide, fl_X9_53, rfl, tyX9_ok, nmX9, rfl, by decide +kernel⟩
theorem fl_X9_108 : Cond.fieldLink RX9 108 RX9 "LEAST" "[I" ∈ W0 := iW (tI2 (List.mem_of_getElem? (i := 162) (by decide +kernel))) (by decide +kernel)
theorem fl_X9_111 : Cond.fieldLink RX9 111 RX9 "MOST" "[I" ∈ W0 := iW (tI2 (List.mem_of_getElem? (i := 164) (by decide +kernel))) (by decide +kernel)
theorem fl_X9_164 : Cond.fieldLink RX9 164 RX9 "KIND_ABOVE" "[I" ∈ W0 := iW (tI2 (List.mem_of_getElem? (i := 228) (by decide +kernel))) (by decide +kernel)
theorem fl_J0_1053 : Cond.fieldLink RJ0 1053 RJ3 "SIOOBE_FORMATTER" "Ljava/util/function/BiFunction;" ∈ W0 := iW (tI3 (List.mem_of_getElem? (i := 101) (by decide +kernel))) (by decide +kernel)
theorem fl_J2_44 : Cond.fieldLink RJ2 44 RJ2 "$assertionsDisabled" "Z" ∈ W0 := iW (tI3 (List.mem_of_getElem? (i := 112) (by decide +kernel))) (by decide +kernel)
theorem fl_J2_59 : Cond.fieldLink RJ2 59 RJ2 "HI_BYTE_SHIFT" "I" ∈ W0 := iW (tI3 (List.mem_of_getElem? (i := 114) (by decide +kernel))) (by decide +kernel)
theorem fl_J2_63 : Cond.fieldLink RJ2 63 RJ2 "LO_BYTE_SHIFT" "I" ∈ W0 := iW (tI3 (List.mem_of_getElem? (i := 116) (by decide +kernel))) (by decide +kernel)
theorem fl_X10_9 : Cond.fieldLink RX10 9 RX10 (TX10 0).2.1 (TX10 0).2.2.1 ∈ W0 := iW (tI4 (List.mem_of_getElem? (i := 188) (by decide +kernel))) (by decide +kernel)
theorem g_X10_9 : GOK RX10 9 10 0 := ⟨RX10, TX10, 28, rfl, ul_X10, by decide, fl_X10_9, rfl⟩
theorem fl_X10_13 : Cond.fieldLink RX10 13 RX10 (TX10 1).2.1 (TX10 1).2.2.1 ∈ W0 := iW (tI4 (List.mem_of_getElem? (i := 189) (by decide +kernel))) (by decide +kernel)
theorem g_X10_13 : GOK RX10 13 10 1 := ⟨RX10, TX10, 28, rfl, ul_X10, by decide, fl_X10_13, rfl⟩
theorem fl_X10_16 : Cond.fieldLink RX10 16 RX10 (TX10 2).2.1 (TX10 2).2.2.1 ∈ W0 := iW (tI4 (List.mem_of_getElem? (i := 190) (by decide +kernel))) (by decide +kernel)
theorem g_X10_16 : GOK RX10 16 10 2 := ⟨RX10, TX10, 28, rfl, ul_X10, by decide, fl_X10_16, rfl⟩
theorem fl_X10_328 : Cond.fieldLink RX10 328 RX10 (TX10 3).2.1 (TX10 3).2.2.1 ∈ W0 := iW (tI4 (List.mem_of_getElem? (i := 191) (by decide +kernel))) (by decide +kernel)
theorem g_X10_328 : GOK RX10 328 10 3 := ⟨RX10, TX10, 28, rfl, ul_X10, by decide, fl_X10_328, rfl⟩
theorem p_X10_328 : POK RX10 328 10 3 .int := ⟨RX10, TX10, 28, tyX10, rfl, ul_X10, by decide, fl_X10_328, rfl, tyX10_ok, nmX10, rfl, by decide +kernel⟩
theorem fl_X10_19 : Cond.fieldLink RX10 19 RX10 (TX10 4).2.1 (TX10 4).2.2.1 ∈ W0 := iW (tI4 (List.mem_of_getElem? (i := 192) (by decide +kernel))) (by decide +kernel)
theorem g_X10_19 : GOK RX10 19 10 4 := ⟨RX10, TX10, 28, rfl, ul_X10, by decide, fl_X10_19, rfl⟩
theorem fl_X10_22 : Cond.fieldLink RX10 22 RX10 (TX10 5).2.1 (TX10 5).2.2.1 ∈ W0 := iW (tI4 (List.mem_of_getElem? (i := 193) (by decide +kernel))) (by decide +kernel)
theorem g_X10_22 : GOK RX10 22 10 5 := ⟨RX10, TX10, 28, rfl, ul_X10, by decide, fl_X10_22, rfl⟩
theorem fl_X10_25 : Cond.fieldLink RX10 25 RX10 (TX10 6).2.1 (TX10 6).2.2.1 ∈ W0 := iW (tI4 (List.mem_of_getElem? (i := 194) (by decide +kernel))) (by decide +kernel)
theorem g_X10_25 : GOK RX10 25 10 6 := ⟨RX10, TX10, 28, rfl, ul_X10, by decide, fl_X10_25, rfl⟩
theorem fl_X10_34 : Cond.fieldLink RX10 34 RX10 (TX10 7).2.1 (TX10 7).2.2.1 ∈ W0 := iW (tI4 (List.mem_of_getElem? (i := 195) (by decide +kernel))) (by decide +kernel)
theorem g_X10_34 : GOK RX10 34 10 7 := ⟨RX10, TX10, 28, rfl, ul_X10, by decide, fl_X10_34, rfl⟩
theorem fl_X10_165 : Cond.fieldLink RX10 165 RX10 (TX10 8).2.1 (TX10 8).2.2.1 ∈ W0 := iW (tI4 (List.mem_of_getElem? (i := 196) (by decide +kernel))) (by decide +kernel)
theorem g_X10_165 : GOK RX10 165 10 8 := ⟨RX10, TX10, 28, rfl, ul_X10, by decide, fl_X10_165, rfl⟩
theorem p_X10_165 : POK RX10 165 10 8 .int := ⟨RX10, TX10, 28, tyX10, rfl, ul_X10, by decide, fl_X10_165, rfl, tyX10_ok, nmX10, rfl, by decide +kernel⟩
theorem fl_X10_206 : Cond.fieldLink RX10 206 RX10 (TX10 9).2.1 (TX10 9).2.2.1 ∈ W0 := iW (tI4 (List.mem_of_getElem? (i := 197) (by decide +kernel))) (by decide +kernel)
theorem g_X10_206 : GOK RX10 206 10 9 := ⟨RX10, TX10, 28, rfl, ul_X10, by decide, fl_X10_206, rfl⟩
theorem p_X10_206 : POK RX10 206 10 9 .int := ⟨RX10, TX10, 28, tyX10, rfl, ul_X10, by decide, fl_X10_206, rfl, tyX10_ok, nmX10, rfl, by decide +kernel⟩
theorem fl_X10_196 : Cond.fieldLink RX10 196 RX10 (TX10 10).2.1 (TX10 10).2.2.1 ∈ W0 := iW (tI4 (List.mem_of_getElem? (i := 198) (by decide +kernel))) (by decide +kernel)
theorem g_X10_196 : GOK RX10 196 10 10 := ⟨RX10, TX10, 28, rfl, ul_X10, by decide, fl_X10_196, rfl⟩
theorem p_X10_196 : POK RX10 196 10 10 .int := ⟨RX10, TX10, 28, tyX10, rfl, ul_X10, by decide, fl_X10_196, rfl, tyX10_ok, nmX10, rfl, by decide +kernel⟩
theorem fl_X10_161 : Cond.fieldLink RX10 161 RX10 (TX10 11).2.1 (TX10 11).2.2.1 ∈ W0 := iW (tI4 (List.mem_of_getElem? (i := 199) (by decide +kernel))) (by decide +kernel)
theorem g_X10_161 : GOK RX10 161 10 11 := ⟨RX10, TX10, 28, rfl, ul_X10, by decide, fl_X10_161, rfl⟩
theorem p_X10_161 : POK RX10 161 10 11 .boolean := ⟨RX10, TX10, 28, tyX10, rfl, ul_X10, by decide, fl_X10_161, rfl, tyX10_ok, nmX10, rfl, by decide +kernel⟩
theorem fl_X10_38 : Cond.fieldLink RX10 38 RX10 (TX10 12).2.1 (TX10 12).2.2.1 ∈ W0 := iW (tI4 (List.mem_of_getElem? (i := 200) (by decide +kernel))) (by decide +kernel)
theorem g_X10_38 : GOK RX10 38 10 12 := ⟨RX10, TX10, 28, rfl, ul_X10, by decide, fl_X10_38, rfl⟩
theorem fl_X10_172 : Cond.fieldLink RX10 172 RX10 (TX10 13).2.1 (TX10 13).2.2.1 ∈ W0 := iW (tI4 (List.mem_of_getElem? (i := 201) (by decide +kernel))) (by decide +kernel)
theorem g_X10_172 : GOK RX10 172 10 13 := ⟨RX10, TX10, 28, rfl, ul_X10, by decide, fl_X10_172, rfl⟩
theorem p_X10_172 : POK RX10 172 10 13 .int := ⟨RX10, TX10, 28, tyX10, rfl, ul_X10, by decide, fl_X10_172, rfl, tyX10_ok, nmX10, rfl, by decide +kernel⟩
theorem fl_X10_41 : Cond.fieldLink RX10 41 RX10 (TX10 14).2.1 (TX10 14).2.2.1 ∈ W0 := iW (tI4 (List.mem_of_getElem? (i := 202) (by decide +kernel))) (by decide +kernel)
theorem g_X10_41 : GOK RX10 41 10 14 := ⟨RX10, TX10, 28, rfl, ul_X10, by decide, fl_X10_41, rfl⟩
theorem fl_X10_44 : Cond.fieldLink RX10 44 RX10 (TX10 15).2.1 (TX10 15).2.2.1 ∈ W0 := iW (tI4 (List.mem_of_getElem? (i := 203) (by decide +kernel))) (by decide +kernel)
theorem g_X10_44 : GOK RX10 44 10 15 := ⟨RX10, TX10, 28, rfl, ul_X10, by decide, fl_X10_44, rfl⟩
theorem fl_X10_47 : Cond.fieldLink RX10 47 RX10 (TX10 16).2.1 (TX10 16).2.2.1 ∈ W0 := iW (tI4 (List.mem_of_getElem? (i := 204) (by decide +kernel))) (by decide +kernel)
theorem g_X10_47 : GOK RX10 47 10 16 := ⟨RX10, TX10, 28, rfl, ul_X10, by decide, fl_X10_47, rfl⟩
theorem fl_X10_51 : Cond.fieldLink RX10 51 RX10 (TX10 17).2.1 (TX10 17).2.2.1 ∈ W0 := iW (tI4 (List.mem_of_getElem? (i := 205) (by decide +kernel))) (by decide +kernel)
theorem g_X10_51 : GOK RX10 51 10 17 := ⟨RX10, TX10, 28, rfl, ul_X10, by decide, fl_X10_51, rfl⟩
theorem fl_X10_270 : Cond.fieldLink RX10 270 RX10 (TX10 18).2.1 (TX10 18).2.2.1 ∈ W0 := iW (tI4 (List.mem_of_getElem? (i := 206) (by decide +kernel))) (by decide +kernel)
theorem g_X10_270 : GOK RX10 270 10 18 := ⟨RX10, TX10, 28, rfl, ul_X10, by decide, fl_X10_270, rfl⟩
theorem p_X10_270 : POK RX10 270 10 18 .long := ⟨RX10, TX10, 28, tyX10, rfl, ul_X10, by decide, fl_X10_270, rfl, tyX10_ok, nmX10, rfl, by decide +kernel⟩
theorem fl_X10_274 : Cond.fieldLink RX10 274 RX10 (TX10 19).2.1 (TX10 19).2.2.1 ∈ W0 := iW (tI4 (List.mem_of_getElem? (i := 207) (by decide +kernel))) (by decide +kernel)
theorem g_X10_274 : GOK RX10 274 10 19 := ⟨RX10, TX10, 28, rfl, ul_X10, by decide, fl_X10_274, rfl⟩
theorem p_X10_274 : POK RX10 274 10 19 .long := ⟨RX10, TX10, 28, tyX10, rfl, ul_X10, by decide, fl_X10_274, rfl, tyX10_ok, nmX10, rfl, by decide +kernel⟩
theorem fl_X10_54 : Cond.fieldLink RX10 54 RX10 (TX10 20).2.1 (TX10 20).2.2.1 ∈ W0 := iW (tI4 (List.mem_of_getElem? (i := 208) (by decide +kernel))) (by decide +kernel)
theorem g_X10_54 : GOK RX10 54 10 20 := ⟨RX10, TX10, 28, rfl, ul_X10, by decide, fl_X10_54, rfl⟩
theorem fl_X10_290 : Cond.fieldLink RX10 290 RX10 (TX10 21).2.1 (TX10 21).2.2.1 ∈ W0 := iW (tI4 (List.mem_of_getElem? (i := 209) (by decide +kernel))) (by decide +kernel)
theorem g_X10_290 : GOK RX10 290 10 21 := ⟨RX10, TX10, 28, rfl, ul_X10, by decide, fl_X10_290, rfl⟩
theorem p_X10_290 : POK RX10 290 10 21 .int := ⟨RX10, TX10, 28, tyX10, rfl, ul_X10, by decide, fl_X10_290, rfl, tyX10_ok, nmX10, rfl, by decide +kernel⟩
theorem fl_X10_293 : Cond.fieldLink RX10 293 RX10 (TX10 22).2.1 (TX10 22).2.2.1 ∈ W0 := iW (tI4 (List.mem_of_getElem? (i := 210) (by decide +kernel))) (by decide +kernel)
theorem g_X10_293 : GOK RX10 293 10 22 := ⟨RX10, TX10, 28, rfl, ul_X10, by decide, fl_X10_293, rfl⟩
theorem p_X10_293 : POK RX10 293 10 22 .int := ⟨RX10, TX10, 28, tyX10, rfl, ul_X10, by decide, fl_X10_293, rfl, tyX10_ok, nmX10, rfl, by decide +kernel⟩
theorem fl_X10_302 : Cond.fieldLink RX10 302 RX10 (TX10 23).2.1 (TX10 23).2.2.1 ∈ W0 := iW (tI4 (List.mem_of_getElem? (i := 211) (by decide +kernel))) (by decide +kernel)
theorem g_X10_302 : GOK RX10 302 10 23 := ⟨RX10, TX10, 28, rfl, ul_X10, by decide, fl_X10_302, rfl⟩
theorem p_X10_302 : POK RX10 302 10 23 .boolean := ⟨RX10, TX10, 28, tyX10, rfl, ul_X10, by decide, fl_X10_302, rfl, tyX10_ok, nmX10, rfl, by decide +kernel⟩
theorem fl_X10_57 : Cond.fieldLink RX10 57 RX10 (TX10 24).2.1 (TX10 24).2.2.1 ∈ W0 := iW (tI4 (List.mem_of_getElem? (i := 212) (by decide +kernel))) (by decide +kernel)
theorem g_X10_57 : GOK RX10 57 10 24 := ⟨RX10, TX10, 28, rfl, ul_X10, by decide, fl_X10_57, rfl⟩
theorem fl_X10_60 : Cond.fieldLink RX10 60 RX10 (TX10 25).2.1 (TX10 25).2.2.1 ∈ W0 := iW (tI4 (List.mem_of_getElem? (i := 213) (by decide +kernel))) (by decide +kernel)
theorem g_X10_60 : GOK RX10 60 10 25 := ⟨RX10, TX10, 28, rfl, ul_X10, by decide, fl_X10_60, rfl⟩
theorem fl_X10_63 : Cond.fieldLink RX10 63 RX10 (TX10 26).2.1 (TX10 26).2.2.1 ∈ W0 := iW (tI4 (List.mem_of_getElem? (i := 214) (by decide +kernel))) (by decide +kernel)
theorem g_X10_63 : GOK RX10 63 10 26 := ⟨RX10, TX10, 28, rfl, ul_X10, by decide, fl_X10_63, rfl⟩
theorem fl_X10_66 : Cond.fieldLink RX10 66 RX10 (TX10 27).2.1 (TX10 27).2.2.1 ∈ W0 := iW (tI4 (List.mem_of_getElem? (i := 215) (by decide +kernel))) (by decide +kernel)
theorem g_X10_66 : GOK RX10 66 10 27 := ⟨RX10, TX10, 28, rfl, ul_X10, by decide, fl_X10_66, rfl⟩
theorem fl_J0_9 : Cond.fieldLink RJ0 9 RJ0 "value" "[B" ∈ W0 := iW (tI6 (List.mem_of_getElem? (i := 208) (by decide +kernel))) (by decide +kernel)
theorem fl_J0_15 : Cond.fieldLink RJ0 15 RJ0 "coder" "B" ∈ W0 := iW (tI6 (List.mem_of_getElem? (i := 209) (by decide +kernel))) (by decide +kernel)
theorem fln_X8_9 : Cond.fieldLinkNest RX8 9 RX9 "FIRST" "[I" RX9 ∈ Wn := iN (tI1 (List.mem_of_getElem? (i := 33) (by decide +kernel))) (by decide +kernel)
theorem fln_X8_205 : Cond.fieldLinkNest RX8 205 RX9 "MOST" "[I" RX9 ∈ Wn := iN (tI3 (List.mem_of_getElem? (i := 203) (by decide +kernel))) (by decide +kernel)
theorem fln_X6_48 : Cond.fieldLinkNest RX6 48 RX9 "BODIES" "[I" RX9 ∈ Wn := iN (tI4 (List.mem_of_getElem? (i := 85) (by decide +kernel))) (by decide +kernel)
theorem fln_X6_51 : Cond.fieldLinkNest RX6 51 RX9 "KIND_ABOVE" "[I" RX9 ∈ Wn := iN (tI4 (List.mem_of_getElem? (i := 87) (by decide +kernel))) (by decide +kernel)
theorem lk_L_9 : Lk RL 9 yX9_init := Or.inl (iW (tI1 (List.mem_of_getElem? (i := 21) (by decide +kernel))) (by decide +kernel))
theorem lm_X9_1 : Cond.methodLink RX9 1 Lib.objectInit ∈ W0 := iW (tI1 (List.mem_of_getElem? (i := 24) (by decide +kernel))) (by decide +kernel)
theorem lm_X8_3 : Cond.methodLink RX8 3 Lib.objectInit ∈ W0 := iW (tI1 (List.mem_of_getElem? (i := 32) (by decide +kernel))) (by decide +kernel)
theorem lk_X8_13 : Lk RX8 13 ⟨"[I", "clone", "()Ljava/lang/Object;"⟩ := Or.inl (iW (tI1 (List.mem_of_getElem? (i := 35) (by decide +kernel))) (by decide +kernel))
theorem lm_X3_3 : Cond.methodLink RX3 3 Lib.objectInit ∈ W0 := iW (tI1 (List.mem_of_getElem? (i := 47) (by decide +kernel))) (by decide +kernel)
theorem lm_X1_3 : Cond.methodLink RX1 3 Lib.objectInit ∈ W0 := iW (tI1 (List.mem_of_getElem? (i := 82) (by decide +kernel))) (by decide +kernel)
theorem lm_X7_3 : Cond.methodLink RX7 3 Lib.objectInit ∈ W0 := iW (tI1 (List.mem_of_getElem? (i := 111) (by decide +kernel))) (by decide +kernel)
theorem lm_X0_1 : Cond.methodLink RX0 1 Lib.objectInit ∈ W0 := iW (tI1 (List.mem_of_getElem? (i := 130) (by decide +kernel))) (by decide +kernel)
theorem lk_X8_69 : Lk RX8 69 yJ0_length_8abf5 := Or.inl (iW (tI1 (List.mem_of_getElem? (i := 154) (by decide +kernel))) (by decide +kernel))
theorem lk_J0_335 : Lk RJ0 335 yJ0_coder_7d493 := Or.inl (iW (tI1 (List.mem_of_getElem? (i := 158) (by decide +kernel))) (by decide +kernel))
theorem lm_X2_3 : Cond.methodLink RX2 3 Lib.objectInit ∈ W0 := iW (tI1 (List.mem_of_getElem? (i := 212) (by decide +kernel))) (by decide +kernel)
theorem lm_X4_3 : Cond.methodLink RX4 3 Lib.objectInit ∈ W0 := iW (tI2 (List.mem_of_getElem? (i := 3) (by decide +kernel))) (by decide +kernel)
theorem lm_X6_3 : Cond.methodLink RX6 3 Lib.objectInit ∈ W0 := iW (tI2 (List.mem_of_getElem? (i := 27) (by decide +kernel))) (by decide +kernel)
theorem lm_X5_3 : Cond.methodLink RX5 3 Lib.objectInit ∈ W0 := iW (tI2 (List.mem_of_getElem? (i := 54) (by decide +kernel))) (by decide +kernel)
theorem lk_L_13 : Lk RL 13 yX9_floor := Or.inl (iW (tI2 (List.mem_of_getElem? (i := 96) (by decide +kernel))) (by decide +kernel))
theorem lk_X9_58 : Lk RX9 58 yX9_within := Or.inl (iW (tI2 (List.mem_of_getElem? (i := 100) (by decide +kernel))) (by decide +kernel))
theorem lk_X9_62 : Lk RX9 62 yX9_refused := Or.inl (iW (tI2 (List.mem_of_getElem? (i := 103) (by decide +kernel))) (by decide +kernel))
theorem lk_X9_104 : Lk RX9 104 yX9_at := Or.inl (iW (tI2 (List.mem_of_getElem? (i := 107) (by decide +kernel))) (by decide +kernel))
theorem lk_X9_78 : Lk RX9 78 yX9_exchange := Or.inl (iW (tI2 (List.mem_of_getElem? (i := 110) (by decide +kernel))) (by decide +kernel))
theorem lk_L_18 : Lk RL 18 yX9_hold := Or.inl (iW (tI2 (List.mem_of_getElem? (i := 114) (by decide +kernel))) (by decide +kernel))
theorem lk_X9_82 : Lk RX9 82 yX3_mayStand := Or.inl (iW (tI2 (List.mem_of_getElem? (i := 118) (by decide +kernel))) (by decide +kernel))
theorem lk_X9_89 : Lk RX9 89 yX3_add := Or.inl (iW (tI2 (List.mem_of_getElem? (i := 122) (by decide +kernel))) (by decide +kernel))
theorem lm_X3_43 : Cond.methodLink RX3 43 Lib.Math.min.name ∈ W0 := iW (tI2 (List.mem_of_getElem? (i := 127) (by decide +kernel))) (by decide +kernel)
theorem lk_L_23 : Lk RL 23 yX9_holdIs := Or.inl (iW (tI2 (List.mem_of_getElem? (i := 130) (by decide +kernel))) (by decide +kernel))
theorem lk_X9_93 : Lk RX9 93 yX9_isHold := Or.inl (iW (tI2 (List.mem_of_getElem? (i := 134) (by decide +kernel))) (by decide +kernel))
theorem lk_X9_97 : Lk RX9 97 yX8_isAtHand := Or.inl (iW (tI2 (List.mem_of_getElem? (i := 138) (by decide +kernel))) (by decide +kernel))
theorem lk_X8_92 : Lk RX8 92 yX3_distance := Or.inl (iW (tI2 (List.mem_of_getElem? (i := 142) (by decide +kernel))) (by decide +kernel))
theorem lm_X3_53 : Cond.methodLink RX3 53 Lib.Math.abs.name ∈ W0 := iW (tI2 (List.mem_of_getElem? (i := 147) (by decide +kernel))) (by decide +kernel)
theorem lk_X9_100 : Lk RX9 100 yX3_row := Or.inl (iW (tI2 (List.mem_of_getElem? (i := 150) (by decide +kernel))) (by decide +kernel))
theorem lk_L_27 : Lk RL 27 yX9_setHold := Or.inl (iW (tI2 (List.mem_of_getElem? (i := 154) (by decide +kernel))) (by decide +kernel))
theorem lk_L_31 : Lk RL 31 yX9_set := Or.inl (iW (tI2 (List.mem_of_getElem? (i := 158) (by decide +kernel))) (by decide +kernel))
theorem lk_L_35 : Lk RL 35 yX9_is := Or.inl (iW (tI2 (List.mem_of_getElem? (i := 166) (by decide +kernel))) (by decide +kernel))
theorem lk_L_40 : Lk RL 40 yX9_nearest := Or.inl (iW (tI2 (List.mem_of_getElem? (i := 170) (by decide +kernel))) (by decide +kernel))
theorem lk_X9_117 : Lk RX9 117 yX3_nearestTo := Or.inl (iW (tI2 (List.mem_of_getElem? (i := 174) (by decide +kernel))) (by decide +kernel))
theorem lk_X3_57 : Lk RX3 57 yX3_distance := Or.inl (iW (tI2 (List.mem_of_getElem? (i := 178) (by decide +kernel))) (by decide +kernel))
theorem lk_L_45 : Lk RL 45 yX9_going := Or.inl (iW (tI2 (List.mem_of_getElem? (i := 179) (by decide +kernel))) (by decide +kernel))
theorem lk_X9_127 : Lk RX9 127 yX1_add := Or.inl (iW (tI2 (List.mem_of_getElem? (i := 183) (by decide +kernel))) (by decide +kernel))
theorem lm_X1_33 : Cond.methodLink RX1 33 Lib.Math.min.name ∈ W0 := iW (tI2 (List.mem_of_getElem? (i := 188) (by decide +kernel))) (by decide +kernel)
theorem lk_X9_130 : Lk RX9 130 yX8_come := Or.inl (iW (tI2 (List.mem_of_getElem? (i := 189) (by decide +kernel))) (by decide +kernel))
theorem lk_L_49 : Lk RL 49 yX9_goingIs := Or.inl (iW (tI2 (List.mem_of_getElem? (i := 194) (by decide +kernel))) (by decide +kernel))
theorem lk_X9_134 : Lk RX9 134 yX9_isGoing := Or.inl (iW (tI2 (List.mem_of_getElem? (i := 198) (by decide +kernel))) (by decide +kernel))
theorem lk_X9_137 : Lk RX9 137 yX8_gaitOf := Or.inl (iW (tI2 (List.mem_of_getElem? (i := 202) (by decide +kernel))) (by decide +kernel))
theorem lk_X8_115 : Lk RX8 115 yX3_nearestTo := Or.inl (iW (tI2 (List.mem_of_getElem? (i := 206) (by decide +kernel))) (by decide +kernel))
theorem lk_X8_119 : Lk RX8 119 yX8_isAtHand := Or.inl (iW (tI2 (List.mem_of_getElem? (i := 207) (by decide +kernel))) (by decide +kernel))
theorem lk_X8_123 : Lk RX8 123 yX0_become := Or.inl (iW (tI2 (List.mem_of_getElem? (i := 208) (by decide +kernel))) (by decide +kernel))
theorem lm_X9_230 : Cond.methodLink RX9 230 Lib.Math.min.name ∈ W0 := iW (tI2 (List.mem_of_getElem? (i := 215) (by decide +kernel))) (by decide +kernel)
theorem lm_X9_225 : Cond.methodLink RX9 225 Lib.Math.max.name ∈ W0 := iW (tI2 (List.mem_of_getElem? (i := 216) (by decide +kernel))) (by decide +kernel)
theorem lk_X8_126 : Lk RX8 126 yX8_slope := Or.inl (iW (tI2 (List.mem_of_getElem? (i := 219) (by decide +kernel))) (by decide +kernel))
theorem lm_X8_129 : Cond.methodLink RX8 129 Lib.Math.abs.name ∈ W0 := iW (tI2 (List.mem_of_getElem? (i := 223) (by decide +kernel))) (by decide +kernel)
theorem lk_L_53 : Lk RL 53 yX9_as := Or.inl (iW (tI2 (List.mem_of_getElem? (i := 224) (by decide +kernel))) (by decide +kernel))
theorem lk_L_57 : Lk RL 57 yX9_setGoing := Or.inl (iW (tI2 (List.mem_of_getElem? (i := 230) (by decide +kernel))) (by decide +kernel))
theorem lk_L_63 : Lk RL 63 yX9_feed := Or.inl (iW (tI2 (List.mem_of_getElem? (i := 234) (by decide +kernel))) (by decide +kernel))
theorem lk_L_68 : Lk RL 68 yX9_text := Or.inl (iW (tI2 (List.mem_of_getElem? (i := 238) (by decide +kernel))) (by decide +kernel))
theorem lk_X9_177 : Lk RX9 177 yX2_read := Or.inl (iW (tI3 (List.mem_of_getElem? (i := 4) (by decide +kernel))) (by decide +kernel))
theorem lk_X2_46 : Lk RX2 46 yX2_goesOnWith := Or.inl (iW (tI3 (List.mem_of_getElem? (i := 9) (by decide +kernel))) (by decide +kernel))
theorem lk_X2_50 : Lk RX2 50 yX2_endNumber := Or.inl (iW (tI3 (List.mem_of_getElem? (i := 14) (by decide +kernel))) (by decide +kernel))
theorem lk_X2_78 : Lk RX2 78 yX2_endOperand := Or.inl (iW (tI3 (List.mem_of_getElem? (i := 18) (by decide +kernel))) (by decide +kernel))
theorem lk_X2_94 : Lk RX2 94 yX7_add := Or.inl (iW (tI3 (List.mem_of_getElem? (i := 22) (by decide +kernel))) (by decide +kernel))
theorem lk_X2_84 : Lk RX2 84 yX2_settleNots := Or.inl (iW (tI3 (List.mem_of_getElem? (i := 26) (by decide +kernel))) (by decide +kernel))
theorem lk_X2_90 : Lk RX2 90 yX2_top := Or.inl (iW (tI3 (List.mem_of_getElem? (i := 30) (by decide +kernel))) (by decide +kernel))
theorem lk_X2_61 : Lk RX2 61 yX2_closes := Or.inl (iW (tI3 (List.mem_of_getElem? (i := 34) (by decide +kernel))) (by decide +kernel))
theorem lk_X2_53 : Lk RX2 53 yX2_settle := Or.inl (iW (tI3 (List.mem_of_getElem? (i := 38) (by decide +kernel))) (by decide +kernel))
theorem lk_X2_87 : Lk RX2 87 yX2_rankOf := Or.inl (iW (tI3 (List.mem_of_getElem? (i := 42) (by decide +kernel))) (by decide +kernel))
theorem lk_X2_65 : Lk RX2 65 yX2_joins := Or.inl (iW (tI3 (List.mem_of_getElem? (i := 45) (by decide +kernel))) (by decide +kernel))
theorem lk_X2_81 : Lk RX2 81 yX2_push := Or.inl (iW (tI3 (List.mem_of_getElem? (i := 49) (by decide +kernel))) (by decide +kernel))
theorem lm_X2_101 : Cond.methodLink RX2 101 Lib.Math.min.name ∈ W0 := iW (tI3 (List.mem_of_getElem? (i := 54) (by decide +kernel))) (by decide +kernel)
theorem lk_X2_69 : Lk RX2 69 yX2_opens := Or.inl (iW (tI3 (List.mem_of_getElem? (i := 55) (by decide +kernel))) (by decide +kernel))
theorem lk_X2_72 : Lk RX2 72 yJ0_indexOf_0f7a4 := Or.inl (iW (tI3 (List.mem_of_getElem? (i := 59) (by decide +kernel))) (by decide +kernel))
theorem lk_J0_633 : Lk RJ0 633 yJ0_indexOf_7cf53 := Or.inl (iW (tI3 (List.mem_of_getElem? (i := 63) (by decide +kernel))) (by decide +kernel))
theorem lk_J0_492 : Lk RJ0 492 yJ0_isLatin1_aae02 := Or.inl (iW (tI3 (List.mem_of_getElem? (i := 67) (by decide +kernel))) (by decide +kernel))
theorem lk_J0_505 : Lk RJ0 505 yJ0_length_8abf5 := Or.inl (iW (tI3 (List.mem_of_getElem? (i := 71) (by decide +kernel))) (by decide +kernel))
theorem lk_J0_637 : Lk RJ0 637 yJ1_indexOf_4cfef := Or.inl (iW (tI3 (List.mem_of_getElem? (i := 72) (by decide +kernel))) (by decide +kernel))
theorem lk_J1_88 : Lk RJ1 88 yJ1_canEncode_9a6ad := Or.inl (iW (tI3 (List.mem_of_getElem? (i := 75) (by decide +kernel))) (by decide +kernel))
theorem lm_J1_92 : Cond.methodLink RJ1 92 Lib.Math.max.name ∈ W0 := iW (tI3 (List.mem_of_getElem? (i := 78) (by decide +kernel))) (by decide +kernel)
theorem lm_J1_38 : Cond.methodLink RJ1 38 Lib.Math.min.name ∈ W0 := iW (tI3 (List.mem_of_getElem? (i := 79) (by decide +kernel))) (by decide +kernel)
theorem lk_J1_95 : Lk RJ1 95 yJ1_indexOfChar_4cfef := Or.inl (iW (tI3 (List.mem_of_getElem? (i := 80) (by decide +kernel))) (by decide +kernel))
theorem lk_J0_640 : Lk RJ0 640 yJ2_indexOf_4cfef := Or.inl (iW (tI3 (List.mem_of_getElem? (i := 83) (by decide +kernel))) (by decide +kernel))
theorem lm_J2_224 : Cond.methodLink RJ2 224 Lib.Math.max.name ∈ W0 := iW (tI3 (List.mem_of_getElem? (i := 86) (by decide +kernel))) (by decide +kernel)
theorem lm_J2_183 : Cond.methodLink RJ2 183 Lib.Math.min.name ∈ W0 := iW (tI3 (List.mem_of_getElem? (i := 87) (by decide +kernel))) (by decide +kernel)
theorem lk_J2_228 : Lk RJ2 228 yJ2_indexOfChar_4cfef := Or.inl (iW (tI3 (List.mem_of_getElem? (i := 89) (by decide +kernel))) (by decide +kernel))
theorem lk_J2_96 : Lk RJ2 96 yJ2_checkBoundsBeginEnd_d044e := Or.inl (iW (tI3 (List.mem_of_getElem? (i := 92) (by decide +kernel))) (by decide +kernel))
theorem lk_J2_48 : Lk RJ2 48 yJ2_length_9d52b := Or.inl (iW (tI3 (List.mem_of_getElem? (i := 95) (by decide +kernel))) (by decide +kernel))
theorem lk_J2_241 : Lk RJ2 241 yJ0_checkBoundsBeginEnd_23922 := Or.inl (iW (tI3 (List.mem_of_getElem? (i := 98) (by decide +kernel))) (by decide +kernel))
theorem lk_J0_1062 : Lk RJ0 1062 yJ3_checkFromToIndex_8c36e := Or.inl (iW (tI3 (List.mem_of_getElem? (i := 103) (by decide +kernel))) (by decide +kernel))
theorem lk_J2_244 : Lk RJ2 244 yJ2_indexOfCharUnsafe_4cfef := Or.inl (iW (tI3 (List.mem_of_getElem? (i := 106) (by decide +kernel))) (by decide +kernel))
theorem lk_J2_71 : Lk RJ2 71 yJ2_getChar_3b067 := Or.inl (iW (tI3 (List.mem_of_getElem? (i := 109) (by decide +kernel))) (by decide +kernel))
theorem lk_J2_232 : Lk RJ2 232 yJ2_indexOfSupplementary_4cfef := Or.inl (iW (tI3 (List.mem_of_getElem? (i := 118) (by decide +kernel))) (by decide +kernel))
theorem lk_J2_164 : Lk RJ2 164 yJ11_isValidCodePoint_9a6ad := Or.inl (iW (tI3 (List.mem_of_getElem? (i := 121) (by decide +kernel))) (by decide +kernel))
theorem lk_J2_157 : Lk RJ2 157 yJ11_highSurrogate_5068e := Or.inl (iW (tI3 (List.mem_of_getElem? (i := 124) (by decide +kernel))) (by decide +kernel))
theorem lk_J2_161 : Lk RJ2 161 yJ11_lowSurrogate_5068e := Or.inl (iW (tI3 (List.mem_of_getElem? (i := 128) (by decide +kernel))) (by decide +kernel))
theorem lk_X9_181 : Lk RX9 181 yX8_textOf := Or.inl (iW (tI3 (List.mem_of_getElem? (i := 132) (by decide +kernel))) (by decide +kernel))
theorem lk_X9_189 : Lk RX9 189 yX7_become := Or.inl (iW (tI3 (List.mem_of_getElem? (i := 136) (by decide +kernel))) (by decide +kernel))
theorem lm_X9_277 : Cond.methodLink RX9 277 arraycopyName ∈ W0 := iW (tI3 (List.mem_of_getElem? (i := 143) (by decide +kernel))) (by decide +kernel)
theorem lk_L_72 : Lk RL 72 yX9_untell := Or.inl (iW (tI3 (List.mem_of_getElem? (i := 146) (by decide +kernel))) (by decide +kernel))
theorem lk_L_76 : Lk RL 76 yX9_tenths := Or.inl (iW (tI3 (List.mem_of_getElem? (i := 150) (by decide +kernel))) (by decide +kernel))
theorem lk_X9_198 : Lk RX9 198 yX8_pass := Or.inl (iW (tI3 (List.mem_of_getElem? (i := 154) (by decide +kernel))) (by decide +kernel))
theorem lk_X8_134 : Lk RX8 134 yX8_passTenth := Or.inl (iW (tI3 (List.mem_of_getElem? (i := 158) (by decide +kernel))) (by decide +kernel))
theorem lk_X8_137 : Lk RX8 137 yX8_gaitOf := Or.inl (iW (tI3 (List.mem_of_getElem? (i := 162) (by decide +kernel))) (by decide +kernel))
theorem lk_X8_144 : Lk RX8 144 yX8_draw := Or.inl (iW (tI3 (List.mem_of_getElem? (i := 163) (by decide +kernel))) (by decide +kernel))
theorem lm_X8_173 : Cond.methodLink RX8 173 Lib.Math.max.name ∈ W0 := iW (tI3 (List.mem_of_getElem? (i := 168) (by decide +kernel))) (by decide +kernel)
theorem lk_X8_147 : Lk RX8 147 yX8_leant := Or.inl (iW (tI3 (List.mem_of_getElem? (i := 169) (by decide +kernel))) (by decide +kernel))
theorem lk_X8_154 : Lk RX8 154 yX8_fall := Or.inl (iW (tI3 (List.mem_of_getElem? (i := 174) (by decide +kernel))) (by decide +kernel))
theorem lk_X8_192 : Lk RX8 192 yX8_gain := Or.inl (iW (tI3 (List.mem_of_getElem? (i := 179) (by decide +kernel))) (by decide +kernel))
theorem lm_X8_185 : Cond.methodLink RX8 185 Lib.Math.min.name ∈ W0 := iW (tI3 (List.mem_of_getElem? (i := 183) (by decide +kernel))) (by decide +kernel)
theorem lk_X8_202 : Lk RX8 202 yX8_learns := Or.inl (iW (tI3 (List.mem_of_getElem? (i := 185) (by decide +kernel))) (by decide +kernel))
theorem lk_X8_218 : Lk RX8 218 yX8_name := Or.inl (iW (tI3 (List.mem_of_getElem? (i := 189) (by decide +kernel))) (by decide +kernel))
theorem lk_X8_222 : Lk RX8 222 yX7_worth := Or.inl (iW (tI3 (List.mem_of_getElem? (i := 193) (by decide +kernel))) (by decide +kernel))
theorem lk_X7_34 : Lk RX7 34 yX7_joined := Or.inl (iW (tI3 (List.mem_of_getElem? (i := 199) (by decide +kernel))) (by decide +kernel))
theorem lk_X8_157 : Lk RX8 157 yX8_isStep := Or.inl (iW (tI3 (List.mem_of_getElem? (i := 204) (by decide +kernel))) (by decide +kernel))
theorem lk_X8_161 : Lk RX8 161 yX8_caught := Or.inl (iW (tI3 (List.mem_of_getElem? (i := 208) (by decide +kernel))) (by decide +kernel))
theorem lk_X8_165 : Lk RX8 165 yX8_stepOn := Or.inl (iW (tI3 (List.mem_of_getElem? (i := 212) (by decide +kernel))) (by decide +kernel))
theorem lk_X8_169 : Lk RX8 169 yX8_goOn := Or.inl (iW (tI3 (List.mem_of_getElem? (i := 216) (by decide +kernel))) (by decide +kernel))
theorem lk_X8_212 : Lk RX8 212 yX8_come := Or.inl (iW (tI3 (List.mem_of_getElem? (i := 220) (by decide +kernel))) (by decide +kernel))
theorem lk_L_80 : Lk RL 80 yX9_days := Or.inl (iW (tI3 (List.mem_of_getElem? (i := 221) (by decide +kernel))) (by decide +kernel))
theorem lk_X9_201 : Lk RX9 201 yX8_passDay := Or.inl (iW (tI3 (List.mem_of_getElem? (i := 225) (by decide +kernel))) (by decide +kernel))
theorem lk_L_84 : Lk RL 84 yX9_seed := Or.inl (iW (tI3 (List.mem_of_getElem? (i := 229) (by decide +kernel))) (by decide +kernel))
theorem lk_L_88 : Lk RL 88 yX9_then := Or.inl (iW (tI3 (List.mem_of_getElem? (i := 233) (by decide +kernel))) (by decide +kernel))
theorem lk_X9_204 : Lk RX9 204 yX8_become := Or.inl (iW (tI3 (List.mem_of_getElem? (i := 237) (by decide +kernel))) (by decide +kernel))
theorem lk_X8_82 : Lk RX8 82 yX3_become := Or.inl (iW (tI4 (List.mem_of_getElem? (i := 2) (by decide +kernel))) (by decide +kernel))
theorem lk_X8_86 : Lk RX8 86 yX1_become := Or.inl (iW (tI4 (List.mem_of_getElem? (i := 7) (by decide +kernel))) (by decide +kernel))
theorem lk_X8_89 : Lk RX8 89 yX7_become := Or.inl (iW (tI4 (List.mem_of_getElem? (i := 12) (by decide +kernel))) (by decide +kernel))
theorem lk_L_92 : Lk RL 92 yX9_ways := Or.inl (iW (tI4 (List.mem_of_getElem? (i := 13) (by decide +kernel))) (by decide +kernel))
theorem lk_X9_207 : Lk RX9 207 yX4_follow := Or.inl (iW (tI4 (List.mem_of_getElem? (i := 17) (by decide +kernel))) (by decide +kernel))
theorem lk_X4_25 : Lk RX4 25 yX4_clear := Or.inl (iW (tI4 (List.mem_of_getElem? (i := 21) (by decide +kernel))) (by decide +kernel))
theorem lk_X4_35 : Lk RX4 35 yX4_bring := Or.inl (iW (tI4 (List.mem_of_getElem? (i := 24) (by decide +kernel))) (by decide +kernel))
theorem lk_X4_39 : Lk RX4 39 yX8_gaitOf := Or.inl (iW (tI4 (List.mem_of_getElem? (i := 27) (by decide +kernel))) (by decide +kernel))
theorem lk_X4_43 : Lk RX4 43 yX8_isStep := Or.inl (iW (tI4 (List.mem_of_getElem? (i := 28) (by decide +kernel))) (by decide +kernel))
theorem lk_X4_53 : Lk RX4 53 yX4_spread := Or.inl (iW (tI4 (List.mem_of_getElem? (i := 29) (by decide +kernel))) (by decide +kernel))
theorem lk_X4_70 : Lk RX4 70 yX8_leant := Or.inl (iW (tI4 (List.mem_of_getElem? (i := 33) (by decide +kernel))) (by decide +kernel))
theorem lk_X4_78 : Lk RX4 78 yX8_caught := Or.inl (iW (tI4 (List.mem_of_getElem? (i := 35) (by decide +kernel))) (by decide +kernel))
theorem lm_X4_57 : Cond.methodLink RX4 57 arraycopyName ∈ W0 := iW (tI4 (List.mem_of_getElem? (i := 36) (by decide +kernel))) (by decide +kernel)
theorem lk_X4_63 : Lk RX4 63 yX8_stepOn := Or.inl (iW (tI4 (List.mem_of_getElem? (i := 37) (by decide +kernel))) (by decide +kernel))
theorem lk_X4_67 : Lk RX4 67 yX8_goOn := Or.inl (iW (tI4 (List.mem_of_getElem? (i := 38) (by decide +kernel))) (by decide +kernel))
theorem lk_X9_218 : Lk RX9 218 yX4_lowest := Or.inl (iW (tI4 (List.mem_of_getElem? (i := 39) (by decide +kernel))) (by decide +kernel))
theorem lk_L_97 : Lk RL 97 yX9_way := Or.inl (iW (tI4 (List.mem_of_getElem? (i := 43) (by decide +kernel))) (by decide +kernel))
theorem lk_X9_233 : Lk RX9 233 yX3_nextCell := Or.inl (iW (tI4 (List.mem_of_getElem? (i := 47) (by decide +kernel))) (by decide +kernel))
theorem lk_X9_236 : Lk RX9 236 yX8_dares := Or.inl (iW (tI4 (List.mem_of_getElem? (i := 51) (by decide +kernel))) (by decide +kernel))
theorem lk_L_101 : Lk RL 101 yX9_gaps := Or.inl (iW (tI4 (List.mem_of_getElem? (i := 55) (by decide +kernel))) (by decide +kernel))
theorem lk_L_105 : Lk RL 105 yX9_pad := Or.inl (iW (tI4 (List.mem_of_getElem? (i := 59) (by decide +kernel))) (by decide +kernel))
theorem lk_L_109 : Lk RL 109 yX9_stand := Or.inl (iW (tI4 (List.mem_of_getElem? (i := 64) (by decide +kernel))) (by decide +kernel))
theorem lk_L_113 : Lk RL 113 yX9_go := Or.inl (iW (tI4 (List.mem_of_getElem? (i := 68) (by decide +kernel))) (by decide +kernel))
theorem lk_L_117 : Lk RL 117 yX9_voice := Or.inl (iW (tI4 (List.mem_of_getElem? (i := 73) (by decide +kernel))) (by decide +kernel))
theorem lk_X9_246 : Lk RX9 246 yX6_answer := Or.inl (iW (tI4 (List.mem_of_getElem? (i := 77) (by decide +kernel))) (by decide +kernel))
theorem lk_X6_44 : Lk RX6 44 yX6_say := Or.inl (iW (tI4 (List.mem_of_getElem? (i := 82) (by decide +kernel))) (by decide +kernel))
theorem lk_X6_54 : Lk RX6 54 yX6_begin := Or.inl (iW (tI4 (List.mem_of_getElem? (i := 88) (by decide +kernel))) (by decide +kernel))
theorem lk_X6_58 : Lk RX6 58 yX6_divided := Or.inl (iW (tI4 (List.mem_of_getElem? (i := 93) (by decide +kernel))) (by decide +kernel))
theorem lk_L_121 : Lk RL 121 yX9_body := Or.inl (iW (tI4 (List.mem_of_getElem? (i := 97) (by decide +kernel))) (by decide +kernel))
theorem lk_L_125 : Lk RL 125 yX9_sheet := Or.inl (iW (tI4 (List.mem_of_getElem? (i := 101) (by decide +kernel))) (by decide +kernel))
theorem lk_X9_258 : Lk RX9 258 yX9_sheetAt := Or.inl (iW (tI4 (List.mem_of_getElem? (i := 105) (by decide +kernel))) (by decide +kernel))
theorem lk_X9_262 : Lk RX9 262 yX5_begin := Or.inl (iW (tI4 (List.mem_of_getElem? (i := 109) (by decide +kernel))) (by decide +kernel))
theorem lk_L_129 : Lk RL 129 yX9_put := Or.inl (iW (tI4 (List.mem_of_getElem? (i := 114) (by decide +kernel))) (by decide +kernel))
theorem lk_X9_271 : Lk RX9 271 yX5_lowestBits := Or.inl (iW (tI4 (List.mem_of_getElem? (i := 118) (by decide +kernel))) (by decide +kernel))
theorem lk_L_133 : Lk RL 133 yX9_move := Or.inl (iW (tI4 (List.mem_of_getElem? (i := 122) (by decide +kernel))) (by decide +kernel))
theorem lk_X9_274 : Lk RX9 274 yX5_has := Or.inl (iW (tI4 (List.mem_of_getElem? (i := 126) (by decide +kernel))) (by decide +kernel))
theorem lk_L_138 : Lk RL 138 yX9_holds := Or.inl (iW (tI4 (List.mem_of_getElem? (i := 130) (by decide +kernel))) (by decide +kernel))
theorem lk_L_142 : Lk RL 142 yX9_off := Or.inl (iW (tI4 (List.mem_of_getElem? (i := 134) (by decide +kernel))) (by decide +kernel))
theorem lk_X9_283 : Lk RX9 283 yX9_offAhead := Or.inl (iW (tI4 (List.mem_of_getElem? (i := 138) (by decide +kernel))) (by decide +kernel))
theorem lk_X9_293 : Lk RX9 293 yX8_passTenth := Or.inl (iW (tI4 (List.mem_of_getElem? (i := 142) (by decide +kernel))) (by decide +kernel))
theorem lm_X9_297 : Cond.methodLink RX9 297 Lib.MathLoose.abs_long.x ∈ W0 := iW (tI4 (List.mem_of_getElem? (i := 143) (by decide +kernel))) (by decide +kernel)
theorem lm_X9_302 : Cond.methodLink RX9 302 Lib.MathLoose.min_long.x ∈ W0 := iW (tI4 (List.mem_of_getElem? (i := 147) (by decide +kernel))) (by decide +kernel)
theorem lk_L_146 : Lk RL 146 yX9_guess := Or.inl (iW (tI4 (List.mem_of_getElem? (i := 150) (by decide +kernel))) (by decide +kernel))
theorem lk_L_150 : Lk RL 150 yX9_image := Or.inl (iW (tI4 (List.mem_of_getElem? (i := 154) (by decide +kernel))) (by decide +kernel))
theorem lk_L_154 : Lk RL 154 yX9_restore := Or.inl (iW (tI4 (List.mem_of_getElem? (i := 158) (by decide +kernel))) (by decide +kernel))
theorem lk_L_158 : Lk RL 158 yX9_tell := Or.inl (iW (tI4 (List.mem_of_getElem? (i := 162) (by decide +kernel))) (by decide +kernel))
theorem lk_L_162 : Lk RL 162 yX9_check := Or.inl (iW (tI4 (List.mem_of_getElem? (i := 166) (by decide +kernel))) (by decide +kernel))
theorem lk_L_166 : Lk RL 166 yX9_count := Or.inl (iW (tI4 (List.mem_of_getElem? (i := 170) (by decide +kernel))) (by decide +kernel))
theorem lk_L_170 : Lk RL 170 yX9_told := Or.inl (iW (tI4 (List.mem_of_getElem? (i := 174) (by decide +kernel))) (by decide +kernel))
theorem lk_L_12 : Lk RL 12 yX10_init := Or.inl (iW (tI4 (List.mem_of_getElem? (i := 180) (by decide +kernel))) (by decide +kernel))
theorem lm_X10_3 : Cond.methodLink RX10 3 Lib.objectInit ∈ W0 := iW (tI4 (List.mem_of_getElem? (i := 183) (by decide +kernel))) (by decide +kernel)
theorem lk_L_17 : Lk RL 17 yX10_floor := Or.inl (iW (tI5 (List.mem_of_getElem? (i := 33) (by decide +kernel))) (by decide +kernel))
theorem lk_X10_79 : Lk RX10 79 yX10_within := Or.inl (iW (tI5 (List.mem_of_getElem? (i := 37) (by decide +kernel))) (by decide +kernel))
theorem lk_X10_88 : Lk RX10 88 yX10_become := Or.inl (iW (tI5 (List.mem_of_getElem? (i := 40) (by decide +kernel))) (by decide +kernel))
theorem lk_X10_92 : Lk RX10 92 yX10_finding := Or.inl (iW (tI5 (List.mem_of_getElem? (i := 45) (by decide +kernel))) (by decide +kernel))
theorem lk_L_22 : Lk RL 22 yX10_hold := Or.inl (iW (tI5 (List.mem_of_getElem? (i := 50) (by decide +kernel))) (by decide +kernel))
theorem lk_X10_96 : Lk RX10 96 yX10_isAsTold := Or.inl (iW (tI5 (List.mem_of_getElem? (i := 54) (by decide +kernel))) (by decide +kernel))
theorem lk_X10_101 : Lk RX10 101 yX10_stands := Or.inl (iW (tI5 (List.mem_of_getElem? (i := 58) (by decide +kernel))) (by decide +kernel))
theorem lk_L_26 : Lk RL 26 yX10_holdIs := Or.inl (iW (tI5 (List.mem_of_getElem? (i := 62) (by decide +kernel))) (by decide +kernel))
theorem lk_X10_113 : Lk RX10 113 yX10_isOf := Or.inl (iW (tI5 (List.mem_of_getElem? (i := 66) (by decide +kernel))) (by decide +kernel))
theorem lk_X10_104 : Lk RX10 104 yX10_holdOf := Or.inl (iW (tI5 (List.mem_of_getElem? (i := 70) (by decide +kernel))) (by decide +kernel))
theorem lk_X10_116 : Lk RX10 116 yX10_isAtHand := Or.inl (iW (tI5 (List.mem_of_getElem? (i := 74) (by decide +kernel))) (by decide +kernel))
theorem lk_X10_110 : Lk RX10 110 yX10_distance := Or.inl (iW (tI5 (List.mem_of_getElem? (i := 78) (by decide +kernel))) (by decide +kernel))
theorem lm_X10_107 : Cond.methodLink RX10 107 Lib.Math.abs.name ∈ W0 := iW (tI5 (List.mem_of_getElem? (i := 82) (by decide +kernel))) (by decide +kernel)
theorem lk_L_30 : Lk RL 30 yX10_setHold := Or.inl (iW (tI5 (List.mem_of_getElem? (i := 83) (by decide +kernel))) (by decide +kernel))
theorem lk_L_34 : Lk RL 34 yX10_set := Or.inl (iW (tI5 (List.mem_of_getElem? (i := 87) (by decide +kernel))) (by decide +kernel))
theorem lk_L_39 : Lk RL 39 yX10_is := Or.inl (iW (tI5 (List.mem_of_getElem? (i := 91) (by decide +kernel))) (by decide +kernel))
theorem lk_L_44 : Lk RL 44 yX10_nearest := Or.inl (iW (tI5 (List.mem_of_getElem? (i := 95) (by decide +kernel))) (by decide +kernel))
theorem lk_X10_120 : Lk RX10 120 yX10_nearestOf := Or.inl (iW (tI5 (List.mem_of_getElem? (i := 99) (by decide +kernel))) (by decide +kernel))
theorem lk_L_48 : Lk RL 48 yX10_going := Or.inl (iW (tI5 (List.mem_of_getElem? (i := 104) (by decide +kernel))) (by decide +kernel))
theorem lk_X10_128 : Lk RX10 128 yX10_comesNow := Or.inl (iW (tI5 (List.mem_of_getElem? (i := 108) (by decide +kernel))) (by decide +kernel))
theorem lk_X10_125 : Lk RX10 125 yX10_goingOf := Or.inl (iW (tI5 (List.mem_of_getElem? (i := 112) (by decide +kernel))) (by decide +kernel))
theorem lk_L_52 : Lk RL 52 yX10_goingIs := Or.inl (iW (tI5 (List.mem_of_getElem? (i := 116) (by decide +kernel))) (by decide +kernel))
theorem lk_X10_143 : Lk RX10 143 yX10_swaysOf := Or.inl (iW (tI5 (List.mem_of_getElem? (i := 120) (by decide +kernel))) (by decide +kernel))
theorem lk_X10_132 : Lk RX10 132 yX10_hasAtHand := Or.inl (iW (tI5 (List.mem_of_getElem? (i := 124) (by decide +kernel))) (by decide +kernel))
theorem lk_X10_136 : Lk RX10 136 yX10_held := Or.inl (iW (tI5 (List.mem_of_getElem? (i := 128) (by decide +kernel))) (by decide +kernel))
theorem lm_X10_70 : Cond.methodLink RX10 70 Lib.Math.min.name ∈ W0 := iW (tI5 (List.mem_of_getElem? (i := 131) (by decide +kernel))) (by decide +kernel)
theorem lm_X10_76 : Cond.methodLink RX10 76 Lib.Math.max.name ∈ W0 := iW (tI5 (List.mem_of_getElem? (i := 132) (by decide +kernel))) (by decide +kernel)
theorem lk_X10_146 : Lk RX10 146 yX10_strideOf := Or.inl (iW (tI5 (List.mem_of_getElem? (i := 133) (by decide +kernel))) (by decide +kernel))
theorem lk_X10_149 : Lk RX10 149 yX10_paceOf := Or.inl (iW (tI5 (List.mem_of_getElem? (i := 137) (by decide +kernel))) (by decide +kernel))
theorem lk_X10_152 : Lk RX10 152 yX10_catchOf := Or.inl (iW (tI5 (List.mem_of_getElem? (i := 141) (by decide +kernel))) (by decide +kernel))
theorem lk_X10_140 : Lk RX10 140 yX10_slope := Or.inl (iW (tI5 (List.mem_of_getElem? (i := 145) (by decide +kernel))) (by decide +kernel))
theorem lk_L_56 : Lk RL 56 yX10_as := Or.inl (iW (tI5 (List.mem_of_getElem? (i := 149) (by decide +kernel))) (by decide +kernel))
theorem lk_X10_155 : Lk RX10 155 yX10_above := Or.inl (iW (tI5 (List.mem_of_getElem? (i := 153) (by decide +kernel))) (by decide +kernel))
theorem lk_L_60 : Lk RL 60 yX10_setGoing := Or.inl (iW (tI5 (List.mem_of_getElem? (i := 157) (by decide +kernel))) (by decide +kernel))
theorem lk_L_67 : Lk RL 67 yX10_feed := Or.inl (iW (tI5 (List.mem_of_getElem? (i := 161) (by decide +kernel))) (by decide +kernel))
theorem lk_L_71 : Lk RL 71 yX10_text := Or.inl (iW (tI5 (List.mem_of_getElem? (i := 166) (by decide +kernel))) (by decide +kernel))
theorem lk_X10_209 : Lk RX10 209 yX10_either := Or.inl (iW (tI5 (List.mem_of_getElem? (i := 170) (by decide +kernel))) (by decide +kernel))
theorem lk_X10_175 : Lk RX10 175 yX10_both := Or.inl (iW (tI5 (List.mem_of_getElem? (i := 174) (by decide +kernel))) (by decide +kernel))
theorem lk_X10_184 : Lk RX10 184 yX10_compared := Or.inl (iW (tI5 (List.mem_of_getElem? (i := 178) (by decide +kernel))) (by decide +kernel))
theorem lk_X10_187 : Lk RX10 187 yX10_sum := Or.inl (iW (tI5 (List.mem_of_getElem? (i := 182) (by decide +kernel))) (by decide +kernel))
theorem lk_X10_190 : Lk RX10 190 yX10_product := Or.inl (iW (tI5 (List.mem_of_getElem? (i := 186) (by decide +kernel))) (by decide +kernel))
theorem lk_X10_193 : Lk RX10 193 yX10_one := Or.inl (iW (tI5 (List.mem_of_getElem? (i := 190) (by decide +kernel))) (by decide +kernel))
theorem lk_X10_169 : Lk RX10 169 yX10_here := Or.inl (iW (tI5 (List.mem_of_getElem? (i := 194) (by decide +kernel))) (by decide +kernel))
theorem lk_X10_181 : Lk RX10 181 yX10_codes := Or.inl (iW (tI5 (List.mem_of_getElem? (i := 198) (by decide +kernel))) (by decide +kernel))
theorem lk_X10_178 : Lk RX10 178 yX10_takes := Or.inl (iW (tI5 (List.mem_of_getElem? (i := 202) (by decide +kernel))) (by decide +kernel))
theorem lk_X10_212 : Lk RX10 212 yX10_nameOf := Or.inl (iW (tI5 (List.mem_of_getElem? (i := 206) (by decide +kernel))) (by decide +kernel))
theorem lk_X10_199 : Lk RX10 199 yJ0_length_8abf5 := Or.inl (iW (tI5 (List.mem_of_getElem? (i := 210) (by decide +kernel))) (by decide +kernel))
theorem lk_X10_202 : Lk RX10 202 yJ0_charAt_5068e := Or.inl (iW (tI5 (List.mem_of_getElem? (i := 211) (by decide +kernel))) (by decide +kernel))
theorem lk_J0_495 : Lk RJ0 495 yJ1_charAt_3b067 := Or.inl (iW (tI5 (List.mem_of_getElem? (i := 215) (by decide +kernel))) (by decide +kernel))
theorem lk_J1_9 : Lk RJ1 9 yJ0_checkIndex_df160 := Or.inl (iW (tI5 (List.mem_of_getElem? (i := 218) (by decide +kernel))) (by decide +kernel))
theorem lk_J0_1059 : Lk RJ0 1059 yJ3_checkIndex_8e157 := Or.inl (iW (tI5 (List.mem_of_getElem? (i := 221) (by decide +kernel))) (by decide +kernel))
theorem lk_J0_498 : Lk RJ0 498 yJ2_charAt_3b067 := Or.inl (iW (tI5 (List.mem_of_getElem? (i := 224) (by decide +kernel))) (by decide +kernel))
theorem lk_J2_67 : Lk RJ2 67 yJ2_checkIndex_2214a := Or.inl (iW (tI5 (List.mem_of_getElem? (i := 227) (by decide +kernel))) (by decide +kernel))
theorem lk_J2_414 : Lk RJ2 414 yJ0_checkIndex_df160 := Or.inl (iW (tI5 (List.mem_of_getElem? (i := 230) (by decide +kernel))) (by decide +kernel))
theorem lk_L_75 : Lk RL 75 yX10_untell := Or.inl (iW (tI5 (List.mem_of_getElem? (i := 231) (by decide +kernel))) (by decide +kernel))
theorem lk_L_79 : Lk RL 79 yX10_tenths := Or.inl (iW (tI5 (List.mem_of_getElem? (i := 235) (by decide +kernel))) (by decide +kernel))
theorem lk_X10_261 : Lk RX10 261 yX10_tenthsGo := Or.inl (iW (tI6 (List.mem_of_getElem? (i := 0) (by decide +kernel))) (by decide +kernel))
theorem lk_X10_257 : Lk RX10 257 yX10_tenth := Or.inl (iW (tI6 (List.mem_of_getElem? (i := 4) (by decide +kernel))) (by decide +kernel))
theorem lk_X10_236 : Lk RX10 236 yX10_drawn := Or.inl (iW (tI6 (List.mem_of_getElem? (i := 8) (by decide +kernel))) (by decide +kernel))
theorem lk_X10_239 : Lk RX10 239 yX10_isStep := Or.inl (iW (tI6 (List.mem_of_getElem? (i := 13) (by decide +kernel))) (by decide +kernel))
theorem lk_X10_242 : Lk RX10 242 yX10_slip := Or.inl (iW (tI6 (List.mem_of_getElem? (i := 17) (by decide +kernel))) (by decide +kernel))
theorem lk_X10_245 : Lk RX10 245 yX10_nearer := Or.inl (iW (tI6 (List.mem_of_getElem? (i := 21) (by decide +kernel))) (by decide +kernel))
theorem lk_X10_229 : Lk RX10 229 yX10_more := Or.inl (iW (tI6 (List.mem_of_getElem? (i := 24) (by decide +kernel))) (by decide +kernel))
theorem lk_X10_248 : Lk RX10 248 yX10_goesOn := Or.inl (iW (tI6 (List.mem_of_getElem? (i := 29) (by decide +kernel))) (by decide +kernel))
theorem lk_X10_251 : Lk RX10 251 yX10_falls := Or.inl (iW (tI6 (List.mem_of_getElem? (i := 33) (by decide +kernel))) (by decide +kernel))
theorem lk_X10_233 : Lk RX10 233 yX10_learns := Or.inl (iW (tI6 (List.mem_of_getElem? (i := 37) (by decide +kernel))) (by decide +kernel))
theorem lk_X10_221 : Lk RX10 221 yX10_hasText := Or.inl (iW (tI6 (List.mem_of_getElem? (i := 41) (by decide +kernel))) (by decide +kernel))
theorem lk_X10_224 : Lk RX10 224 yX10_given := Or.inl (iW (tI6 (List.mem_of_getElem? (i := 45) (by decide +kernel))) (by decide +kernel))
theorem lk_X10_218 : Lk RX10 218 yX10_worked := Or.inl (iW (tI6 (List.mem_of_getElem? (i := 49) (by decide +kernel))) (by decide +kernel))
theorem lk_X10_215 : Lk RX10 215 yX10_done := Or.inl (iW (tI6 (List.mem_of_getElem? (i := 53) (by decide +kernel))) (by decide +kernel))
theorem lk_X10_254 : Lk RX10 254 yX10_oneLess := Or.inl (iW (tI6 (List.mem_of_getElem? (i := 56) (by decide +kernel))) (by decide +kernel))
theorem lk_L_83 : Lk RL 83 yX10_days := Or.inl (iW (tI6 (List.mem_of_getElem? (i := 60) (by decide +kernel))) (by decide +kernel))
theorem lk_L_87 : Lk RL 87 yX10_seed := Or.inl (iW (tI6 (List.mem_of_getElem? (i := 64) (by decide +kernel))) (by decide +kernel))
theorem lk_L_91 : Lk RL 91 yX10_then := Or.inl (iW (tI6 (List.mem_of_getElem? (i := 68) (by decide +kernel))) (by decide +kernel))
theorem lk_X10_264 : Lk RX10 264 yX10_isAhead := Or.inl (iW (tI6 (List.mem_of_getElem? (i := 72) (by decide +kernel))) (by decide +kernel))
theorem lk_X10_83 : Lk RX10 83 yX10_copy := Or.inl (iW (tI6 (List.mem_of_getElem? (i := 75) (by decide +kernel))) (by decide +kernel))
theorem lk_X10_267 : Lk RX10 267 yX10_putBack := Or.inl (iW (tI6 (List.mem_of_getElem? (i := 78) (by decide +kernel))) (by decide +kernel))
theorem lk_L_96 : Lk RL 96 yX10_ways := Or.inl (iW (tI6 (List.mem_of_getElem? (i := 82) (by decide +kernel))) (by decide +kernel))
theorem lk_X10_281 : Lk RX10 281 yX10_rowsGo := Or.inl (iW (tI6 (List.mem_of_getElem? (i := 86) (by decide +kernel))) (by decide +kernel))
theorem lk_X10_277 : Lk RX10 277 yX10_divisor := Or.inl (iW (tI6 (List.mem_of_getElem? (i := 90) (by decide +kernel))) (by decide +kernel))
theorem lk_L_100 : Lk RL 100 yX10_way := Or.inl (iW (tI6 (List.mem_of_getElem? (i := 93) (by decide +kernel))) (by decide +kernel))
theorem lk_X10_284 : Lk RX10 284 yX10_nextCell := Or.inl (iW (tI6 (List.mem_of_getElem? (i := 97) (by decide +kernel))) (by decide +kernel))
theorem lk_X10_287 : Lk RX10 287 yX10_dares := Or.inl (iW (tI6 (List.mem_of_getElem? (i := 101) (by decide +kernel))) (by decide +kernel))
theorem lk_L_104 : Lk RL 104 yX10_gaps := Or.inl (iW (tI6 (List.mem_of_getElem? (i := 105) (by decide +kernel))) (by decide +kernel))
theorem lk_L_108 : Lk RL 108 yX10_pad := Or.inl (iW (tI6 (List.mem_of_getElem? (i := 109) (by decide +kernel))) (by decide +kernel))
theorem lk_L_112 : Lk RL 112 yX10_stand := Or.inl (iW (tI6 (List.mem_of_getElem? (i := 113) (by decide +kernel))) (by decide +kernel))
theorem lk_L_116 : Lk RL 116 yX10_go := Or.inl (iW (tI6 (List.mem_of_getElem? (i := 117) (by decide +kernel))) (by decide +kernel))
theorem lk_L_120 : Lk RL 120 yX10_voice := Or.inl (iW (tI6 (List.mem_of_getElem? (i := 121) (by decide +kernel))) (by decide +kernel))
theorem lk_X10_311 : Lk RX10 311 yX10_voiced := Or.inl (iW (tI6 (List.mem_of_getElem? (i := 125) (by decide +kernel))) (by decide +kernel))
theorem lk_X10_296 : Lk RX10 296 yX10_bodyFrom := Or.inl (iW (tI6 (List.mem_of_getElem? (i := 129) (by decide +kernel))) (by decide +kernel))
theorem lk_X10_299 : Lk RX10 299 yX10_hasOwn := Or.inl (iW (tI6 (List.mem_of_getElem? (i := 133) (by decide +kernel))) (by decide +kernel))
theorem lk_X10_305 : Lk RX10 305 yX10_body := Or.inl (iW (tI6 (List.mem_of_getElem? (i := 136) (by decide +kernel))) (by decide +kernel))
theorem lk_X10_308 : Lk RX10 308 yX10_began := Or.inl (iW (tI6 (List.mem_of_getElem? (i := 140) (by decide +kernel))) (by decide +kernel))
theorem lk_L_124 : Lk RL 124 yX10_body_ := Or.inl (iW (tI6 (List.mem_of_getElem? (i := 145) (by decide +kernel))) (by decide +kernel))
theorem lk_L_128 : Lk RL 128 yX10_sheet := Or.inl (iW (tI6 (List.mem_of_getElem? (i := 149) (by decide +kernel))) (by decide +kernel))
theorem lk_X10_315 : Lk RX10 315 yX10_isSheet := Or.inl (iW (tI6 (List.mem_of_getElem? (i := 153) (by decide +kernel))) (by decide +kernel))
theorem lk_L_132 : Lk RL 132 yX10_put := Or.inl (iW (tI6 (List.mem_of_getElem? (i := 156) (by decide +kernel))) (by decide +kernel))
theorem lk_L_137 : Lk RL 137 yX10_move := Or.inl (iW (tI6 (List.mem_of_getElem? (i := 160) (by decide +kernel))) (by decide +kernel))
theorem lk_L_141 : Lk RL 141 yX10_holds := Or.inl (iW (tI6 (List.mem_of_getElem? (i := 164) (by decide +kernel))) (by decide +kernel))
theorem lk_L_145 : Lk RL 145 yX10_off := Or.inl (iW (tI6 (List.mem_of_getElem? (i := 168) (by decide +kernel))) (by decide +kernel))
theorem lk_X10_325 : Lk RX10 325 yX10_offOf := Or.inl (iW (tI6 (List.mem_of_getElem? (i := 172) (by decide +kernel))) (by decide +kernel))
theorem lm_X10_318 : Cond.methodLink RX10 318 Lib.MathLoose.abs_long.x ∈ W0 := iW (tI6 (List.mem_of_getElem? (i := 176) (by decide +kernel))) (by decide +kernel)
theorem lm_X10_323 : Cond.methodLink RX10 323 Lib.MathLoose.min_long.x ∈ W0 := iW (tI6 (List.mem_of_getElem? (i := 178) (by decide +kernel))) (by decide +kernel)
theorem lk_L_149 : Lk RL 149 yX10_guess := Or.inl (iW (tI6 (List.mem_of_getElem? (i := 179) (by decide +kernel))) (by decide +kernel))
theorem lk_L_153 : Lk RL 153 yX10_image := Or.inl (iW (tI6 (List.mem_of_getElem? (i := 183) (by decide +kernel))) (by decide +kernel))
theorem lk_L_157 : Lk RL 157 yX10_restore := Or.inl (iW (tI6 (List.mem_of_getElem? (i := 187) (by decide +kernel))) (by decide +kernel))
theorem lk_L_161 : Lk RL 161 yX10_tell := Or.inl (iW (tI6 (List.mem_of_getElem? (i := 191) (by decide +kernel))) (by decide +kernel))
theorem lk_L_165 : Lk RL 165 yX10_check := Or.inl (iW (tI6 (List.mem_of_getElem? (i := 195) (by decide +kernel))) (by decide +kernel))
theorem lk_L_169 : Lk RL 169 yX10_count := Or.inl (iW (tI6 (List.mem_of_getElem? (i := 199) (by decide +kernel))) (by decide +kernel))
theorem lk_L_173 : Lk RL 173 yX10_told := Or.inl (iW (tI6 (List.mem_of_getElem? (i := 203) (by decide +kernel))) (by decide +kernel))
theorem lk_X9_9 : Lk RX9 9 yX8_init := Or.inr ⟨RX9, iN (tI1 (List.mem_of_getElem? (i := 29) (by decide +kernel))) (by decide +kernel)⟩
theorem lk_X8_25 : Lk RX8 25 yX3_init := Or.inr ⟨RX9, iN (tI1 (List.mem_of_getElem? (i := 44) (by decide +kernel))) (by decide +kernel)⟩
theorem lk_X8_32 : Lk RX8 32 yX1_init := Or.inr ⟨RX9, iN (tI1 (List.mem_of_getElem? (i := 79) (by decide +kernel))) (by decide +kernel)⟩
theorem lk_X8_39 : Lk RX8 39 yX7_init := Or.inr ⟨RX9, iN (tI1 (List.mem_of_getElem? (i := 108) (by decide +kernel))) (by decide +kernel)⟩
theorem lk_X8_62 : Lk RX8 62 yX0_init := Or.inr ⟨RX9, iN (tI1 (List.mem_of_getElem? (i := 127) (by decide +kernel))) (by decide +kernel)⟩
theorem lk_X9_24 : Lk RX9 24 yX2_init := Or.inr ⟨RX9, iN (tI1 (List.mem_of_getElem? (i := 209) (by decide +kernel))) (by decide +kernel)⟩
theorem lk_X2_11 : Lk RX2 11 yX7_init := Or.inr ⟨RX9, iN (tI1 (List.mem_of_getElem? (i := 214) (by decide +kernel))) (by decide +kernel)⟩
theorem lk_X9_31 : Lk RX9 31 yX4_init := Or.inr ⟨RX9, iN (tI2 (List.mem_of_getElem? (i := 0) (by decide +kernel))) (by decide +kernel)⟩
theorem lk_X9_48 : Lk RX9 48 yX6_init := Or.inr ⟨RX9, iN (tI2 (List.mem_of_getElem? (i := 24) (by decide +kernel))) (by decide +kernel)⟩
theorem lk_X9_57 : Lk RX9 57 yX5_init := Or.inr ⟨RX9, iN (tI2 (List.mem_of_getElem? (i := 51) (by decide +kernel))) (by decide +kernel)⟩
theorem lk_X3_31 : Lk RX3 31 yX9_within := Or.inr ⟨RX9, iN (tI2 (List.mem_of_getElem? (i := 121) (by decide +kernel))) (by decide +kernel)⟩
theorem lk_X3_39 : Lk RX3 39 yX9_exchange := Or.inr ⟨RX9, iN (tI2 (List.mem_of_getElem? (i := 126) (by decide +kernel))) (by decide +kernel)⟩
theorem lk_X3_49 : Lk RX3 49 yX9_at := Or.inr ⟨RX9, iN (tI2 (List.mem_of_getElem? (i := 146) (by decide +kernel))) (by decide +kernel)⟩
theorem lk_X1_29 : Lk RX1 29 yX9_exchange := Or.inr ⟨RX9, iN (tI2 (List.mem_of_getElem? (i := 187) (by decide +kernel))) (by decide +kernel)⟩
theorem lk_X8_99 : Lk RX8 99 yX9_at := Or.inr ⟨RX9, iN (tI2 (List.mem_of_getElem? (i := 193) (by decide +kernel))) (by decide +kernel)⟩
theorem lk_X0_7 : Lk RX0 7 yX9_held := Or.inr ⟨RX9, iN (tI2 (List.mem_of_getElem? (i := 212) (by decide +kernel))) (by decide +kernel)⟩
theorem lk_X2_42 : Lk RX2 42 yX9_at := Or.inr ⟨RX9, iN (tI3 (List.mem_of_getElem? (i := 8) (by decide +kernel))) (by decide +kernel)⟩
theorem lk_X2_57 : Lk RX2 57 yX9_within := Or.inr ⟨RX9, iN (tI3 (List.mem_of_getElem? (i := 13) (by decide +kernel))) (by decide +kernel)⟩
theorem lk_X2_97 : Lk RX2 97 yX9_exchange := Or.inr ⟨RX9, iN (tI3 (List.mem_of_getElem? (i := 53) (by decide +kernel))) (by decide +kernel)⟩
theorem lk_X7_22 : Lk RX7 22 yX9_copy := Or.inr ⟨RX9, iN (tI3 (List.mem_of_getElem? (i := 140) (by decide +kernel))) (by decide +kernel)⟩
theorem lk_X8_150 : Lk RX8 150 yX9_within := Or.inr ⟨RX9, iN (tI3 (List.mem_of_getElem? (i := 173) (by decide +kernel))) (by decide +kernel)⟩
theorem lk_X8_208 : Lk RX8 208 yX9_exchange := Or.inr ⟨RX9, iN (tI3 (List.mem_of_getElem? (i := 184) (by decide +kernel))) (by decide +kernel)⟩
theorem lk_X7_26 : Lk RX7 26 yX9_at := Or.inr ⟨RX9, iN (tI3 (List.mem_of_getElem? (i := 197) (by decide +kernel))) (by decide +kernel)⟩
theorem lk_X7_30 : Lk RX7 30 yX9_exchange := Or.inr ⟨RX9, iN (tI3 (List.mem_of_getElem? (i := 198) (by decide +kernel))) (by decide +kernel)⟩
theorem lk_X8_226 : Lk RX8 226 yX9_held := Or.inr ⟨RX9, iN (tI3 (List.mem_of_getElem? (i := 202) (by decide +kernel))) (by decide +kernel)⟩
theorem lk_X8_78 : Lk RX8 78 yX9_copy := Or.inr ⟨RX9, iN (tI4 (List.mem_of_getElem? (i := 1) (by decide +kernel))) (by decide +kernel)⟩
theorem lk_X3_35 : Lk RX3 35 yX9_copy := Or.inr ⟨RX9, iN (tI4 (List.mem_of_getElem? (i := 6) (by decide +kernel))) (by decide +kernel)⟩
theorem lk_X1_25 : Lk RX1 25 yX9_copy := Or.inr ⟨RX9, iN (tI4 (List.mem_of_getElem? (i := 11) (by decide +kernel))) (by decide +kernel)⟩
theorem lk_X4_74 : Lk RX4 74 yX9_within := Or.inr ⟨RX9, iN (tI4 (List.mem_of_getElem? (i := 34) (by decide +kernel))) (by decide +kernel)⟩
theorem lk_X6_28 : Lk RX6 28 yX9_at := Or.inr ⟨RX9, iN (tI4 (List.mem_of_getElem? (i := 81) (by decide +kernel))) (by decide +kernel)⟩
theorem lk_X6_62 : Lk RX6 62 yX9_exchange := Or.inr ⟨RX9, iN (tI4 (List.mem_of_getElem? (i := 92) (by decide +kernel))) (by decide +kernel)⟩
theorem lk_X5_22 : Lk RX5 22 yX9_held := Or.inr ⟨RX9, iN (tI4 (List.mem_of_getElem? (i := 113) (by decide +kernel))) (by decide +kernel)⟩
abbrev iX0_init : fMI := (yX0_init, cX0_init, 1, none)
theorem c_X0_init : CalI iX0_init 0 := ⟨iW (tI1 (List.mem_of_getElem? (i := 129) (by decide +kernel))) (by decide +kernel), ini_FirstSteps_Gait, iW (tI1 (List.mem_of_getElem? (i := 128) (by decide +kernel))) (by decide +kernel), rfl, ⟨by decide +kernel, by decide +kernel, by decide +kernel⟩⟩
abbrev iX0_become : fMI := (yX0_become, cX0_become, 5, none)
theorem c_X0_become : CalV iX0_become 4 := ⟨iW (tI2 (List.mem_of_getElem? (i := 211) (by decide +kernel))) (by decide +kernel), ini_FirstSteps_Gait, iW (tI2 (List.mem_of_getElem? (i := 209) (by decide +kernel))) (by decide +kernel), iW (tI2 (List.mem_of_getElem? (i := 210) (by decide +kernel))) (by decide +kernel), ⟨by decide +kernel, by decide +kernel, by decide +kernel⟩⟩
abbrev iX1_init : fMI := (yX1_init, cX1_init, 1, none)
theorem c_X1_init : CalI iX1_init 0 := ⟨iW (tI1 (List.mem_of_getElem? (i := 81) (by decide +kernel))) (by decide +kernel), ini_FirstSteps_Goings, iW (tI1 (List.mem_of_getElem? (i := 80) (by decide +kernel))) (by decide +kernel), rfl, ⟨by decide +kernel, by decide +kernel, by decide +kernel⟩⟩
abbrev iX1_become : fMI := (yX1_become, cX1_become, 2, none)
theorem c_X1_become : CalV iX1_become 1 := ⟨iW (tI4 (List.mem_of_getElem? (i := 10) (by decide +kernel))) (by decide +kernel), ini_FirstSteps_Goings, iW (tI4 (List.mem_of_getElem? (i := 8) (by decide +kernel))) (by decide +kernel), iW (tI4 (List.mem_of_getElem? (i := 9) (by decide +kernel))) (by decide +kernel), ⟨by decide +kernel, by decide +kernel, by decide +kernel⟩⟩
abbrev iX1_add : fMI := (yX1_add, cX1_add, 5, (some .int))
theorem c_X1_add : CalV iX1_add 3 := ⟨iW (tI2 (List.mem_of_getElem? (i := 186) (by decide +kernel))) (by decide +kernel), ini_FirstSteps_Goings, iW (tI2 (List.mem_of_getElem? (i := 184) (by decide +kernel))) (by decide +kernel), iW (tI2 (List.mem_of_getElem? (i := 185) (by decide +kernel))) (by decide +kernel), ⟨by decide +kernel, by decide +kernel, by decide +kernel⟩⟩
abbrev iX2_init : fMI := (yX2_init, cX2_init, 1, none)
theorem c_X2_init : CalI iX2_init 0 := ⟨iW (tI1 (List.mem_of_getElem? (i := 211) (by decide +kernel))) (by decide +kernel), ini_FirstSteps_Reader, iW (tI1 (List.mem_of_getElem? (i := 210) (by decide +kernel))) (by decide +kernel), rfl, ⟨by decide +kernel, by decide +kernel, by decide +kernel⟩⟩
abbrev iX2_read : fMI := (yX2_read, cX2_read, 5, (some .int))
theorem c_X2_read : CalV iX2_read 3 := ⟨iW (tI3 (List.mem_of_getElem? (i := 7) (by decide +kernel))) (by decide +kernel), ini_FirstSteps_Reader, iW (tI3 (List.mem_of_getElem? (i := 5) (by decide +kernel))) (by decide +kernel), iW (tI3 (List.mem_of_getElem? (i := 6) (by decide +kernel))) (by decide +kernel), ⟨by decide +kernel, by decide +kernel, by decide +kernel⟩⟩
abbrev iX2_goesOnWith : fMI := (yX2_goesOnWith, cX2_goesOnWith, 5, (some .boolean))
theorem c_X2_goesOnWith : CalV iX2_goesOnWith 2 := ⟨iW (tI3 (List.mem_of_getElem? (i := 12) (by decide +kernel))) (by decide +kernel), ini_FirstSteps_Reader, iW (tI3 (List.mem_of_getElem? (i := 11) (by decide +kernel))) (by decide +kernel), iW (tIp (q := (yX2_goesOnWith, 7)) (List.mem_of_getElem? (i := 3) (by decide +kernel))) (by decide +kernel), ⟨by decide +kernel, by decide +kernel, by decide +kernel⟩⟩
abbrev iX2_opens : fMI := (yX2_opens, cX2_opens, 2, (some .boolean))
theorem c_X2_opens : CalV iX2_opens 1 := ⟨iW (tI3 (List.mem_of_getElem? (i := 58) (by decide +kernel))) (by decide +kernel), ini_FirstSteps_Reader, iW (tI3 (List.mem_of_getElem? (i := 57) (by decide +kernel))) (by decide +kernel), iW (tIp (q := (yX2_opens, 7)) (List.mem_of_getElem? (i := 12) (by decide +kernel))) (by decide +kernel), ⟨by decide +kernel, by decide +kernel, by decide +kernel⟩⟩
abbrev iX2_closes : fMI := (yX2_closes, cX2_closes, 1, (some .boolean))
theorem c_X2_closes : CalV iX2_closes 0 := ⟨iW (tI3 (List.mem_of_getElem? (i := 37) (by decide +kernel))) (by decide +kernel), ini_FirstSteps_Reader, iW (tI3 (List.mem_of_getElem? (i := 36) (by decide +kernel))) (by decide +kernel), iW (tIp (q := (yX2_closes, 7)) (List.mem_of_getElem? (i := 8) (by decide +kernel))) (by decide +kernel), ⟨by decide +kernel, by decide +kernel, by decide +kernel⟩⟩
abbrev iX2_joins : fMI := (yX2_joins, cX2_joins, 3, (some .boolean))
theorem c_X2_joins : CalV iX2_joins 1 := ⟨iW (tI3 (List.mem_of_getElem? (i := 48) (by decide +kernel))) (by decide +kernel), ini_FirstSteps_Reader, iW (tI3 (List.mem_of_getElem? (i := 47) (by decide +kernel))) (by decide +kernel), iW (tIp (q := (yX2_joins, 7)) (List.mem_of_getElem? (i := 10) (by decide +kernel))) (by decide +kernel), ⟨by decide +kernel, by decide +kernel, by decide +kernel⟩⟩
abbrev iX2_endNumber : fMI := (yX2_endNumber, cX2_endNumber, 1, none)
theorem c_X2_endNumber : CalV iX2_endNumber 0 := ⟨iW (tI3 (List.mem_of_getElem? (i := 17) (by decide +kernel))) (by decide +kernel), ini_FirstSteps_Reader, iW (tI3 (List.mem_of_getElem? (i := 16) (by decide +kernel))) (by decide +kernel), iW (tIp (q := (yX2_endNumber, 7)) (List.mem_of_getElem? (i := 4) (by decide +kernel))) (by decide +kernel), ⟨by decide +kernel, by decide +kernel, by decide +kernel⟩⟩
abbrev iX2_endOperand : fMI := (yX2_endOperand, cX2_endOperand, 2, none)
theorem c_X2_endOperand : CalV iX2_endOperand 1 := ⟨iW (tI3 (List.mem_of_getElem? (i := 21) (by decide +kernel))) (by decide +kernel), ini_FirstSteps_Reader, iW (tI3 (List.mem_of_getElem? (i := 20) (by decide +kernel))) (by decide +kernel), iW (tIp (q := (yX2_endOperand, 7)) (List.mem_of_getElem? (i := 5) (by decide +kernel))) (by decide +kernel), ⟨by decide +kernel, by decide +kernel, by decide +kernel⟩⟩
abbrev iX2_settle : fMI := (yX2_settle, cX2_settle, 2, none)
theorem c_X2_settle : CalV iX2_settle 1 := ⟨iW (tI3 (List.mem_of_getElem? (i := 41) (by decide +kernel))) (by decide +kernel), ini_FirstSteps_Reader, iW (tI3 (List.mem_of_getElem? (i := 40) (by decide +kernel))) (by decide +kernel), iW (tIp (q := (yX2_settle, 7)) (List.mem_of_getElem? (i := 9) (by decide +kernel))) (by decide +kernel), ⟨by decide +kernel, by decide +kernel, by decide +kernel⟩⟩
abbrev iX2_settleNots : fMI := (yX2_settleNots, cX2_settleNots, 1, none)
theorem c_X2_settleNots : CalV iX2_settleNots 0 := ⟨iW (tI3 (List.mem_of_getElem? (i := 29) (by decide +kernel))) (by decide +kernel), ini_FirstSteps_Reader, iW (tI3 (List.mem_of_getElem? (i := 28) (by decide +kernel))) (by decide +kernel), iW (tIp (q := (yX2_settleNots, 7)) (List.mem_of_getElem? (i := 6) (by decide +kernel))) (by decide +kernel), ⟨by decide +kernel, by decide +kernel, by decide +kernel⟩⟩
abbrev iX2_push : fMI := (yX2_push, cX2_push, 2, none)
theorem c_X2_push : CalV iX2_push 1 := ⟨iW (tI3 (List.mem_of_getElem? (i := 52) (by decide +kernel))) (by decide +kernel), ini_FirstSteps_Reader, iW (tI3 (List.mem_of_getElem? (i := 51) (by decide +kernel))) (by decide +kernel), iW (tIp (q := (yX2_push, 7)) (List.mem_of_getElem? (i := 11) (by decide +kernel))) (by decide +kernel), ⟨by decide +kernel, by decide +kernel, by decide +kernel⟩⟩
abbrev iX2_top : fMI := (yX2_top, cX2_top, 1, (some .int))
theorem c_X2_top : CalV iX2_top 0 := ⟨iW (tI3 (List.mem_of_getElem? (i := 33) (by decide +kernel))) (by decide +kernel), ini_FirstSteps_Reader, iW (tI3 (List.mem_of_getElem? (i := 32) (by decide +kernel))) (by decide +kernel), iW (tIp (q := (yX2_top, 7)) (List.mem_of_getElem? (i := 7) (by decide +kernel))) (by decide +kernel), ⟨by decide +kernel, by decide +kernel, by decide +kernel⟩⟩
abbrev iX2_rankOf : fMI := (yX2_rankOf, cX2_rankOf, 1, (some .int))
theorem c_X2_rankOf : CalS iX2_rankOf 1 := ⟨iW (tI3 (List.mem_of_getElem? (i := 44) (by decide +kernel))) (by decide +kernel), ini_FirstSteps_Reader, iW (tI3 (List.mem_of_getElem? (i := 43) (by decide +kernel))) (by decide +kernel), ⟨by decide +kernel, by decide +kernel, by decide +kernel⟩⟩
abbrev iX3_init : fMI := (yX3_init, cX3_init, 1, none)
theorem c_X3_init : CalI iX3_init 0 := ⟨iW (tI1 (List.mem_of_getElem? (i := 46) (by decide +kernel))) (by decide +kernel), ini_FirstSteps_Room, iW (tI1 (List.mem_of_getElem? (i := 45) (by decide +kernel))) (by decide +kernel), rfl, ⟨by decide +kernel, by decide +kernel, by decide +kernel⟩⟩
abbrev iX3_mayStand : fMI := (yX3_mayStand, cX3_mayStand, 2, (some .boolean))
theorem c_X3_mayStand : CalS iX3_mayStand 2 := ⟨iW (tI2 (List.mem_of_getElem? (i := 120) (by decide +kernel))) (by decide +kernel), ini_FirstSteps_Room, iW (tI2 (List.mem_of_getElem? (i := 119) (by decide +kernel))) (by decide +kernel), ⟨by decide +kernel, by decide +kernel, by decide +kernel⟩⟩
abbrev iX3_become : fMI := (yX3_become, cX3_become, 2, none)
theorem c_X3_become : CalV iX3_become 1 := ⟨iW (tI4 (List.mem_of_getElem? (i := 5) (by decide +kernel))) (by decide +kernel), ini_FirstSteps_Room, iW (tI4 (List.mem_of_getElem? (i := 3) (by decide +kernel))) (by decide +kernel), iW (tI4 (List.mem_of_getElem? (i := 4) (by decide +kernel))) (by decide +kernel), ⟨by decide +kernel, by decide +kernel, by decide +kernel⟩⟩
abbrev iX3_add : fMI := (yX3_add, cX3_add, 4, (some .int))
theorem c_X3_add : CalV iX3_add 2 := ⟨iW (tI2 (List.mem_of_getElem? (i := 125) (by decide +kernel))) (by decide +kernel), ini_FirstSteps_Room, iW (tI2 (List.mem_of_getElem? (i := 123) (by decide +kernel))) (by decide +kernel), iW (tI2 (List.mem_of_getElem? (i := 124) (by decide +kernel))) (by decide +kernel), ⟨by decide +kernel, by decide +kernel, by decide +kernel⟩⟩
abbrev iX3_row : fMI := (yX3_row, cX3_row, 2, (some (.array .int)))
theorem c_X3_row : CalV iX3_row 1 := ⟨iW (tI2 (List.mem_of_getElem? (i := 153) (by decide +kernel))) (by decide +kernel), ini_FirstSteps_Room, iW (tI2 (List.mem_of_getElem? (i := 151) (by decide +kernel))) (by decide +kernel), iW (tI2 (List.mem_of_getElem? (i := 152) (by decide +kernel))) (by decide +kernel), ⟨by decide +kernel, by decide +kernel, by decide +kernel⟩⟩
abbrev iX3_distance : fMI := (yX3_distance, cX3_distance, 3, (some .int))
theorem c_X3_distance : CalV iX3_distance 2 := ⟨iW (tI2 (List.mem_of_getElem? (i := 145) (by decide +kernel))) (by decide +kernel), ini_FirstSteps_Room, iW (tI2 (List.mem_of_getElem? (i := 143) (by decide +kernel))) (by decide +kernel), iW (tI2 (List.mem_of_getElem? (i := 144) (by decide +kernel))) (by decide +kernel), ⟨by decide +kernel, by decide +kernel, by decide +kernel⟩⟩
abbrev iX3_nearestTo : fMI := (yX3_nearestTo, cX3_nearestTo, 5, (some .int))
theorem c_X3_nearestTo : CalV iX3_nearestTo 1 := ⟨iW (tI2 (List.mem_of_getElem? (i := 177) (by decide +kernel))) (by decide +kernel), ini_FirstSteps_Room, iW (tI2 (List.mem_of_getElem? (i := 175) (by decide +kernel))) (by decide +kernel), iW (tI2 (List.mem_of_getElem? (i := 176) (by decide +kernel))) (by decide +kernel), ⟨by decide +kernel, by decide +kernel, by decide +kernel⟩⟩
abbrev iX3_nextCell : fMI := (yX3_nextCell, cX3_nextCell, 5, (some .int))
theorem c_X3_nextCell : CalV iX3_nextCell 1 := ⟨iW (tI4 (List.mem_of_getElem? (i := 50) (by decide +kernel))) (by decide +kernel), ini_FirstSteps_Room, iW (tI4 (List.mem_of_getElem? (i := 48) (by decide +kernel))) (by decide +kernel), iW (tI4 (List.mem_of_getElem? (i := 49) (by decide +kernel))) (by decide +kernel), ⟨by decide +kernel, by decide +kernel, by decide +kernel⟩⟩
abbrev iX4_init : fMI := (yX4_init, cX4_init, 1, none)
theorem c_X4_init : CalI iX4_init 0 := ⟨iW (tI2 (List.mem_of_getElem? (i := 2) (by decide +kernel))) (by decide +kernel), ini_FirstSteps_Rows, iW (tI2 (List.mem_of_getElem? (i := 1) (by decide +kernel))) (by decide +kernel), rfl, ⟨by decide +kernel, by decide +kernel, by decide +kernel⟩⟩
abbrev iX4_follow : fMI := (yX4_follow, cX4_follow, 8, none)
theorem c_X4_follow : CalV iX4_follow 2 := ⟨iW (tI4 (List.mem_of_getElem? (i := 20) (by decide +kernel))) (by decide +kernel), ini_FirstSteps_Rows, iW (tI4 (List.mem_of_getElem? (i := 18) (by decide +kernel))) (by decide +kernel), iW (tI4 (List.mem_of_getElem? (i := 19) (by decide +kernel))) (by decide +kernel), ⟨by decide +kernel, by decide +kernel, by decide +kernel⟩⟩
abbrev iX4_spread : fMI := (yX4_spread, cX4_spread, 9, (some .long))
theorem c_X4_spread : CalV iX4_spread 3 := ⟨iW (tI4 (List.mem_of_getElem? (i := 32) (by decide +kernel))) (by decide +kernel), ini_FirstSteps_Rows, iW (tI4 (List.mem_of_getElem? (i := 31) (by decide +kernel))) (by decide +kernel), iW (tIp (q := (yX4_spread, 4)) (List.mem_of_getElem? (i := 18) (by decide +kernel))) (by decide +kernel), ⟨by decide +kernel, by decide +kernel, by decide +kernel⟩⟩
abbrev iX4_clear : fMI := (yX4_clear, cX4_clear, 2, none)
theorem c_X4_clear : CalS iX4_clear 1 := ⟨iW (tI4 (List.mem_of_getElem? (i := 23) (by decide +kernel))) (by decide +kernel), ini_FirstSteps_Rows, iW (tI4 (List.mem_of_getElem? (i := 22) (by decide +kernel))) (by decide +kernel), ⟨by decide +kernel, by decide +kernel, by decide +kernel⟩⟩
abbrev iX4_bring : fMI := (yX4_bring, cX4_bring, 5, none)
theorem c_X4_bring : CalS iX4_bring 3 := ⟨iW (tI4 (List.mem_of_getElem? (i := 26) (by decide +kernel))) (by decide +kernel), ini_FirstSteps_Rows, iW (tI4 (List.mem_of_getElem? (i := 25) (by decide +kernel))) (by decide +kernel), ⟨by decide +kernel, by decide +kernel, by decide +kernel⟩⟩
abbrev iX4_lowest : fMI := (yX4_lowest, cX4_lowest, 10, (some .long))
theorem c_X4_lowest : CalV iX4_lowest 1 := ⟨iW (tI4 (List.mem_of_getElem? (i := 42) (by decide +kernel))) (by decide +kernel), ini_FirstSteps_Rows, iW (tI4 (List.mem_of_getElem? (i := 40) (by decide +kernel))) (by decide +kernel), iW (tI4 (List.mem_of_getElem? (i := 41) (by decide +kernel))) (by decide +kernel), ⟨by decide +kernel, by decide +kernel, by decide +kernel⟩⟩
abbrev iX5_init : fMI := (yX5_init, cX5_init, 1, none)
theorem c_X5_init : CalI iX5_init 0 := ⟨iW (tI2 (List.mem_of_getElem? (i := 53) (by decide +kernel))) (by decide +kernel), ini_FirstSteps_Sheet, iW (tI2 (List.mem_of_getElem? (i := 52) (by decide +kernel))) (by decide +kernel), rfl, ⟨by decide +kernel, by decide +kernel, by decide +kernel⟩⟩
abbrev iX5_begin : fMI := (yX5_begin, cX5_begin, 4, none)
theorem c_X5_begin : CalV iX5_begin 2 := ⟨iW (tI4 (List.mem_of_getElem? (i := 112) (by decide +kernel))) (by decide +kernel), ini_FirstSteps_Sheet, iW (tI4 (List.mem_of_getElem? (i := 110) (by decide +kernel))) (by decide +kernel), iW (tI4 (List.mem_of_getElem? (i := 111) (by decide +kernel))) (by decide +kernel), ⟨by decide +kernel, by decide +kernel, by decide +kernel⟩⟩
abbrev iX5_has : fMI := (yX5_has, cX5_has, 3, (some .boolean))
theorem c_X5_has : CalV iX5_has 2 := ⟨iW (tI4 (List.mem_of_getElem? (i := 129) (by decide +kernel))) (by decide +kernel), ini_FirstSteps_Sheet, iW (tI4 (List.mem_of_getElem? (i := 127) (by decide +kernel))) (by decide +kernel), iW (tI4 (List.mem_of_getElem? (i := 128) (by decide +kernel))) (by decide +kernel), ⟨by decide +kernel, by decide +kernel, by decide +kernel⟩⟩
abbrev iX5_lowestBits : fMI := (yX5_lowestBits, cX5_lowestBits, 2, (some .int))
theorem c_X5_lowestBits : CalV iX5_lowestBits 1 := ⟨iW (tI4 (List.mem_of_getElem? (i := 121) (by decide +kernel))) (by decide +kernel), ini_FirstSteps_Sheet, iW (tI4 (List.mem_of_getElem? (i := 119) (by decide +kernel))) (by decide +kernel), iW (tI4 (List.mem_of_getElem? (i := 120) (by decide +kernel))) (by decide +kernel), ⟨by decide +kernel, by decide +kernel, by decide +kernel⟩⟩
abbrev iX6_init : fMI := (yX6_init, cX6_init, 1, none)
theorem c_X6_init : CalI iX6_init 0 := ⟨iW (tI2 (List.mem_of_getElem? (i := 26) (by decide +kernel))) (by decide +kernel), ini_FirstSteps_Speech, iW (tI2 (List.mem_of_getElem? (i := 25) (by decide +kernel))) (by decide +kernel), rfl, ⟨by decide +kernel, by decide +kernel, by decide +kernel⟩⟩
abbrev iX6_answer : fMI := (yX6_answer, cX6_answer, 5, (some .int))
theorem c_X6_answer : CalV iX6_answer 4 := ⟨iW (tI4 (List.mem_of_getElem? (i := 80) (by decide +kernel))) (by decide +kernel), ini_FirstSteps_Speech, iW (tI4 (List.mem_of_getElem? (i := 78) (by decide +kernel))) (by decide +kernel), iW (tI4 (List.mem_of_getElem? (i := 79) (by decide +kernel))) (by decide +kernel), ⟨by decide +kernel, by decide +kernel, by decide +kernel⟩⟩
abbrev iX6_say : fMI := (yX6_say, cX6_say, 9, (some .int))
theorem c_X6_say : CalS iX6_say 5 := ⟨iW (tI4 (List.mem_of_getElem? (i := 84) (by decide +kernel))) (by decide +kernel), ini_FirstSteps_Speech, iW (tI4 (List.mem_of_getElem? (i := 83) (by decide +kernel))) (by decide +kernel), ⟨by decide +kernel, by decide +kernel, by decide +kernel⟩⟩
abbrev iX6_begin : fMI := (yX6_begin, cX6_begin, 2, none)
theorem c_X6_begin : CalV iX6_begin 1 := ⟨iW (tI4 (List.mem_of_getElem? (i := 91) (by decide +kernel))) (by decide +kernel), ini_FirstSteps_Speech, iW (tI4 (List.mem_of_getElem? (i := 90) (by decide +kernel))) (by decide +kernel), iW (tIp (q := (yX6_begin, 6)) (List.mem_of_getElem? (i := 19) (by decide +kernel))) (by decide +kernel), ⟨by decide +kernel, by decide +kernel, by decide +kernel⟩⟩
abbrev iX6_divided : fMI := (yX6_divided, cX6_divided, 3, (some .int))
theorem c_X6_divided : CalV iX6_divided 2 := ⟨iW (tI4 (List.mem_of_getElem? (i := 96) (by decide +kernel))) (by decide +kernel), ini_FirstSteps_Speech, iW (tI4 (List.mem_of_getElem? (i := 95) (by decide +kernel))) (by decide +kernel), iW (tIp (q := (yX6_divided, 6)) (List.mem_of_getElem? (i := 20) (by decide +kernel))) (by decide +kernel), ⟨by decide +kernel, by decide +kernel, by decide +kernel⟩⟩
abbrev iX7_init : fMI := (yX7_init, cX7_init, 1, none)
theorem c_X7_init : CalI iX7_init 0 := ⟨iW (tI1 (List.mem_of_getElem? (i := 110) (by decide +kernel))) (by decide +kernel), ini_FirstSteps_Text, iW (tI1 (List.mem_of_getElem? (i := 109) (by decide +kernel))) (by decide +kernel), rfl, ⟨by decide +kernel, by decide +kernel, by decide +kernel⟩⟩
abbrev iX7_become : fMI := (yX7_become, cX7_become, 2, none)
theorem c_X7_become : CalV iX7_become 1 := ⟨iW (tI3 (List.mem_of_getElem? (i := 139) (by decide +kernel))) (by decide +kernel), ini_FirstSteps_Text, iW (tI3 (List.mem_of_getElem? (i := 137) (by decide +kernel))) (by decide +kernel), iW (tI3 (List.mem_of_getElem? (i := 138) (by decide +kernel))) (by decide +kernel), ⟨by decide +kernel, by decide +kernel, by decide +kernel⟩⟩
abbrev iX7_add : fMI := (yX7_add, cX7_add, 2, none)
theorem c_X7_add : CalV iX7_add 1 := ⟨iW (tI3 (List.mem_of_getElem? (i := 25) (by decide +kernel))) (by decide +kernel), ini_FirstSteps_Text, iW (tI3 (List.mem_of_getElem? (i := 23) (by decide +kernel))) (by decide +kernel), iW (tI3 (List.mem_of_getElem? (i := 24) (by decide +kernel))) (by decide +kernel), ⟨by decide +kernel, by decide +kernel, by decide +kernel⟩⟩
abbrev iX7_worth : fMI := (yX7_worth, cX7_worth, 5, (some .int))
theorem c_X7_worth : CalV iX7_worth 1 := ⟨iW (tI3 (List.mem_of_getElem? (i := 196) (by decide +kernel))) (by decide +kernel), ini_FirstSteps_Text, iW (tI3 (List.mem_of_getElem? (i := 194) (by decide +kernel))) (by decide +kernel), iW (tI3 (List.mem_of_getElem? (i := 195) (by decide +kernel))) (by decide +kernel), ⟨by decide +kernel, by decide +kernel, by decide +kernel⟩⟩
abbrev iX7_joined : fMI := (yX7_joined, cX7_joined, 3, (some .int))
theorem c_X7_joined : CalS iX7_joined 3 := ⟨iW (tI3 (List.mem_of_getElem? (i := 201) (by decide +kernel))) (by decide +kernel), ini_FirstSteps_Text, iW (tI3 (List.mem_of_getElem? (i := 200) (by decide +kernel))) (by decide +kernel), ⟨by decide +kernel, by decide +kernel, by decide +kernel⟩⟩
abbrev iX8_init : fMI := (yX8_init, cX8_init, 1, none)
theorem c_X8_init : CalI iX8_init 0 := ⟨iW (tI1 (List.mem_of_getElem? (i := 31) (by decide +kernel))) (by decide +kernel), ini_FirstSteps_World, iW (tI1 (List.mem_of_getElem? (i := 30) (by decide +kernel))) (by decide +kernel), rfl, ⟨by decide +kernel, by decide +kernel, by decide +kernel⟩⟩
abbrev iX8_become : fMI := (yX8_become, cX8_become, 2, none)
theorem c_X8_become : CalV iX8_become 1 := ⟨iW (tI4 (List.mem_of_getElem? (i := 0) (by decide +kernel))) (by decide +kernel), ini_FirstSteps_World, iW (tI3 (List.mem_of_getElem? (i := 238) (by decide +kernel))) (by decide +kernel), iW (tI3 (List.mem_of_getElem? (i := 239) (by decide +kernel))) (by decide +kernel), ⟨by decide +kernel, by decide +kernel, by decide +kernel⟩⟩
abbrev iX8_textOf : fMI := (yX8_textOf, cX8_textOf, 2, (some (.object "FirstSteps$Text")))
theorem c_X8_textOf : CalV iX8_textOf 1 := ⟨iW (tI3 (List.mem_of_getElem? (i := 135) (by decide +kernel))) (by decide +kernel), ini_FirstSteps_World, iW (tI3 (List.mem_of_getElem? (i := 133) (by decide +kernel))) (by decide +kernel), iW (tI3 (List.mem_of_getElem? (i := 134) (by decide +kernel))) (by decide +kernel), ⟨by decide +kernel, by decide +kernel, by decide +kernel⟩⟩
abbrev iX8_isAtHand : fMI := (yX8_isAtHand, cX8_isAtHand, 2, (some .boolean))
theorem c_X8_isAtHand : CalV iX8_isAtHand 1 := ⟨iW (tI2 (List.mem_of_getElem? (i := 141) (by decide +kernel))) (by decide +kernel), ini_FirstSteps_World, iW (tI2 (List.mem_of_getElem? (i := 139) (by decide +kernel))) (by decide +kernel), iW (tI2 (List.mem_of_getElem? (i := 140) (by decide +kernel))) (by decide +kernel), ⟨by decide +kernel, by decide +kernel, by decide +kernel⟩⟩
abbrev iX8_slope : fMI := (yX8_slope, cX8_slope, 1, (some .int))
theorem c_X8_slope : CalV iX8_slope 0 := ⟨iW (tI2 (List.mem_of_getElem? (i := 222) (by decide +kernel))) (by decide +kernel), ini_FirstSteps_World, iW (tI2 (List.mem_of_getElem? (i := 220) (by decide +kernel))) (by decide +kernel), iW (tI2 (List.mem_of_getElem? (i := 221) (by decide +kernel))) (by decide +kernel), ⟨by decide +kernel, by decide +kernel, by decide +kernel⟩⟩
abbrev iX8_come : fMI := (yX8_come, cX8_come, 2, none)
theorem c_X8_come : CalV iX8_come 1 := ⟨iW (tI2 (List.mem_of_getElem? (i := 192) (by decide +kernel))) (by decide +kernel), ini_FirstSteps_World, iW (tI2 (List.mem_of_getElem? (i := 190) (by decide +kernel))) (by decide +kernel), iW (tI2 (List.mem_of_getElem? (i := 191) (by decide +kernel))) (by decide +kernel), ⟨by decide +kernel, by decide +kernel, by decide +kernel⟩⟩
abbrev iX8_gaitOf : fMI := (yX8_gaitOf, cX8_gaitOf, 7, (some (.object "FirstSteps$Gait")))
theorem c_X8_gaitOf : CalV iX8_gaitOf 1 := ⟨iW (tI2 (List.mem_of_getElem? (i := 205) (by decide +kernel))) (by decide +kernel), ini_FirstSteps_World, iW (tI2 (List.mem_of_getElem? (i := 203) (by decide +kernel))) (by decide +kernel), iW (tI2 (List.mem_of_getElem? (i := 204) (by decide +kernel))) (by decide +kernel), ⟨by decide +kernel, by decide +kernel, by decide +kernel⟩⟩
abbrev iX8_pass : fMI := (yX8_pass, cX8_pass, 3, none)
theorem c_X8_pass : CalV iX8_pass 1 := ⟨iW (tI3 (List.mem_of_getElem? (i := 157) (by decide +kernel))) (by decide +kernel), ini_FirstSteps_World, iW (tI3 (List.mem_of_getElem? (i := 155) (by decide +kernel))) (by decide +kernel), iW (tI3 (List.mem_of_getElem? (i := 156) (by decide +kernel))) (by decide +kernel), ⟨by decide +kernel, by decide +kernel, by decide +kernel⟩⟩
abbrev iX8_passTenth : fMI := (yX8_passTenth, cX8_passTenth, 3, none)
theorem c_X8_passTenth : CalV iX8_passTenth 0 := ⟨iW (tI3 (List.mem_of_getElem? (i := 161) (by decide +kernel))) (by decide +kernel), ini_FirstSteps_World, iW (tI3 (List.mem_of_getElem? (i := 159) (by decide +kernel))) (by decide +kernel), iW (tI3 (List.mem_of_getElem? (i := 160) (by decide +kernel))) (by decide +kernel), ⟨by decide +kernel, by decide +kernel, by decide +kernel⟩⟩
abbrev iX8_draw : fMI := (yX8_draw, cX8_draw, 3, (some .int))
theorem c_X8_draw : CalV iX8_draw 1 := ⟨iW (tI3 (List.mem_of_getElem? (i := 166) (by decide +kernel))) (by decide +kernel), ini_FirstSteps_World, iW (tI3 (List.mem_of_getElem? (i := 165) (by decide +kernel))) (by decide +kernel), iW (tIp (q := (yX8_draw, 11)) (List.mem_of_getElem? (i := 13) (by decide +kernel))) (by decide +kernel), ⟨by decide +kernel, by decide +kernel, by decide +kernel⟩⟩
abbrev iX8_leant : fMI := (yX8_leant, cX8_leant, 3, (some .int))
theorem c_X8_leant : CalV iX8_leant 2 := ⟨iW (tI3 (List.mem_of_getElem? (i := 172) (by decide +kernel))) (by decide +kernel), ini_FirstSteps_World, iW (tI3 (List.mem_of_getElem? (i := 170) (by decide +kernel))) (by decide +kernel), iW (tI3 (List.mem_of_getElem? (i := 171) (by decide +kernel))) (by decide +kernel), ⟨by decide +kernel, by decide +kernel, by decide +kernel⟩⟩
abbrev iX8_isStep : fMI := (yX8_isStep, cX8_isStep, 3, (some .boolean))
theorem c_X8_isStep : CalV iX8_isStep 1 := ⟨iW (tI3 (List.mem_of_getElem? (i := 207) (by decide +kernel))) (by decide +kernel), ini_FirstSteps_World, iW (tI3 (List.mem_of_getElem? (i := 205) (by decide +kernel))) (by decide +kernel), iW (tI3 (List.mem_of_getElem? (i := 206) (by decide +kernel))) (by decide +kernel), ⟨by decide +kernel, by decide +kernel, by decide +kernel⟩⟩
abbrev iX8_caught : fMI := (yX8_caught, cX8_caught, 5, (some .int))
theorem c_X8_caught : CalV iX8_caught 2 := ⟨iW (tI3 (List.mem_of_getElem? (i := 211) (by decide +kernel))) (by decide +kernel), ini_FirstSteps_World, iW (tI3 (List.mem_of_getElem? (i := 209) (by decide +kernel))) (by decide +kernel), iW (tI3 (List.mem_of_getElem? (i := 210) (by decide +kernel))) (by decide +kernel), ⟨by decide +kernel, by decide +kernel, by decide +kernel⟩⟩
abbrev iX8_stepOn : fMI := (yX8_stepOn, cX8_stepOn, 3, none)
theorem c_X8_stepOn : CalV iX8_stepOn 1 := ⟨iW (tI3 (List.mem_of_getElem? (i := 215) (by decide +kernel))) (by decide +kernel), ini_FirstSteps_World, iW (tI3 (List.mem_of_getElem? (i := 213) (by decide +kernel))) (by decide +kernel), iW (tI3 (List.mem_of_getElem? (i := 214) (by decide +kernel))) (by decide +kernel), ⟨by decide +kernel, by decide +kernel, by decide +kernel⟩⟩
abbrev iX8_fall : fMI := (yX8_fall, cX8_fall, 3, none)
theorem c_X8_fall : CalV iX8_fall 0 := ⟨iW (tI3 (List.mem_of_getElem? (i := 177) (by decide +kernel))) (by decide +kernel), ini_FirstSteps_World, iW (tI3 (List.mem_of_getElem? (i := 176) (by decide +kernel))) (by decide +kernel), iW (tIp (q := (yX8_fall, 11)) (List.mem_of_getElem? (i := 14) (by decide +kernel))) (by decide +kernel), ⟨by decide +kernel, by decide +kernel, by decide +kernel⟩⟩
abbrev iX8_gain : fMI := (yX8_gain, cX8_gain, 4, none)
theorem c_X8_gain : CalV iX8_gain 3 := ⟨iW (tI3 (List.mem_of_getElem? (i := 182) (by decide +kernel))) (by decide +kernel), ini_FirstSteps_World, iW (tI3 (List.mem_of_getElem? (i := 181) (by decide +kernel))) (by decide +kernel), iW (tIp (q := (yX8_gain, 11)) (List.mem_of_getElem? (i := 15) (by decide +kernel))) (by decide +kernel), ⟨by decide +kernel, by decide +kernel, by decide +kernel⟩⟩
abbrev iX8_goOn : fMI := (yX8_goOn, cX8_goOn, 1, none)
theorem c_X8_goOn : CalV iX8_goOn 0 := ⟨iW (tI3 (List.mem_of_getElem? (i := 219) (by decide +kernel))) (by decide +kernel), ini_FirstSteps_World, iW (tI3 (List.mem_of_getElem? (i := 217) (by decide +kernel))) (by decide +kernel), iW (tI3 (List.mem_of_getElem? (i := 218) (by decide +kernel))) (by decide +kernel), ⟨by decide +kernel, by decide +kernel, by decide +kernel⟩⟩
abbrev iX8_passDay : fMI := (yX8_passDay, cX8_passDay, 1, none)
theorem c_X8_passDay : CalV iX8_passDay 0 := ⟨iW (tI3 (List.mem_of_getElem? (i := 228) (by decide +kernel))) (by decide +kernel), ini_FirstSteps_World, iW (tI3 (List.mem_of_getElem? (i := 226) (by decide +kernel))) (by decide +kernel), iW (tI3 (List.mem_of_getElem? (i := 227) (by decide +kernel))) (by decide +kernel), ⟨by decide +kernel, by decide +kernel, by decide +kernel⟩⟩
abbrev iX8_learns : fMI := (yX8_learns, cX8_learns, 2, (some .int))
theorem c_X8_learns : CalV iX8_learns 1 := ⟨iW (tI3 (List.mem_of_getElem? (i := 188) (by decide +kernel))) (by decide +kernel), ini_FirstSteps_World, iW (tI3 (List.mem_of_getElem? (i := 187) (by decide +kernel))) (by decide +kernel), iW (tIp (q := (yX8_learns, 11)) (List.mem_of_getElem? (i := 16) (by decide +kernel))) (by decide +kernel), ⟨by decide +kernel, by decide +kernel, by decide +kernel⟩⟩
abbrev iX8_dares : fMI := (yX8_dares, cX8_dares, 2, (some .boolean))
theorem c_X8_dares : CalV iX8_dares 1 := ⟨iW (tI4 (List.mem_of_getElem? (i := 54) (by decide +kernel))) (by decide +kernel), ini_FirstSteps_World, iW (tI4 (List.mem_of_getElem? (i := 52) (by decide +kernel))) (by decide +kernel), iW (tI4 (List.mem_of_getElem? (i := 53) (by decide +kernel))) (by decide +kernel), ⟨by decide +kernel, by decide +kernel, by decide +kernel⟩⟩
abbrev iX8_name : fMI := (yX8_name, cX8_name, 6, none)
theorem c_X8_name : CalV iX8_name 5 := ⟨iW (tI3 (List.mem_of_getElem? (i := 192) (by decide +kernel))) (by decide +kernel), ini_FirstSteps_World, iW (tI3 (List.mem_of_getElem? (i := 191) (by decide +kernel))) (by decide +kernel), iW (tIp (q := (yX8_name, 11)) (List.mem_of_getElem? (i := 17) (by decide +kernel))) (by decide +kernel), ⟨by decide +kernel, by decide +kernel, by decide +kernel⟩⟩
abbrev iX9_init : fMI := (yX9_init, cX9_init, 2, none)
theorem c_X9_init : CalI iX9_init 0 := ⟨iW (tI1 (List.mem_of_getElem? (i := 23) (by decide +kernel))) (by decide +kernel), ini_FirstSteps, iW (tI1 (List.mem_of_getElem? (i := 22) (by decide +kernel))) (by decide +kernel), rfl, ⟨by decide +kernel, by decide +kernel, by decide +kernel⟩⟩
abbrev iX9_floor : fMI := (yX9_floor, cX9_floor, 4, (some .int))
theorem c_X9_floor : CalV iX9_floor 3 := ⟨iW (tI2 (List.mem_of_getElem? (i := 99) (by decide +kernel))) (by decide +kernel), ini_FirstSteps, iW (tI2 (List.mem_of_getElem? (i := 97) (by decide +kernel))) (by decide +kernel), iW (tI2 (List.mem_of_getElem? (i := 98) (by decide +kernel))) (by decide +kernel), ⟨by decide +kernel, by decide +kernel, by decide +kernel⟩⟩
abbrev iX9_hold : fMI := (yX9_hold, cX9_hold, 3, (some .int))
theorem c_X9_hold : CalV iX9_hold 2 := ⟨iW (tI2 (List.mem_of_getElem? (i := 117) (by decide +kernel))) (by decide +kernel), ini_FirstSteps, iW (tI2 (List.mem_of_getElem? (i := 115) (by decide +kernel))) (by decide +kernel), iW (tI2 (List.mem_of_getElem? (i := 116) (by decide +kernel))) (by decide +kernel), ⟨by decide +kernel, by decide +kernel, by decide +kernel⟩⟩
abbrev iX9_holdIs : fMI := (yX9_holdIs, cX9_holdIs, 3, (some .int))
theorem c_X9_holdIs : CalV iX9_holdIs 2 := ⟨iW (tI2 (List.mem_of_getElem? (i := 133) (by decide +kernel))) (by decide +kernel), ini_FirstSteps, iW (tI2 (List.mem_of_getElem? (i := 131) (by decide +kernel))) (by decide +kernel), iW (tI2 (List.mem_of_getElem? (i := 132) (by decide +kernel))) (by decide +kernel), ⟨by decide +kernel, by decide +kernel, by decide +kernel⟩⟩
abbrev iX9_setHold : fMI := (yX9_setHold, cX9_setHold, 4, (some .int))
theorem c_X9_setHold : CalV iX9_setHold 3 := ⟨iW (tI2 (List.mem_of_getElem? (i := 157) (by decide +kernel))) (by decide +kernel), ini_FirstSteps, iW (tI2 (List.mem_of_getElem? (i := 155) (by decide +kernel))) (by decide +kernel), iW (tI2 (List.mem_of_getElem? (i := 156) (by decide +kernel))) (by decide +kernel), ⟨by decide +kernel, by decide +kernel, by decide +kernel⟩⟩
abbrev iX9_set : fMI := (yX9_set, cX9_set, 3, (some .int))
theorem c_X9_set : CalV iX9_set 2 := ⟨iW (tI2 (List.mem_of_getElem? (i := 161) (by decide +kernel))) (by decide +kernel), ini_FirstSteps, iW (tI2 (List.mem_of_getElem? (i := 159) (by decide +kernel))) (by decide +kernel), iW (tI2 (List.mem_of_getElem? (i := 160) (by decide +kernel))) (by decide +kernel), ⟨by decide +kernel, by decide +kernel, by decide +kernel⟩⟩
abbrev iX9_is : fMI := (yX9_is, cX9_is, 2, (some .int))
theorem c_X9_is : CalV iX9_is 1 := ⟨iW (tI2 (List.mem_of_getElem? (i := 169) (by decide +kernel))) (by decide +kernel), ini_FirstSteps, iW (tI2 (List.mem_of_getElem? (i := 167) (by decide +kernel))) (by decide +kernel), iW (tI2 (List.mem_of_getElem? (i := 168) (by decide +kernel))) (by decide +kernel), ⟨by decide +kernel, by decide +kernel, by decide +kernel⟩⟩
abbrev iX9_nearest : fMI := (yX9_nearest, cX9_nearest, 2, (some .int))
theorem c_X9_nearest : CalV iX9_nearest 0 := ⟨iW (tI2 (List.mem_of_getElem? (i := 173) (by decide +kernel))) (by decide +kernel), ini_FirstSteps, iW (tI2 (List.mem_of_getElem? (i := 171) (by decide +kernel))) (by decide +kernel), iW (tI2 (List.mem_of_getElem? (i := 172) (by decide +kernel))) (by decide +kernel), ⟨by decide +kernel, by decide +kernel, by decide +kernel⟩⟩
abbrev iX9_going : fMI := (yX9_going, cX9_going, 4, (some .int))
theorem c_X9_going : CalV iX9_going 2 := ⟨iW (tI2 (List.mem_of_getElem? (i := 182) (by decide +kernel))) (by decide +kernel), ini_FirstSteps, iW (tI2 (List.mem_of_getElem? (i := 180) (by decide +kernel))) (by decide +kernel), iW (tI2 (List.mem_of_getElem? (i := 181) (by decide +kernel))) (by decide +kernel), ⟨by decide +kernel, by decide +kernel, by decide +kernel⟩⟩
abbrev iX9_goingIs : fMI := (yX9_goingIs, cX9_goingIs, 4, (some .int))
theorem c_X9_goingIs : CalV iX9_goingIs 2 := ⟨iW (tI2 (List.mem_of_getElem? (i := 197) (by decide +kernel))) (by decide +kernel), ini_FirstSteps, iW (tI2 (List.mem_of_getElem? (i := 195) (by decide +kernel))) (by decide +kernel), iW (tI2 (List.mem_of_getElem? (i := 196) (by decide +kernel))) (by decide +kernel), ⟨by decide +kernel, by decide +kernel, by decide +kernel⟩⟩
abbrev iX9_as : fMI := (yX9_as, cX9_as, 5, (some .int))
theorem c_X9_as : CalV iX9_as 2 := ⟨iW (tI2 (List.mem_of_getElem? (i := 227) (by decide +kernel))) (by decide +kernel), ini_FirstSteps, iW (tI2 (List.mem_of_getElem? (i := 225) (by decide +kernel))) (by decide +kernel), iW (tI2 (List.mem_of_getElem? (i := 226) (by decide +kernel))) (by decide +kernel), ⟨by decide +kernel, by decide +kernel, by decide +kernel⟩⟩
abbrev iX9_setGoing : fMI := (yX9_setGoing, cX9_setGoing, 4, (some .int))
theorem c_X9_setGoing : CalV iX9_setGoing 3 := ⟨iW (tI2 (List.mem_of_getElem? (i := 233) (by decide +kernel))) (by decide +kernel), ini_FirstSteps, iW (tI2 (List.mem_of_getElem? (i := 231) (by decide +kernel))) (by decide +kernel), iW (tI2 (List.mem_of_getElem? (i := 232) (by decide +kernel))) (by decide +kernel), ⟨by decide +kernel, by decide +kernel, by decide +kernel⟩⟩
abbrev iX9_feed : fMI := (yX9_feed, cX9_feed, 5, (some .int))
theorem c_X9_feed : CalV iX9_feed 2 := ⟨iW (tI2 (List.mem_of_getElem? (i := 237) (by decide +kernel))) (by decide +kernel), ini_FirstSteps, iW (tI2 (List.mem_of_getElem? (i := 235) (by decide +kernel))) (by decide +kernel), iW (tI2 (List.mem_of_getElem? (i := 236) (by decide +kernel))) (by decide +kernel), ⟨by decide +kernel, by decide +kernel, by decide +kernel⟩⟩
abbrev iX9_text : fMI := (yX9_text, cX9_text, 3, (some .int))
theorem c_X9_text : CalV iX9_text 1 := ⟨iW (tI3 (List.mem_of_getElem? (i := 1) (by decide +kernel))) (by decide +kernel), ini_FirstSteps, iW (tI2 (List.mem_of_getElem? (i := 239) (by decide +kernel))) (by decide +kernel), iW (tI3 (List.mem_of_getElem? (i := 0) (by decide +kernel))) (by decide +kernel), ⟨by decide +kernel, by decide +kernel, by decide +kernel⟩⟩
abbrev iX9_untell : fMI := (yX9_untell, cX9_untell, 4, (some .int))
theorem c_X9_untell : CalV iX9_untell 1 := ⟨iW (tI3 (List.mem_of_getElem? (i := 149) (by decide +kernel))) (by decide +kernel), ini_FirstSteps, iW (tI3 (List.mem_of_getElem? (i := 147) (by decide +kernel))) (by decide +kernel), iW (tI3 (List.mem_of_getElem? (i := 148) (by decide +kernel))) (by decide +kernel), ⟨by decide +kernel, by decide +kernel, by decide +kernel⟩⟩
abbrev iX9_tenths : fMI := (yX9_tenths, cX9_tenths, 2, (some .int))
theorem c_X9_tenths : CalV iX9_tenths 1 := ⟨iW (tI3 (List.mem_of_getElem? (i := 153) (by decide +kernel))) (by decide +kernel), ini_FirstSteps, iW (tI3 (List.mem_of_getElem? (i := 151) (by decide +kernel))) (by decide +kernel), iW (tI3 (List.mem_of_getElem? (i := 152) (by decide +kernel))) (by decide +kernel), ⟨by decide +kernel, by decide +kernel, by decide +kernel⟩⟩
abbrev iX9_days : fMI := (yX9_days, cX9_days, 3, (some .int))
theorem c_X9_days : CalV iX9_days 1 := ⟨iW (tI3 (List.mem_of_getElem? (i := 224) (by decide +kernel))) (by decide +kernel), ini_FirstSteps, iW (tI3 (List.mem_of_getElem? (i := 222) (by decide +kernel))) (by decide +kernel), iW (tI3 (List.mem_of_getElem? (i := 223) (by decide +kernel))) (by decide +kernel), ⟨by decide +kernel, by decide +kernel, by decide +kernel⟩⟩
abbrev iX9_seed : fMI := (yX9_seed, cX9_seed, 2, (some .int))
theorem c_X9_seed : CalV iX9_seed 1 := ⟨iW (tI3 (List.mem_of_getElem? (i := 232) (by decide +kernel))) (by decide +kernel), ini_FirstSteps, iW (tI3 (List.mem_of_getElem? (i := 230) (by decide +kernel))) (by decide +kernel), iW (tI3 (List.mem_of_getElem? (i := 231) (by decide +kernel))) (by decide +kernel), ⟨by decide +kernel, by decide +kernel, by decide +kernel⟩⟩
abbrev iX9_then : fMI := (yX9_then, cX9_then, 3, (some .int))
theorem c_X9_then : CalV iX9_then 2 := ⟨iW (tI3 (List.mem_of_getElem? (i := 236) (by decide +kernel))) (by decide +kernel), ini_FirstSteps, iW (tI3 (List.mem_of_getElem? (i := 234) (by decide +kernel))) (by decide +kernel), iW (tI3 (List.mem_of_getElem? (i := 235) (by decide +kernel))) (by decide +kernel), ⟨by decide +kernel, by decide +kernel, by decide +kernel⟩⟩
abbrev iX9_ways : fMI := (yX9_ways, cX9_ways, 3, (some .long))
theorem c_X9_ways : CalV iX9_ways 2 := ⟨iW (tI4 (List.mem_of_getElem? (i := 16) (by decide +kernel))) (by decide +kernel), ini_FirstSteps, iW (tI4 (List.mem_of_getElem? (i := 14) (by decide +kernel))) (by decide +kernel), iW (tI4 (List.mem_of_getElem? (i := 15) (by decide +kernel))) (by decide +kernel), ⟨by decide +kernel, by decide +kernel, by decide +kernel⟩⟩
abbrev iX9_way : fMI := (yX9_way, cX9_way, 9, (some .int))
theorem c_X9_way : CalV iX9_way 2 := ⟨iW (tI4 (List.mem_of_getElem? (i := 46) (by decide +kernel))) (by decide +kernel), ini_FirstSteps, iW (tI4 (List.mem_of_getElem? (i := 44) (by decide +kernel))) (by decide +kernel), iW (tI4 (List.mem_of_getElem? (i := 45) (by decide +kernel))) (by decide +kernel), ⟨by decide +kernel, by decide +kernel, by decide +kernel⟩⟩
abbrev iX9_gaps : fMI := (yX9_gaps, cX9_gaps, 8, (some .int))
theorem c_X9_gaps : CalV iX9_gaps 1 := ⟨iW (tI4 (List.mem_of_getElem? (i := 58) (by decide +kernel))) (by decide +kernel), ini_FirstSteps, iW (tI4 (List.mem_of_getElem? (i := 56) (by decide +kernel))) (by decide +kernel), iW (tI4 (List.mem_of_getElem? (i := 57) (by decide +kernel))) (by decide +kernel), ⟨by decide +kernel, by decide +kernel, by decide +kernel⟩⟩
abbrev iX9_pad : fMI := (yX9_pad, cX9_pad, 5, (some .int))
theorem c_X9_pad : CalV iX9_pad 1 := ⟨iW (tI4 (List.mem_of_getElem? (i := 62) (by decide +kernel))) (by decide +kernel), ini_FirstSteps, iW (tI4 (List.mem_of_getElem? (i := 60) (by decide +kernel))) (by decide +kernel), iW (tI4 (List.mem_of_getElem? (i := 61) (by decide +kernel))) (by decide +kernel), ⟨by decide +kernel, by decide +kernel, by decide +kernel⟩⟩
abbrev iX9_stand : fMI := (yX9_stand, cX9_stand, 6, (some .int))
theorem c_X9_stand : CalV iX9_stand 2 := ⟨iW (tI4 (List.mem_of_getElem? (i := 67) (by decide +kernel))) (by decide +kernel), ini_FirstSteps, iW (tI4 (List.mem_of_getElem? (i := 65) (by decide +kernel))) (by decide +kernel), iW (tI4 (List.mem_of_getElem? (i := 66) (by decide +kernel))) (by decide +kernel), ⟨by decide +kernel, by decide +kernel, by decide +kernel⟩⟩
abbrev iX9_go : fMI := (yX9_go, cX9_go, 6, (some .int))
theorem c_X9_go : CalV iX9_go 1 := ⟨iW (tI4 (List.mem_of_getElem? (i := 71) (by decide +kernel))) (by decide +kernel), ini_FirstSteps, iW (tI4 (List.mem_of_getElem? (i := 69) (by decide +kernel))) (by decide +kernel), iW (tI4 (List.mem_of_getElem? (i := 70) (by decide +kernel))) (by decide +kernel), ⟨by decide +kernel, by decide +kernel, by decide +kernel⟩⟩
abbrev iX9_voice : fMI := (yX9_voice, cX9_voice, 5, (some .int))
theorem c_X9_voice : CalV iX9_voice 3 := ⟨iW (tI4 (List.mem_of_getElem? (i := 76) (by decide +kernel))) (by decide +kernel), ini_FirstSteps, iW (tI4 (List.mem_of_getElem? (i := 74) (by decide +kernel))) (by decide +kernel), iW (tI4 (List.mem_of_getElem? (i := 75) (by decide +kernel))) (by decide +kernel), ⟨by decide +kernel, by decide +kernel, by decide +kernel⟩⟩
abbrev iX9_body : fMI := (yX9_body, cX9_body, 2, (some .int))
theorem c_X9_body : CalV iX9_body 1 := ⟨iW (tI4 (List.mem_of_getElem? (i := 100) (by decide +kernel))) (by decide +kernel), ini_FirstSteps, iW (tI4 (List.mem_of_getElem? (i := 98) (by decide +kernel))) (by decide +kernel), iW (tI4 (List.mem_of_getElem? (i := 99) (by decide +kernel))) (by decide +kernel), ⟨by decide +kernel, by decide +kernel, by decide +kernel⟩⟩
abbrev iX9_sheet : fMI := (yX9_sheet, cX9_sheet, 5, (some .int))
theorem c_X9_sheet : CalV iX9_sheet 3 := ⟨iW (tI4 (List.mem_of_getElem? (i := 104) (by decide +kernel))) (by decide +kernel), ini_FirstSteps, iW (tI4 (List.mem_of_getElem? (i := 102) (by decide +kernel))) (by decide +kernel), iW (tI4 (List.mem_of_getElem? (i := 103) (by decide +kernel))) (by decide +kernel), ⟨by decide +kernel, by decide +kernel, by decide +kernel⟩⟩
abbrev iX9_put : fMI := (yX9_put, cX9_put, 5, (some .int))
theorem c_X9_put : CalV iX9_put 3 := ⟨iW (tI4 (List.mem_of_getElem? (i := 117) (by decide +kernel))) (by decide +kernel), ini_FirstSteps, iW (tI4 (List.mem_of_getElem? (i := 115) (by decide +kernel))) (by decide +kernel), iW (tI4 (List.mem_of_getElem? (i := 116) (by decide +kernel))) (by decide +kernel), ⟨by decide +kernel, by decide +kernel, by decide +kernel⟩⟩
abbrev iX9_move : fMI := (yX9_move, cX9_move, 8, (some .int))
theorem c_X9_move : CalV iX9_move 5 := ⟨iW (tI4 (List.mem_of_getElem? (i := 125) (by decide +kernel))) (by decide +kernel), ini_FirstSteps, iW (tI4 (List.mem_of_getElem? (i := 123) (by decide +kernel))) (by decide +kernel), iW (tI4 (List.mem_of_getElem? (i := 124) (by decide +kernel))) (by decide +kernel), ⟨by decide +kernel, by decide +kernel, by decide +kernel⟩⟩
abbrev iX9_holds : fMI := (yX9_holds, cX9_holds, 7, (some .int))
theorem c_X9_holds : CalV iX9_holds 1 := ⟨iW (tI4 (List.mem_of_getElem? (i := 133) (by decide +kernel))) (by decide +kernel), ini_FirstSteps, iW (tI4 (List.mem_of_getElem? (i := 131) (by decide +kernel))) (by decide +kernel), iW (tI4 (List.mem_of_getElem? (i := 132) (by decide +kernel))) (by decide +kernel), ⟨by decide +kernel, by decide +kernel, by decide +kernel⟩⟩
abbrev iX9_off : fMI := (yX9_off, cX9_off, 3, (some .int))
theorem c_X9_off : CalV iX9_off 1 := ⟨iW (tI4 (List.mem_of_getElem? (i := 137) (by decide +kernel))) (by decide +kernel), ini_FirstSteps, iW (tI4 (List.mem_of_getElem? (i := 135) (by decide +kernel))) (by decide +kernel), iW (tI4 (List.mem_of_getElem? (i := 136) (by decide +kernel))) (by decide +kernel), ⟨by decide +kernel, by decide +kernel, by decide +kernel⟩⟩
abbrev iX9_guess : fMI := (yX9_guess, cX9_guess, 7, (some .int))
theorem c_X9_guess : CalV iX9_guess 1 := ⟨iW (tI4 (List.mem_of_getElem? (i := 153) (by decide +kernel))) (by decide +kernel), ini_FirstSteps, iW (tI4 (List.mem_of_getElem? (i := 151) (by decide +kernel))) (by decide +kernel), iW (tI4 (List.mem_of_getElem? (i := 152) (by decide +kernel))) (by decide +kernel), ⟨by decide +kernel, by decide +kernel, by decide +kernel⟩⟩
abbrev iX9_image : fMI := (yX9_image, cX9_image, 1, (some .int))
theorem c_X9_image : CalV iX9_image 0 := ⟨iW (tI4 (List.mem_of_getElem? (i := 157) (by decide +kernel))) (by decide +kernel), ini_FirstSteps, iW (tI4 (List.mem_of_getElem? (i := 155) (by decide +kernel))) (by decide +kernel), iW (tI4 (List.mem_of_getElem? (i := 156) (by decide +kernel))) (by decide +kernel), ⟨by decide +kernel, by decide +kernel, by decide +kernel⟩⟩
abbrev iX9_restore : fMI := (yX9_restore, cX9_restore, 1, (some .int))
theorem c_X9_restore : CalV iX9_restore 0 := ⟨iW (tI4 (List.mem_of_getElem? (i := 161) (by decide +kernel))) (by decide +kernel), ini_FirstSteps, iW (tI4 (List.mem_of_getElem? (i := 159) (by decide +kernel))) (by decide +kernel), iW (tI4 (List.mem_of_getElem? (i := 160) (by decide +kernel))) (by decide +kernel), ⟨by decide +kernel, by decide +kernel, by decide +kernel⟩⟩
abbrev iX9_tell : fMI := (yX9_tell, cX9_tell, 2, (some .int))
theorem c_X9_tell : CalV iX9_tell 1 := ⟨iW (tI4 (List.mem_of_getElem? (i := 165) (by decide +kernel))) (by decide +kernel), ini_FirstSteps, iW (tI4 (List.mem_of_getElem? (i := 163) (by decide +kernel))) (by decide +kernel), iW (tI4 (List.mem_of_getElem? (i := 164) (by decide +kernel))) (by decide +kernel), ⟨by decide +kernel, by decide +kernel, by decide +kernel⟩⟩
abbrev iX9_check : fMI := (yX9_check, cX9_check, 3, (some .int))
theorem c_X9_check : CalV iX9_check 0 := ⟨iW (tI4 (List.mem_of_getElem? (i := 169) (by decide +kernel))) (by decide +kernel), ini_FirstSteps, iW (tI4 (List.mem_of_getElem? (i := 167) (by decide +kernel))) (by decide +kernel), iW (tI4 (List.mem_of_getElem? (i := 168) (by decide +kernel))) (by decide +kernel), ⟨by decide +kernel, by decide +kernel, by decide +kernel⟩⟩
abbrev iX9_count : fMI := (yX9_count, cX9_count, 2, (some .int))
theorem c_X9_count : CalV iX9_count 1 := ⟨iW (tI4 (List.mem_of_getElem? (i := 173) (by decide +kernel))) (by decide +kernel), ini_FirstSteps, iW (tI4 (List.mem_of_getElem? (i := 171) (by decide +kernel))) (by decide +kernel), iW (tI4 (List.mem_of_getElem? (i := 172) (by decide +kernel))) (by decide +kernel), ⟨by decide +kernel, by decide +kernel, by decide +kernel⟩⟩
abbrev iX9_told : fMI := (yX9_told, cX9_told, 2, (some .int))
theorem c_X9_told : CalV iX9_told 1 := ⟨iW (tI4 (List.mem_of_getElem? (i := 177) (by decide +kernel))) (by decide +kernel), ini_FirstSteps, iW (tI4 (List.mem_of_getElem? (i := 175) (by decide +kernel))) (by decide +kernel), iW (tI4 (List.mem_of_getElem? (i := 176) (by decide +kernel))) (by decide +kernel), ⟨by decide +kernel, by decide +kernel, by decide +kernel⟩⟩
abbrev iX9_refused : fMI := (yX9_refused, cX9_refused, 2, (some .int))
theorem c_X9_refused : CalV iX9_refused 1 := ⟨iW (tI2 (List.mem_of_getElem? (i := 106) (by decide +kernel))) (by decide +kernel), ini_FirstSteps, iW (tI2 (List.mem_of_getElem? (i := 105) (by decide +kernel))) (by decide +kernel), iW (tIp (q := (yX9_refused, 9)) (List.mem_of_getElem? (i := 0) (by decide +kernel))) (by decide +kernel), ⟨by decide +kernel, by decide +kernel, by decide +kernel⟩⟩
abbrev iX9_isHold : fMI := (yX9_isHold, cX9_isHold, 2, (some .boolean))
theorem c_X9_isHold : CalV iX9_isHold 1 := ⟨iW (tI2 (List.mem_of_getElem? (i := 137) (by decide +kernel))) (by decide +kernel), ini_FirstSteps, iW (tI2 (List.mem_of_getElem? (i := 136) (by decide +kernel))) (by decide +kernel), iW (tIp (q := (yX9_isHold, 9)) (List.mem_of_getElem? (i := 1) (by decide +kernel))) (by decide +kernel), ⟨by decide +kernel, by decide +kernel, by decide +kernel⟩⟩
abbrev iX9_isGoing : fMI := (yX9_isGoing, cX9_isGoing, 2, (some .boolean))
theorem c_X9_isGoing : CalV iX9_isGoing 1 := ⟨iW (tI2 (List.mem_of_getElem? (i := 201) (by decide +kernel))) (by decide +kernel), ini_FirstSteps, iW (tI2 (List.mem_of_getElem? (i := 200) (by decide +kernel))) (by decide +kernel), iW (tIp (q := (yX9_isGoing, 9)) (List.mem_of_getElem? (i := 2) (by decide +kernel))) (by decide +kernel), ⟨by decide +kernel, by decide +kernel, by decide +kernel⟩⟩
abbrev iX9_sheetAt : fMI := (yX9_sheetAt, cX9_sheetAt, 2, (some (.object "FirstSteps$Sheet")))
theorem c_X9_sheetAt : CalV iX9_sheetAt 1 := ⟨iW (tI4 (List.mem_of_getElem? (i := 108) (by decide +kernel))) (by decide +kernel), ini_FirstSteps, iW (tI4 (List.mem_of_getElem? (i := 107) (by decide +kernel))) (by decide +kernel), iW (tIp (q := (yX9_sheetAt, 9)) (List.mem_of_getElem? (i := 21) (by decide +kernel))) (by decide +kernel), ⟨by decide +kernel, by decide +kernel, by decide +kernel⟩⟩
abbrev iX9_offAhead : fMI := (yX9_offAhead, cX9_offAhead, 7, (some .int))
theorem c_X9_offAhead : CalV iX9_offAhead 1 := ⟨iW (tI4 (List.mem_of_getElem? (i := 141) (by decide +kernel))) (by decide +kernel), ini_FirstSteps, iW (tI4 (List.mem_of_getElem? (i := 140) (by decide +kernel))) (by decide +kernel), iW (tIp (q := (yX9_offAhead, 9)) (List.mem_of_getElem? (i := 22) (by decide +kernel))) (by decide +kernel), ⟨by decide +kernel, by decide +kernel, by decide +kernel⟩⟩
abbrev iX9_within : fMI := (yX9_within, cX9_within, 3, (some .boolean))
theorem c_X9_within : CalS iX9_within 3 := ⟨iW (tI2 (List.mem_of_getElem? (i := 102) (by decide +kernel))) (by decide +kernel), ini_FirstSteps, iW (tI2 (List.mem_of_getElem? (i := 101) (by decide +kernel))) (by decide +kernel), ⟨by decide +kernel, by decide +kernel, by decide +kernel⟩⟩
abbrev iX9_held : fMI := (yX9_held, cX9_held, 3, (some .int))
theorem c_X9_held : CalS iX9_held 3 := ⟨iW (tI2 (List.mem_of_getElem? (i := 214) (by decide +kernel))) (by decide +kernel), ini_FirstSteps, iW (tI2 (List.mem_of_getElem? (i := 213) (by decide +kernel))) (by decide +kernel), ⟨by decide +kernel, by decide +kernel, by decide +kernel⟩⟩
abbrev iX9_at : fMI := (yX9_at, cX9_at, 2, (some .int))
theorem c_X9_at : CalS iX9_at 2 := ⟨iW (tI2 (List.mem_of_getElem? (i := 109) (by decide +kernel))) (by decide +kernel), ini_FirstSteps, iW (tI2 (List.mem_of_getElem? (i := 108) (by decide +kernel))) (by decide +kernel), ⟨by decide +kernel, by decide +kernel, by decide +kernel⟩⟩
abbrev iX9_exchange : fMI := (yX9_exchange, cX9_exchange, 4, (some .int))
theorem c_X9_exchange : CalS iX9_exchange 3 := ⟨iW (tI2 (List.mem_of_getElem? (i := 112) (by decide +kernel))) (by decide +kernel), ini_FirstSteps, iW (tI2 (List.mem_of_getElem? (i := 111) (by decide +kernel))) (by decide +kernel), ⟨by decide +kernel, by decide +kernel, by decide +kernel⟩⟩
abbrev iX9_copy : fMI := (yX9_copy, cX9_copy, 2, none)
theorem c_X9_copy : CalS iX9_copy 2 := ⟨iW (tI3 (List.mem_of_getElem? (i := 142) (by decide +kernel))) (by decide +kernel), ini_FirstSteps, iW (tI3 (List.mem_of_getElem? (i := 141) (by decide +kernel))) (by decide +kernel), ⟨by decide +kernel, by decide +kernel, by decide +kernel⟩⟩
abbrev iX10_init : fMI := (yX10_init, cX10_init, 1, none)
theorem c_X10_init : CalI iX10_init 0 := ⟨iW (tI4 (List.mem_of_getElem? (i := 182) (by decide +kernel))) (by decide +kernel), ini_FirstStepsModel, iW (tI4 (List.mem_of_getElem? (i := 181) (by decide +kernel))) (by decide +kernel), rfl, ⟨by decide +kernel, by decide +kernel, by decide +kernel⟩⟩
abbrev iX10_finding : fMI := (yX10_finding, cX10_finding, 2, (some .int))
theorem c_X10_finding : CalV iX10_finding 1 := ⟨iW (tI5 (List.mem_of_getElem? (i := 48) (by decide +kernel))) (by decide +kernel), ini_FirstStepsModel, iW (tI5 (List.mem_of_getElem? (i := 47) (by decide +kernel))) (by decide +kernel), iW (tIp (q := (yX10_finding, 28)) (List.mem_of_getElem? (i := 24) (by decide +kernel))) (by decide +kernel), ⟨by decide +kernel, by decide +kernel, by decide +kernel⟩⟩
abbrev iX10_within : fMI := (yX10_within, cX10_within, 3, (some .boolean))
theorem c_X10_within : CalS iX10_within 3 := ⟨iW (tI5 (List.mem_of_getElem? (i := 39) (by decide +kernel))) (by decide +kernel), ini_FirstStepsModel, iW (tI5 (List.mem_of_getElem? (i := 38) (by decide +kernel))) (by decide +kernel), ⟨by decide +kernel, by decide +kernel, by decide +kernel⟩⟩
abbrev iX10_held : fMI := (yX10_held, cX10_held, 3, (some .int))
theorem c_X10_held : CalS iX10_held 3 := ⟨iW (tI5 (List.mem_of_getElem? (i := 130) (by decide +kernel))) (by decide +kernel), ini_FirstStepsModel, iW (tI5 (List.mem_of_getElem? (i := 129) (by decide +kernel))) (by decide +kernel), ⟨by decide +kernel, by decide +kernel, by decide +kernel⟩⟩
abbrev iX10_isOf : fMI := (yX10_isOf, cX10_isOf, 3, (some .boolean))
theorem c_X10_isOf : CalV iX10_isOf 2 := ⟨iW (tI5 (List.mem_of_getElem? (i := 69) (by decide +kernel))) (by decide +kernel), ini_FirstStepsModel, iW (tI5 (List.mem_of_getElem? (i := 68) (by decide +kernel))) (by decide +kernel), iW (tIp (q := (yX10_isOf, 28)) (List.mem_of_getElem? (i := 26) (by decide +kernel))) (by decide +kernel), ⟨by decide +kernel, by decide +kernel, by decide +kernel⟩⟩
abbrev iX10_copy : fMI := (yX10_copy, cX10_copy, 3, none)
theorem c_X10_copy : CalS iX10_copy 2 := ⟨iW (tI6 (List.mem_of_getElem? (i := 77) (by decide +kernel))) (by decide +kernel), ini_FirstStepsModel, iW (tI6 (List.mem_of_getElem? (i := 76) (by decide +kernel))) (by decide +kernel), ⟨by decide +kernel, by decide +kernel, by decide +kernel⟩⟩
abbrev iX10_become : fMI := (yX10_become, cX10_become, 4, (some .int))
theorem c_X10_become : CalV iX10_become 2 := ⟨iW (tI5 (List.mem_of_getElem? (i := 43) (by decide +kernel))) (by decide +kernel), ini_FirstStepsModel, iW (tI5 (List.mem_of_getElem? (i := 42) (by decide +kernel))) (by decide +kernel), iW (tIp (q := (yX10_become, 28)) (List.mem_of_getElem? (i := 23) (by decide +kernel))) (by decide +kernel), ⟨by decide +kernel, by decide +kernel, by decide +kernel⟩⟩
abbrev iX10_putBack : fMI := (yX10_putBack, cX10_putBack, 2, (some .int))
theorem c_X10_putBack : CalV iX10_putBack 1 := ⟨iW (tI6 (List.mem_of_getElem? (i := 81) (by decide +kernel))) (by decide +kernel), ini_FirstStepsModel, iW (tI6 (List.mem_of_getElem? (i := 80) (by decide +kernel))) (by decide +kernel), iW (tIp (q := (yX10_putBack, 28)) (List.mem_of_getElem? (i := 62) (by decide +kernel))) (by decide +kernel), ⟨by decide +kernel, by decide +kernel, by decide +kernel⟩⟩
abbrev iX10_more : fMI := (yX10_more, cX10_more, 3, none)
theorem c_X10_more : CalV iX10_more 2 := ⟨iW (tI6 (List.mem_of_getElem? (i := 27) (by decide +kernel))) (by decide +kernel), ini_FirstStepsModel, iW (tI6 (List.mem_of_getElem? (i := 26) (by decide +kernel))) (by decide +kernel), iW (tIp (q := (yX10_more, 28)) (List.mem_of_getElem? (i := 54) (by decide +kernel))) (by decide +kernel), ⟨by decide +kernel, by decide +kernel, by decide +kernel⟩⟩
abbrev iX10_floor : fMI := (yX10_floor, cX10_floor, 5, (some .int))
theorem c_X10_floor : CalV iX10_floor 3 := ⟨iW (tI5 (List.mem_of_getElem? (i := 36) (by decide +kernel))) (by decide +kernel), ini_FirstStepsModel, iW (tI5 (List.mem_of_getElem? (i := 34) (by decide +kernel))) (by decide +kernel), iW (tI5 (List.mem_of_getElem? (i := 35) (by decide +kernel))) (by decide +kernel), ⟨by decide +kernel, by decide +kernel, by decide +kernel⟩⟩
abbrev iX10_slip : fMI := (yX10_slip, cX10_slip, 1, (some .int))
theorem c_X10_slip : CalV iX10_slip 0 := ⟨iW (tI6 (List.mem_of_getElem? (i := 20) (by decide +kernel))) (by decide +kernel), ini_FirstStepsModel, iW (tI6 (List.mem_of_getElem? (i := 19) (by decide +kernel))) (by decide +kernel), iW (tIp (q := (yX10_slip, 28)) (List.mem_of_getElem? (i := 53) (by decide +kernel))) (by decide +kernel), ⟨by decide +kernel, by decide +kernel, by decide +kernel⟩⟩
abbrev iX10_slope : fMI := (yX10_slope, cX10_slope, 1, (some .int))
theorem c_X10_slope : CalV iX10_slope 0 := ⟨iW (tI5 (List.mem_of_getElem? (i := 148) (by decide +kernel))) (by decide +kernel), ini_FirstStepsModel, iW (tI5 (List.mem_of_getElem? (i := 147) (by decide +kernel))) (by decide +kernel), iW (tIp (q := (yX10_slope, 28)) (List.mem_of_getElem? (i := 38) (by decide +kernel))) (by decide +kernel), ⟨by decide +kernel, by decide +kernel, by decide +kernel⟩⟩
abbrev iX10_holdOf : fMI := (yX10_holdOf, cX10_holdOf, 3, (some .int))
theorem c_X10_holdOf : CalV iX10_holdOf 2 := ⟨iW (tI5 (List.mem_of_getElem? (i := 73) (by decide +kernel))) (by decide +kernel), ini_FirstStepsModel, iW (tI5 (List.mem_of_getElem? (i := 72) (by decide +kernel))) (by decide +kernel), iW (tIp (q := (yX10_holdOf, 28)) (List.mem_of_getElem? (i := 27) (by decide +kernel))) (by decide +kernel), ⟨by decide +kernel, by decide +kernel, by decide +kernel⟩⟩
abbrev iX10_isAsTold : fMI := (yX10_isAsTold, cX10_isAsTold, 2, (some .boolean))
theorem c_X10_isAsTold : CalS iX10_isAsTold 2 := ⟨iW (tI5 (List.mem_of_getElem? (i := 56) (by decide +kernel))) (by decide +kernel), ini_FirstStepsModel, iW (tI5 (List.mem_of_getElem? (i := 55) (by decide +kernel))) (by decide +kernel), ⟨by decide +kernel, by decide +kernel, by decide +kernel⟩⟩
abbrev iX10_stands : fMI := (yX10_stands, cX10_stands, 4, (some .int))
theorem c_X10_stands : CalV iX10_stands 2 := ⟨iW (tI5 (List.mem_of_getElem? (i := 61) (by decide +kernel))) (by decide +kernel), ini_FirstStepsModel, iW (tI5 (List.mem_of_getElem? (i := 60) (by decide +kernel))) (by decide +kernel), iW (tIp (q := (yX10_stands, 28)) (List.mem_of_getElem? (i := 25) (by decide +kernel))) (by decide +kernel), ⟨by decide +kernel, by decide +kernel, by decide +kernel⟩⟩
abbrev iX10_hold : fMI := (yX10_hold, cX10_hold, 3, (some .int))
theorem c_X10_hold : CalV iX10_hold 2 := ⟨iW (tI5 (List.mem_of_getElem? (i := 53) (by decide +kernel))) (by decide +kernel), ini_FirstStepsModel, iW (tI5 (List.mem_of_getElem? (i := 51) (by decide +kernel))) (by decide +kernel), iW (tI5 (List.mem_of_getElem? (i := 52) (by decide +kernel))) (by decide +kernel), ⟨by decide +kernel, by decide +kernel, by decide +kernel⟩⟩
abbrev iX10_distance : fMI := (yX10_distance, cX10_distance, 2, (some .int))
theorem c_X10_distance : CalV iX10_distance 1 := ⟨iW (tI5 (List.mem_of_getElem? (i := 81) (by decide +kernel))) (by decide +kernel), ini_FirstStepsModel, iW (tI5 (List.mem_of_getElem? (i := 80) (by decide +kernel))) (by decide +kernel), iW (tIp (q := (yX10_distance, 28)) (List.mem_of_getElem? (i := 29) (by decide +kernel))) (by decide +kernel), ⟨by decide +kernel, by decide +kernel, by decide +kernel⟩⟩
abbrev iX10_isAtHand : fMI := (yX10_isAtHand, cX10_isAtHand, 2, (some .boolean))
theorem c_X10_isAtHand : CalV iX10_isAtHand 1 := ⟨iW (tI5 (List.mem_of_getElem? (i := 77) (by decide +kernel))) (by decide +kernel), ini_FirstStepsModel, iW (tI5 (List.mem_of_getElem? (i := 76) (by decide +kernel))) (by decide +kernel), iW (tIp (q := (yX10_isAtHand, 28)) (List.mem_of_getElem? (i := 28) (by decide +kernel))) (by decide +kernel), ⟨by decide +kernel, by decide +kernel, by decide +kernel⟩⟩
abbrev iX10_holdIs : fMI := (yX10_holdIs, cX10_holdIs, 3, (some .int))
theorem c_X10_holdIs : CalV iX10_holdIs 2 := ⟨iW (tI5 (List.mem_of_getElem? (i := 65) (by decide +kernel))) (by decide +kernel), ini_FirstStepsModel, iW (tI5 (List.mem_of_getElem? (i := 63) (by decide +kernel))) (by decide +kernel), iW (tI5 (List.mem_of_getElem? (i := 64) (by decide +kernel))) (by decide +kernel), ⟨by decide +kernel, by decide +kernel, by decide +kernel⟩⟩
abbrev iX10_setHold : fMI := (yX10_setHold, cX10_setHold, 5, (some .int))
theorem c_X10_setHold : CalV iX10_setHold 3 := ⟨iW (tI5 (List.mem_of_getElem? (i := 86) (by decide +kernel))) (by decide +kernel), ini_FirstStepsModel, iW (tI5 (List.mem_of_getElem? (i := 84) (by decide +kernel))) (by decide +kernel), iW (tI5 (List.mem_of_getElem? (i := 85) (by decide +kernel))) (by decide +kernel), ⟨by decide +kernel, by decide +kernel, by decide +kernel⟩⟩
abbrev iX10_set : fMI := (yX10_set, cX10_set, 3, (some .int))
theorem c_X10_set : CalV iX10_set 2 := ⟨iW (tI5 (List.mem_of_getElem? (i := 90) (by decide +kernel))) (by decide +kernel), ini_FirstStepsModel, iW (tI5 (List.mem_of_getElem? (i := 88) (by decide +kernel))) (by decide +kernel), iW (tI5 (List.mem_of_getElem? (i := 89) (by decide +kernel))) (by decide +kernel), ⟨by decide +kernel, by decide +kernel, by decide +kernel⟩⟩
abbrev iX10_is : fMI := (yX10_is, cX10_is, 2, (some .int))
theorem c_X10_is : CalV iX10_is 1 := ⟨iW (tI5 (List.mem_of_getElem? (i := 94) (by decide +kernel))) (by decide +kernel), ini_FirstStepsModel, iW (tI5 (List.mem_of_getElem? (i := 92) (by decide +kernel))) (by decide +kernel), iW (tI5 (List.mem_of_getElem? (i := 93) (by decide +kernel))) (by decide +kernel), ⟨by decide +kernel, by decide +kernel, by decide +kernel⟩⟩
abbrev iX10_nearestOf : fMI := (yX10_nearestOf, cX10_nearestOf, 3, (some .int))
theorem c_X10_nearestOf : CalV iX10_nearestOf 0 := ⟨iW (tI5 (List.mem_of_getElem? (i := 102) (by decide +kernel))) (by decide +kernel), ini_FirstStepsModel, iW (tI5 (List.mem_of_getElem? (i := 101) (by decide +kernel))) (by decide +kernel), iW (tIp (q := (yX10_nearestOf, 28)) (List.mem_of_getElem? (i := 30) (by decide +kernel))) (by decide +kernel), ⟨by decide +kernel, by decide +kernel, by decide +kernel⟩⟩
abbrev iX10_nearest : fMI := (yX10_nearest, cX10_nearest, 2, (some .int))
theorem c_X10_nearest : CalV iX10_nearest 0 := ⟨iW (tI5 (List.mem_of_getElem? (i := 98) (by decide +kernel))) (by decide +kernel), ini_FirstStepsModel, iW (tI5 (List.mem_of_getElem? (i := 96) (by decide +kernel))) (by decide +kernel), iW (tI5 (List.mem_of_getElem? (i := 97) (by decide +kernel))) (by decide +kernel), ⟨by decide +kernel, by decide +kernel, by decide +kernel⟩⟩
abbrev iX10_hasAtHand : fMI := (yX10_hasAtHand, cX10_hasAtHand, 2, (some .boolean))
theorem c_X10_hasAtHand : CalV iX10_hasAtHand 0 := ⟨iW (tI5 (List.mem_of_getElem? (i := 127) (by decide +kernel))) (by decide +kernel), ini_FirstStepsModel, iW (tI5 (List.mem_of_getElem? (i := 126) (by decide +kernel))) (by decide +kernel), iW (tIp (q := (yX10_hasAtHand, 28)) (List.mem_of_getElem? (i := 34) (by decide +kernel))) (by decide +kernel), ⟨by decide +kernel, by decide +kernel, by decide +kernel⟩⟩
abbrev iX10_goingOf : fMI := (yX10_goingOf, cX10_goingOf, 3, (some .int))
theorem c_X10_goingOf : CalV iX10_goingOf 2 := ⟨iW (tI5 (List.mem_of_getElem? (i := 115) (by decide +kernel))) (by decide +kernel), ini_FirstStepsModel, iW (tI5 (List.mem_of_getElem? (i := 114) (by decide +kernel))) (by decide +kernel), iW (tIp (q := (yX10_goingOf, 28)) (List.mem_of_getElem? (i := 32) (by decide +kernel))) (by decide +kernel), ⟨by decide +kernel, by decide +kernel, by decide +kernel⟩⟩
abbrev iX10_comesNow : fMI := (yX10_comesNow, cX10_comesNow, 2, none)
theorem c_X10_comesNow : CalV iX10_comesNow 1 := ⟨iW (tI5 (List.mem_of_getElem? (i := 111) (by decide +kernel))) (by decide +kernel), ini_FirstStepsModel, iW (tI5 (List.mem_of_getElem? (i := 110) (by decide +kernel))) (by decide +kernel), iW (tIp (q := (yX10_comesNow, 28)) (List.mem_of_getElem? (i := 31) (by decide +kernel))) (by decide +kernel), ⟨by decide +kernel, by decide +kernel, by decide +kernel⟩⟩
abbrev iX10_going : fMI := (yX10_going, cX10_going, 4, (some .int))
theorem c_X10_going : CalV iX10_going 2 := ⟨iW (tI5 (List.mem_of_getElem? (i := 107) (by decide +kernel))) (by decide +kernel), ini_FirstStepsModel, iW (tI5 (List.mem_of_getElem? (i := 105) (by decide +kernel))) (by decide +kernel), iW (tI5 (List.mem_of_getElem? (i := 106) (by decide +kernel))) (by decide +kernel), ⟨by decide +kernel, by decide +kernel, by decide +kernel⟩⟩
abbrev iX10_swaysOf : fMI := (yX10_swaysOf, cX10_swaysOf, 3, (some .int))
theorem c_X10_swaysOf : CalV iX10_swaysOf 1 := ⟨iW (tI5 (List.mem_of_getElem? (i := 123) (by decide +kernel))) (by decide +kernel), ini_FirstStepsModel, iW (tI5 (List.mem_of_getElem? (i := 122) (by decide +kernel))) (by decide +kernel), iW (tIp (q := (yX10_swaysOf, 28)) (List.mem_of_getElem? (i := 33) (by decide +kernel))) (by decide +kernel), ⟨by decide +kernel, by decide +kernel, by decide +kernel⟩⟩
abbrev iX10_strideOf : fMI := (yX10_strideOf, cX10_strideOf, 2, (some .int))
theorem c_X10_strideOf : CalV iX10_strideOf 1 := ⟨iW (tI5 (List.mem_of_getElem? (i := 136) (by decide +kernel))) (by decide +kernel), ini_FirstStepsModel, iW (tI5 (List.mem_of_getElem? (i := 135) (by decide +kernel))) (by decide +kernel), iW (tIp (q := (yX10_strideOf, 28)) (List.mem_of_getElem? (i := 35) (by decide +kernel))) (by decide +kernel), ⟨by decide +kernel, by decide +kernel, by decide +kernel⟩⟩
abbrev iX10_paceOf : fMI := (yX10_paceOf, cX10_paceOf, 2, (some .int))
theorem c_X10_paceOf : CalV iX10_paceOf 1 := ⟨iW (tI5 (List.mem_of_getElem? (i := 140) (by decide +kernel))) (by decide +kernel), ini_FirstStepsModel, iW (tI5 (List.mem_of_getElem? (i := 139) (by decide +kernel))) (by decide +kernel), iW (tIp (q := (yX10_paceOf, 28)) (List.mem_of_getElem? (i := 36) (by decide +kernel))) (by decide +kernel), ⟨by decide +kernel, by decide +kernel, by decide +kernel⟩⟩
abbrev iX10_catchOf : fMI := (yX10_catchOf, cX10_catchOf, 3, (some .int))
theorem c_X10_catchOf : CalV iX10_catchOf 1 := ⟨iW (tI5 (List.mem_of_getElem? (i := 144) (by decide +kernel))) (by decide +kernel), ini_FirstStepsModel, iW (tI5 (List.mem_of_getElem? (i := 143) (by decide +kernel))) (by decide +kernel), iW (tIp (q := (yX10_catchOf, 28)) (List.mem_of_getElem? (i := 37) (by decide +kernel))) (by decide +kernel), ⟨by decide +kernel, by decide +kernel, by decide +kernel⟩⟩
abbrev iX10_goingIs : fMI := (yX10_goingIs, cX10_goingIs, 3, (some .int))
theorem c_X10_goingIs : CalV iX10_goingIs 2 := ⟨iW (tI5 (List.mem_of_getElem? (i := 119) (by decide +kernel))) (by decide +kernel), ini_FirstStepsModel, iW (tI5 (List.mem_of_getElem? (i := 117) (by decide +kernel))) (by decide +kernel), iW (tI5 (List.mem_of_getElem? (i := 118) (by decide +kernel))) (by decide +kernel), ⟨by decide +kernel, by decide +kernel, by decide +kernel⟩⟩
abbrev iX10_above : fMI := (yX10_above, cX10_above, 1, (some .int))
theorem c_X10_above : CalS iX10_above 1 := ⟨iW (tI5 (List.mem_of_getElem? (i := 155) (by decide +kernel))) (by decide +kernel), ini_FirstStepsModel, iW (tI5 (List.mem_of_getElem? (i := 154) (by decide +kernel))) (by decide +kernel), ⟨by decide +kernel, by decide +kernel, by decide +kernel⟩⟩
abbrev iX10_as : fMI := (yX10_as, cX10_as, 4, (some .int))
theorem c_X10_as : CalV iX10_as 2 := ⟨iW (tI5 (List.mem_of_getElem? (i := 152) (by decide +kernel))) (by decide +kernel), ini_FirstStepsModel, iW (tI5 (List.mem_of_getElem? (i := 150) (by decide +kernel))) (by decide +kernel), iW (tI5 (List.mem_of_getElem? (i := 151) (by decide +kernel))) (by decide +kernel), ⟨by decide +kernel, by decide +kernel, by decide +kernel⟩⟩
abbrev iX10_setGoing : fMI := (yX10_setGoing, cX10_setGoing, 5, (some .int))
theorem c_X10_setGoing : CalV iX10_setGoing 3 := ⟨iW (tI5 (List.mem_of_getElem? (i := 160) (by decide +kernel))) (by decide +kernel), ini_FirstStepsModel, iW (tI5 (List.mem_of_getElem? (i := 158) (by decide +kernel))) (by decide +kernel), iW (tI5 (List.mem_of_getElem? (i := 159) (by decide +kernel))) (by decide +kernel), ⟨by decide +kernel, by decide +kernel, by decide +kernel⟩⟩
abbrev iX10_feed : fMI := (yX10_feed, cX10_feed, 5, (some .int))
theorem c_X10_feed : CalV iX10_feed 2 := ⟨iW (tI5 (List.mem_of_getElem? (i := 164) (by decide +kernel))) (by decide +kernel), ini_FirstStepsModel, iW (tI5 (List.mem_of_getElem? (i := 162) (by decide +kernel))) (by decide +kernel), iW (tI5 (List.mem_of_getElem? (i := 163) (by decide +kernel))) (by decide +kernel), ⟨by decide +kernel, by decide +kernel, by decide +kernel⟩⟩
abbrev iX10_here : fMI := (yX10_here, cX10_here, 1, (some .int))
theorem c_X10_here : CalV iX10_here 0 := ⟨iW (tI5 (List.mem_of_getElem? (i := 197) (by decide +kernel))) (by decide +kernel), ini_FirstStepsModel, iW (tI5 (List.mem_of_getElem? (i := 196) (by decide +kernel))) (by decide +kernel), iW (tIp (q := (yX10_here, 28)) (List.mem_of_getElem? (i := 45) (by decide +kernel))) (by decide +kernel), ⟨by decide +kernel, by decide +kernel, by decide +kernel⟩⟩
abbrev iX10_takes : fMI := (yX10_takes, cX10_takes, 3, (some .boolean))
theorem c_X10_takes : CalV iX10_takes 1 := ⟨iW (tI5 (List.mem_of_getElem? (i := 205) (by decide +kernel))) (by decide +kernel), ini_FirstStepsModel, iW (tI5 (List.mem_of_getElem? (i := 204) (by decide +kernel))) (by decide +kernel), iW (tIp (q := (yX10_takes, 28)) (List.mem_of_getElem? (i := 47) (by decide +kernel))) (by decide +kernel), ⟨by decide +kernel, by decide +kernel, by decide +kernel⟩⟩
abbrev iX10_codes : fMI := (yX10_codes, cX10_codes, 2, none)
theorem c_X10_codes : CalV iX10_codes 1 := ⟨iW (tI5 (List.mem_of_getElem? (i := 201) (by decide +kernel))) (by decide +kernel), ini_FirstStepsModel, iW (tI5 (List.mem_of_getElem? (i := 200) (by decide +kernel))) (by decide +kernel), iW (tIp (q := (yX10_codes, 28)) (List.mem_of_getElem? (i := 46) (by decide +kernel))) (by decide +kernel), ⟨by decide +kernel, by decide +kernel, by decide +kernel⟩⟩
abbrev iX10_either : fMI := (yX10_either, cX10_either, 1, none)
theorem c_X10_either : CalV iX10_either 0 := ⟨iW (tI5 (List.mem_of_getElem? (i := 173) (by decide +kernel))) (by decide +kernel), ini_FirstStepsModel, iW (tI5 (List.mem_of_getElem? (i := 172) (by decide +kernel))) (by decide +kernel), iW (tIp (q := (yX10_either, 28)) (List.mem_of_getElem? (i := 39) (by decide +kernel))) (by decide +kernel), ⟨by decide +kernel, by decide +kernel, by decide +kernel⟩⟩
abbrev iX10_both : fMI := (yX10_both, cX10_both, 1, none)
theorem c_X10_both : CalV iX10_both 0 := ⟨iW (tI5 (List.mem_of_getElem? (i := 177) (by decide +kernel))) (by decide +kernel), ini_FirstStepsModel, iW (tI5 (List.mem_of_getElem? (i := 176) (by decide +kernel))) (by decide +kernel), iW (tIp (q := (yX10_both, 28)) (List.mem_of_getElem? (i := 40) (by decide +kernel))) (by decide +kernel), ⟨by decide +kernel, by decide +kernel, by decide +kernel⟩⟩
abbrev iX10_compared : fMI := (yX10_compared, cX10_compared, 2, none)
theorem c_X10_compared : CalV iX10_compared 0 := ⟨iW (tI5 (List.mem_of_getElem? (i := 181) (by decide +kernel))) (by decide +kernel), ini_FirstStepsModel, iW (tI5 (List.mem_of_getElem? (i := 180) (by decide +kernel))) (by decide +kernel), iW (tIp (q := (yX10_compared, 28)) (List.mem_of_getElem? (i := 41) (by decide +kernel))) (by decide +kernel), ⟨by decide +kernel, by decide +kernel, by decide +kernel⟩⟩
abbrev iX10_sum : fMI := (yX10_sum, cX10_sum, 2, none)
theorem c_X10_sum : CalV iX10_sum 0 := ⟨iW (tI5 (List.mem_of_getElem? (i := 185) (by decide +kernel))) (by decide +kernel), ini_FirstStepsModel, iW (tI5 (List.mem_of_getElem? (i := 184) (by decide +kernel))) (by decide +kernel), iW (tIp (q := (yX10_sum, 28)) (List.mem_of_getElem? (i := 42) (by decide +kernel))) (by decide +kernel), ⟨by decide +kernel, by decide +kernel, by decide +kernel⟩⟩
abbrev iX10_product : fMI := (yX10_product, cX10_product, 2, none)
theorem c_X10_product : CalV iX10_product 0 := ⟨iW (tI5 (List.mem_of_getElem? (i := 189) (by decide +kernel))) (by decide +kernel), ini_FirstStepsModel, iW (tI5 (List.mem_of_getElem? (i := 188) (by decide +kernel))) (by decide +kernel), iW (tIp (q := (yX10_product, 28)) (List.mem_of_getElem? (i := 43) (by decide +kernel))) (by decide +kernel), ⟨by decide +kernel, by decide +kernel, by decide +kernel⟩⟩
abbrev iX10_nameOf : fMI := (yX10_nameOf, cX10_nameOf, 4, (some .int))
theorem c_X10_nameOf : CalV iX10_nameOf 1 := ⟨iW (tI5 (List.mem_of_getElem? (i := 209) (by decide +kernel))) (by decide +kernel), ini_FirstStepsModel, iW (tI5 (List.mem_of_getElem? (i := 208) (by decide +kernel))) (by decide +kernel), iW (tIp (q := (yX10_nameOf, 28)) (List.mem_of_getElem? (i := 48) (by decide +kernel))) (by decide +kernel), ⟨by decide +kernel, by decide +kernel, by decide +kernel⟩⟩
abbrev iX10_one : fMI := (yX10_one, cX10_one, 4, none)
theorem c_X10_one : CalV iX10_one 0 := ⟨iW (tI5 (List.mem_of_getElem? (i := 193) (by decide +kernel))) (by decide +kernel), ini_FirstStepsModel, iW (tI5 (List.mem_of_getElem? (i := 192) (by decide +kernel))) (by decide +kernel), iW (tIp (q := (yX10_one, 28)) (List.mem_of_getElem? (i := 44) (by decide +kernel))) (by decide +kernel), ⟨by decide +kernel, by decide +kernel, by decide +kernel⟩⟩
abbrev iX10_text : fMI := (yX10_text, cX10_text, 3, (some .int))
theorem c_X10_text : CalV iX10_text 1 := ⟨iW (tI5 (List.mem_of_getElem? (i := 169) (by decide +kernel))) (by decide +kernel), ini_FirstStepsModel, iW (tI5 (List.mem_of_getElem? (i := 167) (by decide +kernel))) (by decide +kernel), iW (tI5 (List.mem_of_getElem? (i := 168) (by decide +kernel))) (by decide +kernel), ⟨by decide +kernel, by decide +kernel, by decide +kernel⟩⟩
abbrev iX10_untell : fMI := (yX10_untell, cX10_untell, 2, (some .int))
theorem c_X10_untell : CalV iX10_untell 1 := ⟨iW (tI5 (List.mem_of_getElem? (i := 234) (by decide +kernel))) (by decide +kernel), ini_FirstStepsModel, iW (tI5 (List.mem_of_getElem? (i := 232) (by decide +kernel))) (by decide +kernel), iW (tI5 (List.mem_of_getElem? (i := 233) (by decide +kernel))) (by decide +kernel), ⟨by decide +kernel, by decide +kernel, by decide +kernel⟩⟩
abbrev iX10_done : fMI := (yX10_done, cX10_done, 3, (some .int))
theorem c_X10_done : CalS iX10_done 3 := ⟨iW (tI6 (List.mem_of_getElem? (i := 55) (by decide +kernel))) (by decide +kernel), ini_FirstStepsModel, iW (tI6 (List.mem_of_getElem? (i := 54) (by decide +kernel))) (by decide +kernel), ⟨by decide +kernel, by decide +kernel, by decide +kernel⟩⟩
abbrev iX10_worked : fMI := (yX10_worked, cX10_worked, 5, (some .int))
theorem c_X10_worked : CalV iX10_worked 1 := ⟨iW (tI6 (List.mem_of_getElem? (i := 52) (by decide +kernel))) (by decide +kernel), ini_FirstStepsModel, iW (tI6 (List.mem_of_getElem? (i := 51) (by decide +kernel))) (by decide +kernel), iW (tIp (q := (yX10_worked, 28)) (List.mem_of_getElem? (i := 60) (by decide +kernel))) (by decide +kernel), ⟨by decide +kernel, by decide +kernel, by decide +kernel⟩⟩
abbrev iX10_hasText : fMI := (yX10_hasText, cX10_hasText, 2, (some .boolean))
theorem c_X10_hasText : CalV iX10_hasText 1 := ⟨iW (tI6 (List.mem_of_getElem? (i := 44) (by decide +kernel))) (by decide +kernel), ini_FirstStepsModel, iW (tI6 (List.mem_of_getElem? (i := 43) (by decide +kernel))) (by decide +kernel), iW (tIp (q := (yX10_hasText, 28)) (List.mem_of_getElem? (i := 58) (by decide +kernel))) (by decide +kernel), ⟨by decide +kernel, by decide +kernel, by decide +kernel⟩⟩
abbrev iX10_given : fMI := (yX10_given, cX10_given, 7, (some .int))
theorem c_X10_given : CalV iX10_given 6 := ⟨iW (tI6 (List.mem_of_getElem? (i := 48) (by decide +kernel))) (by decide +kernel), ini_FirstStepsModel, iW (tI6 (List.mem_of_getElem? (i := 47) (by decide +kernel))) (by decide +kernel), iW (tIp (q := (yX10_given, 28)) (List.mem_of_getElem? (i := 59) (by decide +kernel))) (by decide +kernel), ⟨by decide +kernel, by decide +kernel, by decide +kernel⟩⟩
abbrev iX10_learns : fMI := (yX10_learns, cX10_learns, 2, (some .int))
theorem c_X10_learns : CalV iX10_learns 1 := ⟨iW (tI6 (List.mem_of_getElem? (i := 40) (by decide +kernel))) (by decide +kernel), ini_FirstStepsModel, iW (tI6 (List.mem_of_getElem? (i := 39) (by decide +kernel))) (by decide +kernel), iW (tIp (q := (yX10_learns, 28)) (List.mem_of_getElem? (i := 57) (by decide +kernel))) (by decide +kernel), ⟨by decide +kernel, by decide +kernel, by decide +kernel⟩⟩
abbrev iX10_dares : fMI := (yX10_dares, cX10_dares, 2, (some .boolean))
theorem c_X10_dares : CalV iX10_dares 1 := ⟨iW (tI6 (List.mem_of_getElem? (i := 104) (by decide +kernel))) (by decide +kernel), ini_FirstStepsModel, iW (tI6 (List.mem_of_getElem? (i := 103) (by decide +kernel))) (by decide +kernel), iW (tIp (q := (yX10_dares, 28)) (List.mem_of_getElem? (i := 65) (by decide +kernel))) (by decide +kernel), ⟨by decide +kernel, by decide +kernel, by decide +kernel⟩⟩
abbrev iX10_drawn : fMI := (yX10_drawn, cX10_drawn, 2, (some .int))
theorem c_X10_drawn : CalV iX10_drawn 1 := ⟨iW (tI6 (List.mem_of_getElem? (i := 11) (by decide +kernel))) (by decide +kernel), ini_FirstStepsModel, iW (tI6 (List.mem_of_getElem? (i := 10) (by decide +kernel))) (by decide +kernel), iW (tIp (q := (yX10_drawn, 28)) (List.mem_of_getElem? (i := 51) (by decide +kernel))) (by decide +kernel), ⟨by decide +kernel, by decide +kernel, by decide +kernel⟩⟩
abbrev iX10_nearer : fMI := (yX10_nearer, cX10_nearer, 2, (some .int))
theorem c_X10_nearer : CalS iX10_nearer 2 := ⟨iW (tI6 (List.mem_of_getElem? (i := 23) (by decide +kernel))) (by decide +kernel), ini_FirstStepsModel, iW (tI6 (List.mem_of_getElem? (i := 22) (by decide +kernel))) (by decide +kernel), ⟨by decide +kernel, by decide +kernel, by decide +kernel⟩⟩
abbrev iX10_isStep : fMI := (yX10_isStep, cX10_isStep, 3, (some .boolean))
theorem c_X10_isStep : CalV iX10_isStep 1 := ⟨iW (tI6 (List.mem_of_getElem? (i := 16) (by decide +kernel))) (by decide +kernel), ini_FirstStepsModel, iW (tI6 (List.mem_of_getElem? (i := 15) (by decide +kernel))) (by decide +kernel), iW (tIp (q := (yX10_isStep, 28)) (List.mem_of_getElem? (i := 52) (by decide +kernel))) (by decide +kernel), ⟨by decide +kernel, by decide +kernel, by decide +kernel⟩⟩
abbrev iX10_goesOn : fMI := (yX10_goesOn, cX10_goesOn, 3, (some .int))
theorem c_X10_goesOn : CalV iX10_goesOn 1 := ⟨iW (tI6 (List.mem_of_getElem? (i := 32) (by decide +kernel))) (by decide +kernel), ini_FirstStepsModel, iW (tI6 (List.mem_of_getElem? (i := 31) (by decide +kernel))) (by decide +kernel), iW (tIp (q := (yX10_goesOn, 28)) (List.mem_of_getElem? (i := 55) (by decide +kernel))) (by decide +kernel), ⟨by decide +kernel, by decide +kernel, by decide +kernel⟩⟩
abbrev iX10_oneLess : fMI := (yX10_oneLess, cX10_oneLess, 1, none)
theorem c_X10_oneLess : CalV iX10_oneLess 0 := ⟨iW (tI6 (List.mem_of_getElem? (i := 59) (by decide +kernel))) (by decide +kernel), ini_FirstStepsModel, iW (tI6 (List.mem_of_getElem? (i := 58) (by decide +kernel))) (by decide +kernel), iW (tIp (q := (yX10_oneLess, 28)) (List.mem_of_getElem? (i := 61) (by decide +kernel))) (by decide +kernel), ⟨by decide +kernel, by decide +kernel, by decide +kernel⟩⟩
abbrev iX10_falls : fMI := (yX10_falls, cX10_falls, 3, none)
theorem c_X10_falls : CalV iX10_falls 0 := ⟨iW (tI6 (List.mem_of_getElem? (i := 36) (by decide +kernel))) (by decide +kernel), ini_FirstStepsModel, iW (tI6 (List.mem_of_getElem? (i := 35) (by decide +kernel))) (by decide +kernel), iW (tIp (q := (yX10_falls, 28)) (List.mem_of_getElem? (i := 56) (by decide +kernel))) (by decide +kernel), ⟨by decide +kernel, by decide +kernel, by decide +kernel⟩⟩
abbrev iX10_tenth : fMI := (yX10_tenth, cX10_tenth, 5, none)
theorem c_X10_tenth : CalV iX10_tenth 0 := ⟨iW (tI6 (List.mem_of_getElem? (i := 7) (by decide +kernel))) (by decide +kernel), ini_FirstStepsModel, iW (tI6 (List.mem_of_getElem? (i := 6) (by decide +kernel))) (by decide +kernel), iW (tIp (q := (yX10_tenth, 28)) (List.mem_of_getElem? (i := 50) (by decide +kernel))) (by decide +kernel), ⟨by decide +kernel, by decide +kernel, by decide +kernel⟩⟩
abbrev iX10_tenthsGo : fMI := (yX10_tenthsGo, cX10_tenthsGo, 3, none)
theorem c_X10_tenthsGo : CalV iX10_tenthsGo 1 := ⟨iW (tI6 (List.mem_of_getElem? (i := 3) (by decide +kernel))) (by decide +kernel), ini_FirstStepsModel, iW (tI6 (List.mem_of_getElem? (i := 2) (by decide +kernel))) (by decide +kernel), iW (tIp (q := (yX10_tenthsGo, 28)) (List.mem_of_getElem? (i := 49) (by decide +kernel))) (by decide +kernel), ⟨by decide +kernel, by decide +kernel, by decide +kernel⟩⟩
abbrev iX10_tenths : fMI := (yX10_tenths, cX10_tenths, 2, (some .int))
theorem c_X10_tenths : CalV iX10_tenths 1 := ⟨iW (tI5 (List.mem_of_getElem? (i := 238) (by decide +kernel))) (by decide +kernel), ini_FirstStepsModel, iW (tI5 (List.mem_of_getElem? (i := 236) (by decide +kernel))) (by decide +kernel), iW (tI5 (List.mem_of_getElem? (i := 237) (by decide +kernel))) (by decide +kernel), ⟨by decide +kernel, by decide +kernel, by decide +kernel⟩⟩
abbrev iX10_days : fMI := (yX10_days, cX10_days, 3, (some .int))
theorem c_X10_days : CalV iX10_days 1 := ⟨iW (tI6 (List.mem_of_getElem? (i := 63) (by decide +kernel))) (by decide +kernel), ini_FirstStepsModel, iW (tI6 (List.mem_of_getElem? (i := 61) (by decide +kernel))) (by decide +kernel), iW (tI6 (List.mem_of_getElem? (i := 62) (by decide +kernel))) (by decide +kernel), ⟨by decide +kernel, by decide +kernel, by decide +kernel⟩⟩
abbrev iX10_seed : fMI := (yX10_seed, cX10_seed, 2, (some .int))
theorem c_X10_seed : CalV iX10_seed 1 := ⟨iW (tI6 (List.mem_of_getElem? (i := 67) (by decide +kernel))) (by decide +kernel), ini_FirstStepsModel, iW (tI6 (List.mem_of_getElem? (i := 65) (by decide +kernel))) (by decide +kernel), iW (tI6 (List.mem_of_getElem? (i := 66) (by decide +kernel))) (by decide +kernel), ⟨by decide +kernel, by decide +kernel, by decide +kernel⟩⟩
abbrev iX10_isAhead : fMI := (yX10_isAhead, cX10_isAhead, 1, (some .boolean))
theorem c_X10_isAhead : CalS iX10_isAhead 1 := ⟨iW (tI6 (List.mem_of_getElem? (i := 74) (by decide +kernel))) (by decide +kernel), ini_FirstStepsModel, iW (tI6 (List.mem_of_getElem? (i := 73) (by decide +kernel))) (by decide +kernel), ⟨by decide +kernel, by decide +kernel, by decide +kernel⟩⟩
abbrev iX10_then : fMI := (yX10_then, cX10_then, 3, (some .int))
theorem c_X10_then : CalV iX10_then 2 := ⟨iW (tI6 (List.mem_of_getElem? (i := 71) (by decide +kernel))) (by decide +kernel), ini_FirstStepsModel, iW (tI6 (List.mem_of_getElem? (i := 69) (by decide +kernel))) (by decide +kernel), iW (tI6 (List.mem_of_getElem? (i := 70) (by decide +kernel))) (by decide +kernel), ⟨by decide +kernel, by decide +kernel, by decide +kernel⟩⟩
abbrev iX10_rowsGo : fMI := (yX10_rowsGo, cX10_rowsGo, 9, none)
theorem c_X10_rowsGo : CalV iX10_rowsGo 0 := ⟨iW (tI6 (List.mem_of_getElem? (i := 89) (by decide +kernel))) (by decide +kernel), ini_FirstStepsModel, iW (tI6 (List.mem_of_getElem? (i := 88) (by decide +kernel))) (by decide +kernel), iW (tIp (q := (yX10_rowsGo, 28)) (List.mem_of_getElem? (i := 63) (by decide +kernel))) (by decide +kernel), ⟨by decide +kernel, by decide +kernel, by decide +kernel⟩⟩
abbrev iX10_divisor : fMI := (yX10_divisor, cX10_divisor, 4, (some .long))
theorem c_X10_divisor : CalS iX10_divisor 2 := ⟨iW (tI6 (List.mem_of_getElem? (i := 92) (by decide +kernel))) (by decide +kernel), ini_FirstStepsModel, iW (tI6 (List.mem_of_getElem? (i := 91) (by decide +kernel))) (by decide +kernel), ⟨by decide +kernel, by decide +kernel, by decide +kernel⟩⟩
abbrev iX10_ways : fMI := (yX10_ways, cX10_ways, 5, (some .long))
theorem c_X10_ways : CalV iX10_ways 2 := ⟨iW (tI6 (List.mem_of_getElem? (i := 85) (by decide +kernel))) (by decide +kernel), ini_FirstStepsModel, iW (tI6 (List.mem_of_getElem? (i := 83) (by decide +kernel))) (by decide +kernel), iW (tI6 (List.mem_of_getElem? (i := 84) (by decide +kernel))) (by decide +kernel), ⟨by decide +kernel, by decide +kernel, by decide +kernel⟩⟩
abbrev iX10_nextCell : fMI := (yX10_nextCell, cX10_nextCell, 5, (some .int))
theorem c_X10_nextCell : CalV iX10_nextCell 1 := ⟨iW (tI6 (List.mem_of_getElem? (i := 100) (by decide +kernel))) (by decide +kernel), ini_FirstStepsModel, iW (tI6 (List.mem_of_getElem? (i := 99) (by decide +kernel))) (by decide +kernel), iW (tIp (q := (yX10_nextCell, 28)) (List.mem_of_getElem? (i := 64) (by decide +kernel))) (by decide +kernel), ⟨by decide +kernel, by decide +kernel, by decide +kernel⟩⟩
abbrev iX10_way : fMI := (yX10_way, cX10_way, 7, (some .int))
theorem c_X10_way : CalV iX10_way 2 := ⟨iW (tI6 (List.mem_of_getElem? (i := 96) (by decide +kernel))) (by decide +kernel), ini_FirstStepsModel, iW (tI6 (List.mem_of_getElem? (i := 94) (by decide +kernel))) (by decide +kernel), iW (tI6 (List.mem_of_getElem? (i := 95) (by decide +kernel))) (by decide +kernel), ⟨by decide +kernel, by decide +kernel, by decide +kernel⟩⟩
abbrev iX10_gaps : fMI := (yX10_gaps, cX10_gaps, 8, (some .int))
theorem c_X10_gaps : CalV iX10_gaps 1 := ⟨iW (tI6 (List.mem_of_getElem? (i := 108) (by decide +kernel))) (by decide +kernel), ini_FirstStepsModel, iW (tI6 (List.mem_of_getElem? (i := 106) (by decide +kernel))) (by decide +kernel), iW (tI6 (List.mem_of_getElem? (i := 107) (by decide +kernel))) (by decide +kernel), ⟨by decide +kernel, by decide +kernel, by decide +kernel⟩⟩
abbrev iX10_pad : fMI := (yX10_pad, cX10_pad, 6, (some .int))
theorem c_X10_pad : CalV iX10_pad 1 := ⟨iW (tI6 (List.mem_of_getElem? (i := 112) (by decide +kernel))) (by decide +kernel), ini_FirstStepsModel, iW (tI6 (List.mem_of_getElem? (i := 110) (by decide +kernel))) (by decide +kernel), iW (tI6 (List.mem_of_getElem? (i := 111) (by decide +kernel))) (by decide +kernel), ⟨by decide +kernel, by decide +kernel, by decide +kernel⟩⟩
abbrev iX10_stand : fMI := (yX10_stand, cX10_stand, 7, (some .int))
theorem c_X10_stand : CalV iX10_stand 2 := ⟨iW (tI6 (List.mem_of_getElem? (i := 116) (by decide +kernel))) (by decide +kernel), ini_FirstStepsModel, iW (tI6 (List.mem_of_getElem? (i := 114) (by decide +kernel))) (by decide +kernel), iW (tI6 (List.mem_of_getElem? (i := 115) (by decide +kernel))) (by decide +kernel), ⟨by decide +kernel, by decide +kernel, by decide +kernel⟩⟩
abbrev iX10_go : fMI := (yX10_go, cX10_go, 6, (some .int))
theorem c_X10_go : CalV iX10_go 1 := ⟨iW (tI6 (List.mem_of_getElem? (i := 120) (by decide +kernel))) (by decide +kernel), ini_FirstStepsModel, iW (tI6 (List.mem_of_getElem? (i := 118) (by decide +kernel))) (by decide +kernel), iW (tI6 (List.mem_of_getElem? (i := 119) (by decide +kernel))) (by decide +kernel), ⟨by decide +kernel, by decide +kernel, by decide +kernel⟩⟩
abbrev iX10_began : fMI := (yX10_began, cX10_began, 2, none)
theorem c_X10_began : CalV iX10_began 1 := ⟨iW (tI6 (List.mem_of_getElem? (i := 143) (by decide +kernel))) (by decide +kernel), ini_FirstStepsModel, iW (tI6 (List.mem_of_getElem? (i := 142) (by decide +kernel))) (by decide +kernel), iW (tIp (q := (yX10_began, 28)) (List.mem_of_getElem? (i := 69) (by decide +kernel))) (by decide +kernel), ⟨by decide +kernel, by decide +kernel, by decide +kernel⟩⟩
abbrev iX10_hasOwn : fMI := (yX10_hasOwn, cX10_hasOwn, 2, (some .boolean))
theorem c_X10_hasOwn : CalS iX10_hasOwn 2 := ⟨iW (tI6 (List.mem_of_getElem? (i := 135) (by decide +kernel))) (by decide +kernel), ini_FirstStepsModel, iW (tI6 (List.mem_of_getElem? (i := 134) (by decide +kernel))) (by decide +kernel), ⟨by decide +kernel, by decide +kernel, by decide +kernel⟩⟩
abbrev iX10_voiced : fMI := (yX10_voiced, cX10_voiced, 3, (some .int))
theorem c_X10_voiced : CalV iX10_voiced 2 := ⟨iW (tI6 (List.mem_of_getElem? (i := 128) (by decide +kernel))) (by decide +kernel), ini_FirstStepsModel, iW (tI6 (List.mem_of_getElem? (i := 127) (by decide +kernel))) (by decide +kernel), iW (tIp (q := (yX10_voiced, 28)) (List.mem_of_getElem? (i := 66) (by decide +kernel))) (by decide +kernel), ⟨by decide +kernel, by decide +kernel, by decide +kernel⟩⟩
abbrev iX10_bodyFrom : fMI := (yX10_bodyFrom, cX10_bodyFrom, 5, (some .int))
theorem c_X10_bodyFrom : CalV iX10_bodyFrom 3 := ⟨iW (tI6 (List.mem_of_getElem? (i := 132) (by decide +kernel))) (by decide +kernel), ini_FirstStepsModel, iW (tI6 (List.mem_of_getElem? (i := 131) (by decide +kernel))) (by decide +kernel), iW (tIp (q := (yX10_bodyFrom, 28)) (List.mem_of_getElem? (i := 67) (by decide +kernel))) (by decide +kernel), ⟨by decide +kernel, by decide +kernel, by decide +kernel⟩⟩
abbrev iX10_body : fMI := (yX10_body, cX10_body, 6, (some .int))
theorem c_X10_body : CalV iX10_body 3 := ⟨iW (tI6 (List.mem_of_getElem? (i := 139) (by decide +kernel))) (by decide +kernel), ini_FirstStepsModel, iW (tI6 (List.mem_of_getElem? (i := 138) (by decide +kernel))) (by decide +kernel), iW (tIp (q := (yX10_body, 28)) (List.mem_of_getElem? (i := 68) (by decide +kernel))) (by decide +kernel), ⟨by decide +kernel, by decide +kernel, by decide +kernel⟩⟩
abbrev iX10_voice : fMI := (yX10_voice, cX10_voice, 5, (some .int))
theorem c_X10_voice : CalV iX10_voice 3 := ⟨iW (tI6 (List.mem_of_getElem? (i := 124) (by decide +kernel))) (by decide +kernel), ini_FirstStepsModel, iW (tI6 (List.mem_of_getElem? (i := 122) (by decide +kernel))) (by decide +kernel), iW (tI6 (List.mem_of_getElem? (i := 123) (by decide +kernel))) (by decide +kernel), ⟨by decide +kernel, by decide +kernel, by decide +kernel⟩⟩
abbrev iX10_body_ : fMI := (yX10_body_, cX10_body_, 2, (some .int))
theorem c_X10_body_ : CalV iX10_body_ 1 := ⟨iW (tI6 (List.mem_of_getElem? (i := 148) (by decide +kernel))) (by decide +kernel), ini_FirstStepsModel, iW (tI6 (List.mem_of_getElem? (i := 146) (by decide +kernel))) (by decide +kernel), iW (tI6 (List.mem_of_getElem? (i := 147) (by decide +kernel))) (by decide +kernel), ⟨by decide +kernel, by decide +kernel, by decide +kernel⟩⟩
abbrev iX10_isSheet : fMI := (yX10_isSheet, cX10_isSheet, 1, (some .boolean))
theorem c_X10_isSheet : CalS iX10_isSheet 1 := ⟨iW (tI6 (List.mem_of_getElem? (i := 155) (by decide +kernel))) (by decide +kernel), ini_FirstStepsModel, iW (tI6 (List.mem_of_getElem? (i := 154) (by decide +kernel))) (by decide +kernel), ⟨by decide +kernel, by decide +kernel, by decide +kernel⟩⟩
abbrev iX10_sheet : fMI := (yX10_sheet, cX10_sheet, 5, (some .int))
theorem c_X10_sheet : CalV iX10_sheet 3 := ⟨iW (tI6 (List.mem_of_getElem? (i := 152) (by decide +kernel))) (by decide +kernel), ini_FirstStepsModel, iW (tI6 (List.mem_of_getElem? (i := 150) (by decide +kernel))) (by decide +kernel), iW (tI6 (List.mem_of_getElem? (i := 151) (by decide +kernel))) (by decide +kernel), ⟨by decide +kernel, by decide +kernel, by decide +kernel⟩⟩
abbrev iX10_put : fMI := (yX10_put, cX10_put, 4, (some .int))
theorem c_X10_put : CalV iX10_put 3 := ⟨iW (tI6 (List.mem_of_getElem? (i := 159) (by decide +kernel))) (by decide +kernel), ini_FirstStepsModel, iW (tI6 (List.mem_of_getElem? (i := 157) (by decide +kernel))) (by decide +kernel), iW (tI6 (List.mem_of_getElem? (i := 158) (by decide +kernel))) (by decide +kernel), ⟨by decide +kernel, by decide +kernel, by decide +kernel⟩⟩
abbrev iX10_move : fMI := (yX10_move, cX10_move, 7, (some .int))
theorem c_X10_move : CalV iX10_move 5 := ⟨iW (tI6 (List.mem_of_getElem? (i := 163) (by decide +kernel))) (by decide +kernel), ini_FirstStepsModel, iW (tI6 (List.mem_of_getElem? (i := 161) (by decide +kernel))) (by decide +kernel), iW (tI6 (List.mem_of_getElem? (i := 162) (by decide +kernel))) (by decide +kernel), ⟨by decide +kernel, by decide +kernel, by decide +kernel⟩⟩
abbrev iX10_holds : fMI := (yX10_holds, cX10_holds, 5, (some .int))
theorem c_X10_holds : CalV iX10_holds 1 := ⟨iW (tI6 (List.mem_of_getElem? (i := 167) (by decide +kernel))) (by decide +kernel), ini_FirstStepsModel, iW (tI6 (List.mem_of_getElem? (i := 165) (by decide +kernel))) (by decide +kernel), iW (tI6 (List.mem_of_getElem? (i := 166) (by decide +kernel))) (by decide +kernel), ⟨by decide +kernel, by decide +kernel, by decide +kernel⟩⟩
abbrev iX10_offOf : fMI := (yX10_offOf, cX10_offOf, 6, (some .int))
theorem c_X10_offOf : CalV iX10_offOf 1 := ⟨iW (tI6 (List.mem_of_getElem? (i := 175) (by decide +kernel))) (by decide +kernel), ini_FirstStepsModel, iW (tI6 (List.mem_of_getElem? (i := 174) (by decide +kernel))) (by decide +kernel), iW (tIp (q := (yX10_offOf, 28)) (List.mem_of_getElem? (i := 70) (by decide +kernel))) (by decide +kernel), ⟨by decide +kernel, by decide +kernel, by decide +kernel⟩⟩
abbrev iX10_off : fMI := (yX10_off, cX10_off, 2, (some .int))
theorem c_X10_off : CalV iX10_off 1 := ⟨iW (tI6 (List.mem_of_getElem? (i := 171) (by decide +kernel))) (by decide +kernel), ini_FirstStepsModel, iW (tI6 (List.mem_of_getElem? (i := 169) (by decide +kernel))) (by decide +kernel), iW (tI6 (List.mem_of_getElem? (i := 170) (by decide +kernel))) (by decide +kernel), ⟨by decide +kernel, by decide +kernel, by decide +kernel⟩⟩
abbrev iX10_guess : fMI := (yX10_guess, cX10_guess, 6, (some .int))
theorem c_X10_guess : CalV iX10_guess 1 := ⟨iW (tI6 (List.mem_of_getElem? (i := 182) (by decide +kernel))) (by decide +kernel), ini_FirstStepsModel, iW (tI6 (List.mem_of_getElem? (i := 180) (by decide +kernel))) (by decide +kernel), iW (tI6 (List.mem_of_getElem? (i := 181) (by decide +kernel))) (by decide +kernel), ⟨by decide +kernel, by decide +kernel, by decide +kernel⟩⟩
abbrev iX10_image : fMI := (yX10_image, cX10_image, 1, (some .int))
theorem c_X10_image : CalV iX10_image 0 := ⟨iW (tI6 (List.mem_of_getElem? (i := 186) (by decide +kernel))) (by decide +kernel), ini_FirstStepsModel, iW (tI6 (List.mem_of_getElem? (i := 184) (by decide +kernel))) (by decide +kernel), iW (tI6 (List.mem_of_getElem? (i := 185) (by decide +kernel))) (by decide +kernel), ⟨by decide +kernel, by decide +kernel, by decide +kernel⟩⟩
abbrev iX10_restore : fMI := (yX10_restore, cX10_restore, 1, (some .int))
theorem c_X10_restore : CalV iX10_restore 0 := ⟨iW (tI6 (List.mem_of_getElem? (i := 190) (by decide +kernel))) (by decide +kernel), ini_FirstStepsModel, iW (tI6 (List.mem_of_getElem? (i := 188) (by decide +kernel))) (by decide +kernel), iW (tI6 (List.mem_of_getElem? (i := 189) (by decide +kernel))) (by decide +kernel), ⟨by decide +kernel, by decide +kernel, by decide +kernel⟩⟩
abbrev iX10_tell : fMI := (yX10_tell, cX10_tell, 2, (some .int))
theorem c_X10_tell : CalV iX10_tell 1 := ⟨iW (tI6 (List.mem_of_getElem? (i := 194) (by decide +kernel))) (by decide +kernel), ini_FirstStepsModel, iW (tI6 (List.mem_of_getElem? (i := 192) (by decide +kernel))) (by decide +kernel), iW (tI6 (List.mem_of_getElem? (i := 193) (by decide +kernel))) (by decide +kernel), ⟨by decide +kernel, by decide +kernel, by decide +kernel⟩⟩
abbrev iX10_check : fMI := (yX10_check, cX10_check, 4, (some .int))
theorem c_X10_check : CalV iX10_check 0 := ⟨iW (tI6 (List.mem_of_getElem? (i := 198) (by decide +kernel))) (by decide +kernel), ini_FirstStepsModel, iW (tI6 (List.mem_of_getElem? (i := 196) (by decide +kernel))) (by decide +kernel), iW (tI6 (List.mem_of_getElem? (i := 197) (by decide +kernel))) (by decide +kernel), ⟨by decide +kernel, by decide +kernel, by decide +kernel⟩⟩
abbrev iX10_count : fMI := (yX10_count, cX10_count, 2, (some .int))
theorem c_X10_count : CalV iX10_count 1 := ⟨iW (tI6 (List.mem_of_getElem? (i := 202) (by decide +kernel))) (by decide +kernel), ini_FirstStepsModel, iW (tI6 (List.mem_of_getElem? (i := 200) (by decide +kernel))) (by decide +kernel), iW (tI6 (List.mem_of_getElem? (i := 201) (by decide +kernel))) (by decide +kernel), ⟨by decide +kernel, by decide +kernel, by decide +kernel⟩⟩
abbrev iX10_told : fMI := (yX10_told, cX10_told, 2, (some .int))
theorem c_X10_told : CalV iX10_told 1 := ⟨iW (tI6 (List.mem_of_getElem? (i := 206) (by decide +kernel))) (by decide +kernel), ini_FirstStepsModel, iW (tI6 (List.mem_of_getElem? (i := 204) (by decide +kernel))) (by decide +kernel), iW (tI6 (List.mem_of_getElem? (i := 205) (by decide +kernel))) (by decide +kernel), ⟨by decide +kernel, by decide +kernel, by decide +kernel⟩⟩
abbrev iJ11_isValidCodePoint_9a6ad : fMI := (yJ11_isValidCodePoint_9a6ad, cJ11_isValidCodePoint_9a6ad, 2, (some .boolean))
theorem c_J11_isValidCodePoint_9a6ad : CalS iJ11_isValidCodePoint_9a6ad 1 := ⟨iW (tI3 (List.mem_of_getElem? (i := 123) (by decide +kernel))) (by decide +kernel), ini_java_lang_Character, iW (tI3 (List.mem_of_getElem? (i := 122) (by decide +kernel))) (by decide +kernel), ⟨by decide +kernel, by decide +kernel, by decide +kernel⟩⟩
abbrev iJ11_highSurrogate_5068e : fMI := (yJ11_highSurrogate_5068e, cJ11_highSurrogate_5068e, 1, (some .char))
theorem c_J11_highSurrogate_5068e : CalS iJ11_highSurrogate_5068e 1 := ⟨iW (tI3 (List.mem_of_getElem? (i := 126) (by decide +kernel))) (by decide +kernel), ini_java_lang_Character, iW (tI3 (List.mem_of_getElem? (i := 125) (by decide +kernel))) (by decide +kernel), ⟨by decide +kernel, by decide +kernel, by decide +kernel⟩⟩
abbrev iJ11_lowSurrogate_5068e : fMI := (yJ11_lowSurrogate_5068e, cJ11_lowSurrogate_5068e, 1, (some .char))
theorem c_J11_lowSurrogate_5068e : CalS iJ11_lowSurrogate_5068e 1 := ⟨iW (tI3 (List.mem_of_getElem? (i := 130) (by decide +kernel))) (by decide +kernel), ini_java_lang_Character, iW (tI3 (List.mem_of_getElem? (i := 129) (by decide +kernel))) (by decide +kernel), ⟨by decide +kernel, by decide +kernel, by decide +kernel⟩⟩
abbrev iJ0_length_8abf5 : fMI := (yJ0_length_8abf5, cJ0_length_8abf5, 1, (some .int))
theorem c_J0_length_8abf5 : CalV iJ0_length_8abf5 0 := ⟨iW (tI1 (List.mem_of_getElem? (i := 157) (by decide +kernel))) (by decide +kernel), ini_java_lang_String, iW (tI1 (List.mem_of_getElem? (i := 155) (by decide +kernel))) (by decide +kernel), iW (tI1 (List.mem_of_getElem? (i := 156) (by decide +kernel))) (by decide +kernel), ⟨by decide +kernel, by decide +kernel, by decide +kernel⟩⟩
abbrev iJ0_charAt_5068e : fMI := (yJ0_charAt_5068e, cJ0_charAt_5068e, 2, (some .char))
theorem c_J0_charAt_5068e : CalV iJ0_charAt_5068e 1 := ⟨iW (tI5 (List.mem_of_getElem? (i := 214) (by decide +kernel))) (by decide +kernel), ini_java_lang_String, iW (tI5 (List.mem_of_getElem? (i := 212) (by decide +kernel))) (by decide +kernel), iW (tI5 (List.mem_of_getElem? (i := 213) (by decide +kernel))) (by decide +kernel), ⟨by decide +kernel, by decide +kernel, by decide +kernel⟩⟩
abbrev iJ0_indexOf_0f7a4 : fMI := (yJ0_indexOf_0f7a4, cJ0_indexOf_0f7a4, 2, (some .int))
theorem c_J0_indexOf_0f7a4 : CalV iJ0_indexOf_0f7a4 1 := ⟨iW (tI3 (List.mem_of_getElem? (i := 62) (by decide +kernel))) (by decide +kernel), ini_java_lang_String, iW (tI3 (List.mem_of_getElem? (i := 60) (by decide +kernel))) (by decide +kernel), iW (tI3 (List.mem_of_getElem? (i := 61) (by decide +kernel))) (by decide +kernel), ⟨by decide +kernel, by decide +kernel, by decide +kernel⟩⟩
abbrev iJ0_indexOf_7cf53 : fMI := (yJ0_indexOf_7cf53, cJ0_indexOf_7cf53, 3, (some .int))
theorem c_J0_indexOf_7cf53 : CalV iJ0_indexOf_7cf53 2 := ⟨iW (tI3 (List.mem_of_getElem? (i := 66) (by decide +kernel))) (by decide +kernel), ini_java_lang_String, iW (tI3 (List.mem_of_getElem? (i := 64) (by decide +kernel))) (by decide +kernel), iW (tI3 (List.mem_of_getElem? (i := 65) (by decide +kernel))) (by decide +kernel), ⟨by decide +kernel, by decide +kernel, by decide +kernel⟩⟩
abbrev iJ0_coder_7d493 : fMI := (yJ0_coder_7d493, cJ0_coder_7d493, 1, (some .byte))
theorem c_J0_coder_7d493 : CalV iJ0_coder_7d493 0 := ⟨iW (tI1 (List.mem_of_getElem? (i := 161) (by decide +kernel))) (by decide +kernel), ini_java_lang_String, iW (tI1 (List.mem_of_getElem? (i := 159) (by decide +kernel))) (by decide +kernel), iW (tI1 (List.mem_of_getElem? (i := 160) (by decide +kernel))) (by decide +kernel), ⟨by decide +kernel, by decide +kernel, by decide +kernel⟩⟩
abbrev iJ0_isLatin1_aae02 : fMI := (yJ0_isLatin1_aae02, cJ0_isLatin1_aae02, 1, (some .boolean))
theorem c_J0_isLatin1_aae02 : CalV iJ0_isLatin1_aae02 0 := ⟨iW (tI3 (List.mem_of_getElem? (i := 70) (by decide +kernel))) (by decide +kernel), ini_java_lang_String, iW (tI3 (List.mem_of_getElem? (i := 68) (by decide +kernel))) (by decide +kernel), iW (tI3 (List.mem_of_getElem? (i := 69) (by decide +kernel))) (by decide +kernel), ⟨by decide +kernel, by decide +kernel, by decide +kernel⟩⟩
abbrev iJ0_checkIndex_df160 : fMI := (yJ0_checkIndex_df160, cJ0_checkIndex_df160, 2, none)
theorem c_J0_checkIndex_df160 : CalS iJ0_checkIndex_df160 2 := ⟨iW (tI5 (List.mem_of_getElem? (i := 220) (by decide +kernel))) (by decide +kernel), ini_java_lang_String, iW (tI5 (List.mem_of_getElem? (i := 219) (by decide +kernel))) (by decide +kernel), ⟨by decide +kernel, by decide +kernel, by decide +kernel⟩⟩
abbrev iJ0_checkBoundsBeginEnd_23922 : fMI := (yJ0_checkBoundsBeginEnd_23922, cJ0_checkBoundsBeginEnd_23922, 3, none)
theorem c_J0_checkBoundsBeginEnd_23922 : CalS iJ0_checkBoundsBeginEnd_23922 3 := ⟨iW (tI3 (List.mem_of_getElem? (i := 100) (by decide +kernel))) (by decide +kernel), ini_java_lang_String, iW (tI3 (List.mem_of_getElem? (i := 99) (by decide +kernel))) (by decide +kernel), ⟨by decide +kernel, by decide +kernel, by decide +kernel⟩⟩
abbrev iJ1_charAt_3b067 : fMI := (yJ1_charAt_3b067, cJ1_charAt_3b067, 2, (some .char))
theorem c_J1_charAt_3b067 : CalS iJ1_charAt_3b067 2 := ⟨iW (tI5 (List.mem_of_getElem? (i := 217) (by decide +kernel))) (by decide +kernel), ini_java_lang_StringLatin1, iW (tI5 (List.mem_of_getElem? (i := 216) (by decide +kernel))) (by decide +kernel), ⟨by decide +kernel, by decide +kernel, by decide +kernel⟩⟩
abbrev iJ1_canEncode_9a6ad : fMI := (yJ1_canEncode_9a6ad, cJ1_canEncode_9a6ad, 1, (some .boolean))
theorem c_J1_canEncode_9a6ad : CalS iJ1_canEncode_9a6ad 1 := ⟨iW (tI3 (List.mem_of_getElem? (i := 77) (by decide +kernel))) (by decide +kernel), ini_java_lang_StringLatin1, iW (tI3 (List.mem_of_getElem? (i := 76) (by decide +kernel))) (by decide +kernel), ⟨by decide +kernel, by decide +kernel, by decide +kernel⟩⟩
abbrev iJ1_indexOf_4cfef : fMI := (yJ1_indexOf_4cfef, cJ1_indexOf_4cfef, 4, (some .int))
theorem c_J1_indexOf_4cfef : CalS iJ1_indexOf_4cfef 4 := ⟨iW (tI3 (List.mem_of_getElem? (i := 74) (by decide +kernel))) (by decide +kernel), ini_java_lang_StringLatin1, iW (tI3 (List.mem_of_getElem? (i := 73) (by decide +kernel))) (by decide +kernel), ⟨by decide +kernel, by decide +kernel, by decide +kernel⟩⟩
abbrev iJ1_indexOfChar_4cfef : fMI := (yJ1_indexOfChar_4cfef, cJ1_indexOfChar_4cfef, 6, (some .int))
theorem c_J1_indexOfChar_4cfef : CalS iJ1_indexOfChar_4cfef 4 := ⟨iW (tI3 (List.mem_of_getElem? (i := 82) (by decide +kernel))) (by decide +kernel), ini_java_lang_StringLatin1, iW (tI3 (List.mem_of_getElem? (i := 81) (by decide +kernel))) (by decide +kernel), ⟨by decide +kernel, by decide +kernel, by decide +kernel⟩⟩
abbrev iJ2_getChar_3b067 : fMI := (yJ2_getChar_3b067, cJ2_getChar_3b067, 2, (some .char))
theorem c_J2_getChar_3b067 : CalS iJ2_getChar_3b067 2 := ⟨iW (tI3 (List.mem_of_getElem? (i := 111) (by decide +kernel))) (by decide +kernel), ini_java_lang_StringUTF16, iW (tI3 (List.mem_of_getElem? (i := 110) (by decide +kernel))) (by decide +kernel), ⟨by decide +kernel, by decide +kernel, by decide +kernel⟩⟩
abbrev iJ2_length_9d52b : fMI := (yJ2_length_9d52b, cJ2_length_9d52b, 1, (some .int))
theorem c_J2_length_9d52b : CalS iJ2_length_9d52b 1 := ⟨iW (tI3 (List.mem_of_getElem? (i := 97) (by decide +kernel))) (by decide +kernel), ini_java_lang_StringUTF16, iW (tI3 (List.mem_of_getElem? (i := 96) (by decide +kernel))) (by decide +kernel), ⟨by decide +kernel, by decide +kernel, by decide +kernel⟩⟩
abbrev iJ2_indexOf_4cfef : fMI := (yJ2_indexOf_4cfef, cJ2_indexOf_4cfef, 4, (some .int))
theorem c_J2_indexOf_4cfef : CalS iJ2_indexOf_4cfef 4 := ⟨iW (tI3 (List.mem_of_getElem? (i := 85) (by decide +kernel))) (by decide +kernel), ini_java_lang_StringUTF16, iW (tI3 (List.mem_of_getElem? (i := 84) (by decide +kernel))) (by decide +kernel), ⟨by decide +kernel, by decide +kernel, by decide +kernel⟩⟩
abbrev iJ2_indexOfChar_4cfef : fMI := (yJ2_indexOfChar_4cfef, cJ2_indexOfChar_4cfef, 4, (some .int))
theorem c_J2_indexOfChar_4cfef : CalS iJ2_indexOfChar_4cfef 4 := ⟨iW (tI3 (List.mem_of_getElem? (i := 91) (by decide +kernel))) (by decide +kernel), ini_java_lang_StringUTF16, iW (tI3 (List.mem_of_getElem? (i := 90) (by decide +kernel))) (by decide +kernel), ⟨by decide +kernel, by decide +kernel, by decide +kernel⟩⟩
abbrev iJ2_indexOfCharUnsafe_4cfef : fMI := (yJ2_indexOfCharUnsafe_4cfef, cJ2_indexOfCharUnsafe_4cfef, 5, (some .int))
theorem c_J2_indexOfCharUnsafe_4cfef : CalS iJ2_indexOfCharUnsafe_4cfef 4 := ⟨iW (tI3 (List.mem_of_getElem? (i := 108) (by decide +kernel))) (by decide +kernel), ini_java_lang_StringUTF16, iW (tI3 (List.mem_of_getElem? (i := 107) (by decide +kernel))) (by decide +kernel), ⟨by decide +kernel, by decide +kernel, by decide +kernel⟩⟩
abbrev iJ2_indexOfSupplementary_4cfef : fMI := (yJ2_indexOfSupplementary_4cfef, cJ2_indexOfSupplementary_4cfef, 7, (some .int))
theorem c_J2_indexOfSupplementary_4cfef : CalS iJ2_indexOfSupplementary_4cfef 4 := ⟨iW (tI3 (List.mem_of_getElem? (i := 120) (by decide +kernel))) (by decide +kernel), ini_java_lang_StringUTF16, iW (tI3 (List.mem_of_getElem? (i := 119) (by decide +kernel))) (by decide +kernel), ⟨by decide +kernel, by decide +kernel, by decide +kernel⟩⟩
abbrev iJ2_charAt_3b067 : fMI := (yJ2_charAt_3b067, cJ2_charAt_3b067, 2, (some .char))
theorem c_J2_charAt_3b067 : CalS iJ2_charAt_3b067 2 := ⟨iW (tI5 (List.mem_of_getElem? (i := 226) (by decide +kernel))) (by decide +kernel), ini_java_lang_StringUTF16, iW (tI5 (List.mem_of_getElem? (i := 225) (by decide +kernel))) (by decide +kernel), ⟨by decide +kernel, by decide +kernel, by decide +kernel⟩⟩
abbrev iJ2_checkIndex_2214a : fMI := (yJ2_checkIndex_2214a, cJ2_checkIndex_2214a, 2, none)
theorem c_J2_checkIndex_2214a : CalS iJ2_checkIndex_2214a 2 := ⟨iW (tI5 (List.mem_of_getElem? (i := 229) (by decide +kernel))) (by decide +kernel), ini_java_lang_StringUTF16, iW (tI5 (List.mem_of_getElem? (i := 228) (by decide +kernel))) (by decide +kernel), ⟨by decide +kernel, by decide +kernel, by decide +kernel⟩⟩
abbrev iJ2_checkBoundsBeginEnd_d044e : fMI := (yJ2_checkBoundsBeginEnd_d044e, cJ2_checkBoundsBeginEnd_d044e, 3, none)
theorem c_J2_checkBoundsBeginEnd_d044e : CalS iJ2_checkBoundsBeginEnd_d044e 3 := ⟨iW (tI3 (List.mem_of_getElem? (i := 94) (by decide +kernel))) (by decide +kernel), ini_java_lang_StringUTF16, iW (tI3 (List.mem_of_getElem? (i := 93) (by decide +kernel))) (by decide +kernel), ⟨by decide +kernel, by decide +kernel, by decide +kernel⟩⟩
abbrev iJ3_checkIndex_8e157 : fMI := (yJ3_checkIndex_8e157, cJ3_checkIndex_8e157, 3, (some .int))
theorem c_J3_checkIndex_8e157 : CalS iJ3_checkIndex_8e157 3 := ⟨iW (tI5 (List.mem_of_getElem? (i := 223) (by decide +kernel))) (by decide +kernel), ini_jdk_internal_util_Preconditions, iW (tI5 (List.mem_of_getElem? (i := 222) (by decide +kernel))) (by decide +kernel), ⟨by decide +kernel, by decide +kernel, by decide +kernel⟩⟩
abbrev iJ3_checkFromToIndex_8c36e : fMI := (yJ3_checkFromToIndex_8c36e, cJ3_checkFromToIndex_8c36e, 4, (some .int))
theorem c_J3_checkFromToIndex_8c36e : CalS iJ3_checkFromToIndex_8c36e 4 := ⟨iW (tI3 (List.mem_of_getElem? (i := 105) (by decide +kernel))) (by decide +kernel), ini_jdk_internal_util_Preconditions, iW (tI3 (List.mem_of_getElem? (i := 104) (by decide +kernel))) (by decide +kernel), ⟨by decide +kernel, by decide +kernel, by decide +kernel⟩⟩
theorem wm_Lib_Math_abs_name : Cond.static Lib.Math.abs.name ∈ W0 ∧ Cond.initialized "java/lang/Math" ∈ W0 ∧ Cond.code Lib.Math.abs.name Lib.Math.abs.code 1 (some .int) ∈ W0 := ⟨iW (tI2 (List.mem_of_getElem? (i := 148) (by decide +kernel))) (by decide +kernel), ini_java_lang_Math, iW (tI2 (List.mem_of_getElem? (i := 149) (by decide +kernel))) (by decide +kernel)⟩
theorem wm_Lib_Math_min_name : Cond.static Lib.Math.min.name ∈ W0 ∧ Cond.initialized "java/lang/Math" ∈ W0 ∧ Cond.code Lib.Math.min.name Lib.Math.min.code 2 (some .int) ∈ W0 := ⟨iW (tI2 (List.mem_of_getElem? (i := 128) (by decide +kernel))) (by decide +kernel), ini_java_lang_Math, iW (tI2 (List.mem_of_getElem? (i := 129) (by decide +kernel))) (by decide +kernel)⟩
theorem wm_Lib_Math_max_name : Cond.static Lib.Math.max.name ∈ W0 ∧ Cond.initialized "java/lang/Math" ∈ W0 ∧ Cond.code Lib.Math.max.name Lib.Math.max.code 2 (some .int) ∈ W0 := ⟨iW (tI2 (List.mem_of_getElem? (i := 217) (by decide +kernel))) (by decide +kernel), ini_java_lang_Math, iW (tI2 (List.mem_of_getElem? (i := 218) (by decide +kernel))) (by decide +kernel)⟩
theorem wm_Lib_MathLoose_abs_long_x : Cond.static Lib.MathLoose.abs_long.x ∈ W0 ∧ Cond.initialized "java/lang/Math" ∈ W0 ∧ Cond.code Lib.MathLoose.abs_long.x Lib.MathLoose.abs_long.code 2 (some .long) ∈ W0 := ⟨iW (tI4 (List.mem_of_getElem? (i := 144) (by decide +kernel))) (by decide +kernel), ini_java_lang_Math, iW (tI4 (List.mem_of_getElem? (i := 145) (by decide +kernel))) (by decide +kernel)⟩
theorem wm_Lib_MathLoose_min_long_x : Cond.static Lib.MathLoose.min_long.x ∈ W0 ∧ Cond.initialized "java/lang/Math" ∈ W0 ∧ Cond.code Lib.MathLoose.min_long.x Lib.MathLoose.min_long.code 4 (some .long) ∈ W0 := ⟨iW (tI4 (List.mem_of_getElem? (i := 148) (by decide +kernel))) (by decide +kernel), ini_java_lang_Math, iW (tI4 (List.mem_of_getElem? (i := 149) (by decide +kernel))) (by decide +kernel)⟩
theorem wm_arraycopy : Cond.native arraycopyName ∈ W0 ∧ Cond.static arraycopyName ∈ W0 ∧ Cond.initialized "java/lang/System" ∈ W0 := ⟨iW (tI3 (List.mem_of_getElem? (i := 145) (by decide +kernel))) (by decide +kernel), iW (tI3 (List.mem_of_getElem? (i := 144) (by decide +kernel))) (by decide +kernel), ini_java_lang_System⟩
