def R_M : String := "AreaCore$Memory"
def F_M : u_T := fun k => match k with
  | _ => ("AreaCore$Memory", "words", "[I", true)
def ty_M : Nat → FieldType := fun k => match k with
  | _ => .array .int
theorem n_M : ∀ a, a < 1 → ∀ b, b < 1 → a ≠ b → (F_M a).2.1 ≠ (F_M b).2.1 := by decide +kernel
theorem ty_M_ok : ∀ k, k < 1 → parseFieldDescriptor (F_M k).2.2.1 = some (ty_M k) := by decide +kernel
def R_R : String := "AreaCore$Registers"
def F_R : u_T := fun k => match k with
  | 0 => ("AreaCore$Registers", "d", "[I", true)
  | 1 => ("AreaCore$Registers", "a", "[I", true)
  | 2 => ("AreaCore$Registers", "pc", "I", false)
  | 3 => ("AreaCore$Registers", "free", "I", false)
  | 4 => ("AreaCore$Registers", "last", "I", false)
  | 5 => ("AreaCore$Registers", "link", "I", false)
  | 6 => ("AreaCore$Registers", "level", "I", false)
  | 7 => ("AreaCore$Registers", "set", "I", false)
  | 8 => ("AreaCore$Registers", "depth", "I", false)
  | 9 => ("AreaCore$Registers", "priority", "I", false)
  | 10 => ("AreaCore$Registers", "enabled", "Z", false)
  | _ => ("AreaCore$Registers", "drained", "Z", false)
def ty_R : Nat → FieldType := fun k => match k with
  | 0 => .array .int
  | 1 => .array .int
  | 2 => .int
  | 3 => .int
  | 4 => .int
  | 5 => .int
  | 6 => .int
  | 7 => .int
  | 8 => .int
  | 9 => .int
  | 10 => .boolean
  | _ => .boolean
theorem n_R : ∀ a, a < 12 → ∀ b, b < 12 → a ≠ b → (F_R a).2.1 ≠ (F_R b).2.1 := by decide +kernel
theorem ty_R_ok : ∀ k, k < 12 → parseFieldDescriptor (F_R k).2.2.1 = some (ty_R k) := by decide +kernel
def R_G : String := "AreaCore$Ranges"
def F_G : u_T := fun k => match k with
  | 0 => ("AreaCore$Ranges", "lows", "[I", true)
  | 1 => ("AreaCore$Ranges", "highs", "[I", true)
  | _ => ("AreaCore$Ranges", "rights", "[I", true)
def ty_G : Nat → FieldType := fun k => match k with
  | 0 => .array .int
  | 1 => .array .int
  | _ => .array .int
theorem n_G : ∀ a, a < 3 → ∀ b, b < 3 → a ≠ b → (F_G a).2.1 ≠ (F_G b).2.1 := by decide +kernel
theorem ty_G_ok : ∀ k, k < 3 → parseFieldDescriptor (F_G k).2.2.1 = some (ty_G k) := by decide +kernel
def R_T : String := "AreaCore$Interrupts"
def F_T : u_T := fun k => match k with
  | 0 => ("AreaCore$Interrupts", "time", "I", false)
  | 1 => ("AreaCore$Interrupts", "every", "I", false)
  | 2 => ("AreaCore$Interrupts", "asked", "I", false)
  | 3 => ("AreaCore$Interrupts", "pending", "I", false)
  | _ => ("AreaCore$Interrupts", "taken", "I", false)
def ty_T : Nat → FieldType := fun k => match k with
  | 0 => .int
  | 1 => .int
  | 2 => .int
  | 3 => .int
  | _ => .int
theorem n_T : ∀ a, a < 5 → ∀ b, b < 5 → a ≠ b → (F_T a).2.1 ≠ (F_T b).2.1 := by decide +kernel
theorem ty_T_ok : ∀ k, k < 5 → parseFieldDescriptor (F_T k).2.2.1 = some (ty_T k) := by decide +kernel
def R_P : String := "AreaCore$Processor"
def F_P : u_T := fun k => match k with
  | 0 => ("AreaCore$Processor", "memory", "LAreaCore$Memory;", true)
  | 1 => ("AreaCore$Processor", "registers", "LAreaCore$Registers;", true)
  | 2 => ("AreaCore$Processor", "ranges", "LAreaCore$Ranges;", true)
  | 3 => ("AreaCore$Processor", "interrupts", "LAreaCore$Interrupts;", true)
  | 4 => ("AreaCore$Processor", "runs", "Z", false)
  | 5 => ("AreaCore$Processor", "guarding", "Z", false)
  | 6 => ("AreaCore$Processor", "table", "I", false)
  | 7 => ("AreaCore$Processor", "other", "I", false)
  | 8 => ("AreaCore$Processor", "traps", "I", false)
  | _ => ("AreaCore$Processor", "latestTrap", "I", false)
def ty_P : Nat → FieldType := fun k => match k with
  | 0 => .object "AreaCore$Memory"
  | 1 => .object "AreaCore$Registers"
  | 2 => .object "AreaCore$Ranges"
  | 3 => .object "AreaCore$Interrupts"
  | 4 => .boolean
  | 5 => .boolean
  | 6 => .int
  | 7 => .int
  | 8 => .int
  | _ => .int
theorem n_P : ∀ a, a < 10 → ∀ b, b < 10 → a ≠ b → (F_P a).2.1 ≠ (F_P b).2.1 := by decide +kernel
theorem ty_P_ok : ∀ k, k < 10 → parseFieldDescriptor (F_P k).2.2.1 = some (ty_P k) := by decide +kernel
def R_C : String := "AreaCore"
def F_C : u_T := fun k => match k with
  | _ => ("AreaCore", "core", "LAreaCore$Processor;", true)
def ty_C : Nat → FieldType := fun k => match k with
  | _ => .object "AreaCore$Processor"
theorem n_C : ∀ a, a < 1 → ∀ b, b < 1 → a ≠ b → (F_C a).2.1 ≠ (F_C b).2.1 := by decide +kernel
theorem ty_C_ok : ∀ k, k < 1 → parseFieldDescriptor (F_C k).2.2.1 = some (ty_C k) := by decide +kernel
def R_X : String := "AreaCoreModel"
def F_X : u_T := fun k => match k with
  | 0 => ("AreaCoreModel", "thrown", "I", false)
  | 1 => ("AreaCoreModel", "memory", "[I", true)
  | 2 => ("AreaCoreModel", "d", "[I", true)
  | 3 => ("AreaCoreModel", "a", "[I", true)
  | 4 => ("AreaCoreModel", "own", "[I", true)
  | 5 => ("AreaCoreModel", "level", "I", false)
  | 6 => ("AreaCoreModel", "set", "I", false)
  | 7 => ("AreaCoreModel", "depth", "I", false)
  | 8 => ("AreaCoreModel", "priority", "I", false)
  | 9 => ("AreaCoreModel", "enabled", "Z", false)
  | 10 => ("AreaCoreModel", "pending", "I", false)
  | 11 => ("AreaCoreModel", "runs", "Z", false)
  | 12 => ("AreaCoreModel", "time", "I", false)
  | 13 => ("AreaCoreModel", "every", "I", false)
  | 14 => ("AreaCoreModel", "timed", "I", false)
  | 15 => ("AreaCoreModel", "table", "I", false)
  | 16 => ("AreaCoreModel", "other", "I", false)
  | 17 => ("AreaCoreModel", "guarding", "Z", false)
  | 18 => ("AreaCoreModel", "low", "[I", true)
  | 19 => ("AreaCoreModel", "high", "[I", true)
  | 20 => ("AreaCoreModel", "rights", "[I", true)
  | 21 => ("AreaCoreModel", "traps", "I", false)
  | 22 => ("AreaCoreModel", "latest", "I", false)
  | 23 => ("AreaCoreModel", "taken", "I", false)
  | 24 => ("AreaCoreModel", "drained", "Z", false)
  | 25 => ("AreaCoreModel", "third", "Z", false)
  | _ => ("AreaCoreModel", "trap", "I", false)
def ty_X : Nat → FieldType := fun k => match k with
  | 0 => .int
  | 1 => .array .int
  | 2 => .array .int
  | 3 => .array .int
  | 4 => .array .int
  | 5 => .int
  | 6 => .int
  | 7 => .int
  | 8 => .int
  | 9 => .boolean
  | 10 => .int
  | 11 => .boolean
  | 12 => .int
  | 13 => .int
  | 14 => .int
  | 15 => .int
  | 16 => .int
  | 17 => .boolean
  | 18 => .array .int
  | 19 => .array .int
  | 20 => .array .int
  | 21 => .int
  | 22 => .int
  | 23 => .int
  | 24 => .boolean
  | 25 => .boolean
  | _ => .int
theorem n_X : ∀ a, a < 27 → ∀ b, b < 27 → a ≠ b → (F_X a).2.1 ≠ (F_X b).2.1 := by decide +kernel
theorem ty_X_ok : ∀ k, k < 27 → parseFieldDescriptor (F_X k).2.2.1 = some (ty_X k) := by decide +kernel
def R_Z : String := "java/lang/Math"
def R_L : String := "AreaCoreLaw"
abbrev classes : List vw_C := [(R_M, F_M, 1), (R_R, F_R, 12), (R_G, F_G, 3), (R_T, F_T, 5), (R_P, F_P, 10), (R_C, F_C, 1), (R_X, F_X, 27)]
def wd : List Cond := lw_tbl.filter goodWord
theorem wd_good : wd.all goodWord = true := List.all_eq_true.mpr (fun _ h => (List.mem_filter.mp h).2)
theorem mt_1 {w : Cond} (h : w ∈ tables_1_1) (g : goodWord w = true) : w ∈ wd := List.mem_filter.mpr ⟨List.mem_append_right _ (show w ∈ tables_1_1 ++ (tables_1_2 ++ (tables_1_3 ++ tables_1_4)) from List.mem_append_left _ h), g⟩
theorem mt_2 {w : Cond} (h : w ∈ tables_1_2) (g : goodWord w = true) : w ∈ wd := List.mem_filter.mpr ⟨List.mem_append_right _ (show w ∈ tables_1_1 ++ (tables_1_2 ++ (tables_1_3 ++ tables_1_4)) from List.mem_append_right _ (List.mem_append_left _ h)), g⟩
theorem mt_3 {w : Cond} (h : w ∈ tables_1_3) (g : goodWord w = true) : w ∈ wd := List.mem_filter.mpr ⟨List.mem_append_right _ (show w ∈ tables_1_1 ++ (tables_1_2 ++ (tables_1_3 ++ tables_1_4)) from List.mem_append_right _ (List.mem_append_right _ (List.mem_append_left _ h))), g⟩
theorem mt_4 {w : Cond} (h : w ∈ tables_1_4) (g : goodWord w = true) : w ∈ wd := List.mem_filter.mpr ⟨List.mem_append_right _ (show w ∈ tables_1_1 ++ (tables_1_2 ++ (tables_1_3 ++ tables_1_4)) from List.mem_append_right _ (List.mem_append_right _ (List.mem_append_right _ h))), g⟩
theorem mt_s {w : Cond} (h : w ∈ k2_sels lw_privs) (g : goodWord w = true) : w ∈ wd := List.mem_filter.mpr ⟨List.mem_append_left _ h, g⟩
theorem mt_lay {C : String} {F : u_T} {N : Nat} (h : ((List.range N).all fun k => decide (u_lay C F k ∈ tables_1) && goodWord (u_lay C F k)) = true) : ∀ x ∈ u_ws C F N, x ∈ wd := by
  intro x hx
  obtain ⟨k, hk, rfl⟩ := List.mem_map.mp hx
  have h1 := List.all_eq_true.mp h k hk
  simp only [Bool.and_eq_true, decide_eq_true_eq] at h1
  exact List.mem_filter.mpr ⟨List.mem_append_right _ h1.1, h1.2⟩
theorem in_M : ∀ x ∈ u_ws R_M F_M 1, x ∈ wd := mt_lay (by decide +kernel)
theorem in_R : ∀ x ∈ u_ws R_R F_R 12, x ∈ wd := mt_lay (by decide +kernel)
theorem in_G : ∀ x ∈ u_ws R_G F_G 3, x ∈ wd := mt_lay (by decide +kernel)
theorem in_T : ∀ x ∈ u_ws R_T F_T 5, x ∈ wd := mt_lay (by decide +kernel)
theorem in_P : ∀ x ∈ u_ws R_P F_P 10, x ∈ wd := mt_lay (by decide +kernel)
theorem in_C : ∀ x ∈ u_ws R_C F_C 1, x ∈ wd := mt_lay (by decide +kernel)
theorem in_X : ∀ x ∈ u_ws R_X F_X 27, x ∈ wd := mt_lay (by decide +kernel)
abbrev oM (xM xW : Nat) : Nat × va_E := (xM, .inr (0, [.ref xW]))
abbrev oR (xR xD xA : Nat) (f : Nat → Int32) : Nat × va_E := (xR, .inr (1, [.ref xD, .ref xA, .int (f 0), .int (f 1), .int (f 2), .int (f 3), .int (f 4), .int (f 5), .int (f 6), .int (f 7), .int (f 8), .int (f 9)]))
abbrev oG (xG xL xH xI : Nat) : Nat × va_E := (xG, .inr (2, [.ref xL, .ref xH, .ref xI]))
abbrev oT (xT : Nat) (f : Nat → Int32) : Nat × va_E := (xT, .inr (3, [.int (f 0), .int (f 1), .int (f 2), .int (f 3), .int (f 4)]))
abbrev oP (xP xM xR xG xT : Nat) (f : Nat → Int32) : Nat × va_E := (xP, .inr (4, [.ref xM, .ref xR, .ref xG, .ref xT, .int (f 0), .int (f 1), .int (f 2), .int (f 3), .int (f 4), .int (f 5)]))
abbrev oC (xC xP : Nat) : Nat × va_E := (xC, .inr (5, [.ref xP]))
abbrev oX (yX yM yD yA yO yL yH yI : Nat) (f : Nat → Int32) : Nat × va_E := (yX, .inr (6, [.int (f 0), .ref yM, .ref yD, .ref yA, .ref yO, .int (f 1), .int (f 2), .int (f 3), .int (f 4), .int (f 5), .int (f 6), .int (f 7), .int (f 8), .int (f 9), .int (f 10), .int (f 11), .int (f 12), .int (f 13), .ref yL, .ref yH, .ref yI, .int (f 14), .int (f 15), .int (f 16), .int (f 17), .int (f 18), .int (f 19)]))
abbrev ar (cI : ClassId) (x n : Nat) (f : Nat → Int32) : Nat × va_E := (x, .inl (cI, n, .inl f))
abbrev b_M_has : ByteArray := prog_3_method_2_code
def y_M_has : MethodName := ⟨R_M, "has", "(I)Z"⟩
theorem nd_M_has : y_M_has.cls ≠ "java/lang/invoke/MethodHandle" ∧ y_M_has.cls ≠ "java/lang/invoke/VarHandle" ∧ (parseMethodDescriptor y_M_has.desc).map (fun d => d.parameters.length) = some 1 := by decide +kernel
abbrev b_M_isArea : ByteArray := prog_3_method_3_code
def y_M_isArea : MethodName := ⟨R_M, "isArea", "(I)Z"⟩
theorem nd_M_isArea : y_M_isArea.cls ≠ "java/lang/invoke/MethodHandle" ∧ y_M_isArea.cls ≠ "java/lang/invoke/VarHandle" ∧ (parseMethodDescriptor y_M_isArea.desc).map (fun d => d.parameters.length) = some 1 := by decide +kernel
abbrev b_M_areaStart : ByteArray := prog_3_method_4_code
def y_M_areaStart : MethodName := ⟨R_M, "areaStart", "(I)I"⟩
theorem nd_M_areaStart : y_M_areaStart.cls ≠ "java/lang/invoke/MethodHandle" ∧ y_M_areaStart.cls ≠ "java/lang/invoke/VarHandle" ∧ (parseMethodDescriptor y_M_areaStart.desc).map (fun d => d.parameters.length) = some 1 := by decide +kernel
abbrev b_M_read : ByteArray := prog_3_method_5_code
def y_M_read : MethodName := ⟨R_M, "read", "(I)I"⟩
theorem nd_M_read : y_M_read.cls ≠ "java/lang/invoke/MethodHandle" ∧ y_M_read.cls ≠ "java/lang/invoke/VarHandle" ∧ (parseMethodDescriptor y_M_read.desc).map (fun d => d.parameters.length) = some 1 := by decide +kernel
theorem nv_M_read : y_M_read.cls = R_M ∧ y_M_read.cls ≠ "java/lang/invoke/MethodHandle" ∧ y_M_read.cls ≠ "java/lang/invoke/VarHandle" ∧ (parseMethodDescriptor y_M_read.desc).map (fun d => d.parameters.length) = some 1 := ⟨rfl, nd_M_read⟩
abbrev b_M_write : ByteArray := prog_3_method_6_code
def y_M_write : MethodName := ⟨R_M, "write", "(II)V"⟩
theorem nd_M_write : y_M_write.cls ≠ "java/lang/invoke/MethodHandle" ∧ y_M_write.cls ≠ "java/lang/invoke/VarHandle" ∧ (parseMethodDescriptor y_M_write.desc).map (fun d => d.parameters.length) = some 2 := by decide +kernel
theorem nv_M_write : y_M_write.cls = R_M ∧ y_M_write.cls ≠ "java/lang/invoke/MethodHandle" ∧ y_M_write.cls ≠ "java/lang/invoke/VarHandle" ∧ (parseMethodDescriptor y_M_write.desc).map (fun d => d.parameters.length) = some 2 := ⟨rfl, nd_M_write⟩
abbrev b_M_chainAreas : ByteArray := prog_3_method_7_code
def y_M_chainAreas : MethodName := ⟨R_M, "chainAreas", "(I)V"⟩
theorem nd_M_chainAreas : y_M_chainAreas.cls ≠ "java/lang/invoke/MethodHandle" ∧ y_M_chainAreas.cls ≠ "java/lang/invoke/VarHandle" ∧ (parseMethodDescriptor y_M_chainAreas.desc).map (fun d => d.parameters.length) = some 1 := by decide +kernel
theorem nv_M_chainAreas : y_M_chainAreas.cls = R_M ∧ y_M_chainAreas.cls ≠ "java/lang/invoke/MethodHandle" ∧ y_M_chainAreas.cls ≠ "java/lang/invoke/VarHandle" ∧ (parseMethodDescriptor y_M_chainAreas.desc).map (fun d => d.parameters.length) = some 1 := ⟨rfl, nd_M_chainAreas⟩
abbrev b_M_countAreas : ByteArray := prog_3_method_8_code
def y_M_countAreas : MethodName := ⟨R_M, "countAreas", "(I)I"⟩
theorem nd_M_countAreas : y_M_countAreas.cls ≠ "java/lang/invoke/MethodHandle" ∧ y_M_countAreas.cls ≠ "java/lang/invoke/VarHandle" ∧ (parseMethodDescriptor y_M_countAreas.desc).map (fun d => d.parameters.length) = some 1 := by decide +kernel
theorem nv_M_countAreas : y_M_countAreas.cls = R_M ∧ y_M_countAreas.cls ≠ "java/lang/invoke/MethodHandle" ∧ y_M_countAreas.cls ≠ "java/lang/invoke/VarHandle" ∧ (parseMethodDescriptor y_M_countAreas.desc).map (fun d => d.parameters.length) = some 1 := ⟨rfl, nd_M_countAreas⟩
abbrev b_R_state : ByteArray := prog_6_method_2_code
def y_R_state : MethodName := ⟨R_R, "state", "()I"⟩
theorem nd_R_state : y_R_state.cls ≠ "java/lang/invoke/MethodHandle" ∧ y_R_state.cls ≠ "java/lang/invoke/VarHandle" ∧ (parseMethodDescriptor y_R_state.desc).map (fun d => d.parameters.length) = some 0 := by decide +kernel
theorem nv_R_state : y_R_state.cls = R_R ∧ y_R_state.cls ≠ "java/lang/invoke/MethodHandle" ∧ y_R_state.cls ≠ "java/lang/invoke/VarHandle" ∧ (parseMethodDescriptor y_R_state.desc).map (fun d => d.parameters.length) = some 0 := ⟨rfl, nd_R_state⟩
abbrev b_R_takeState : ByteArray := prog_6_method_3_code
def y_R_takeState : MethodName := ⟨R_R, "takeState", "(I)V"⟩
theorem nd_R_takeState : y_R_takeState.cls ≠ "java/lang/invoke/MethodHandle" ∧ y_R_takeState.cls ≠ "java/lang/invoke/VarHandle" ∧ (parseMethodDescriptor y_R_takeState.desc).map (fun d => d.parameters.length) = some 1 := by decide +kernel
theorem nv_R_takeState : y_R_takeState.cls = R_R ∧ y_R_takeState.cls ≠ "java/lang/invoke/MethodHandle" ∧ y_R_takeState.cls ≠ "java/lang/invoke/VarHandle" ∧ (parseMethodDescriptor y_R_takeState.desc).map (fun d => d.parameters.length) = some 1 := ⟨rfl, nd_R_takeState⟩
abbrev b_R_begin : ByteArray := prog_6_method_4_code
def y_R_begin : MethodName := ⟨R_R, "begin", "(IIZ)V"⟩
theorem nd_R_begin : y_R_begin.cls ≠ "java/lang/invoke/MethodHandle" ∧ y_R_begin.cls ≠ "java/lang/invoke/VarHandle" ∧ (parseMethodDescriptor y_R_begin.desc).map (fun d => d.parameters.length) = some 3 := by decide +kernel
theorem nv_R_begin : y_R_begin.cls = R_R ∧ y_R_begin.cls ≠ "java/lang/invoke/MethodHandle" ∧ y_R_begin.cls ≠ "java/lang/invoke/VarHandle" ∧ (parseMethodDescriptor y_R_begin.desc).map (fun d => d.parameters.length) = some 3 := ⟨rfl, nd_R_begin⟩
abbrev b_R_enterHandler : ByteArray := prog_6_method_5_code
def y_R_enterHandler : MethodName := ⟨R_R, "enterHandler", "(II)V"⟩
theorem nd_R_enterHandler : y_R_enterHandler.cls ≠ "java/lang/invoke/MethodHandle" ∧ y_R_enterHandler.cls ≠ "java/lang/invoke/VarHandle" ∧ (parseMethodDescriptor y_R_enterHandler.desc).map (fun d => d.parameters.length) = some 2 := by decide +kernel
theorem nv_R_enterHandler : y_R_enterHandler.cls = R_R ∧ y_R_enterHandler.cls ≠ "java/lang/invoke/MethodHandle" ∧ y_R_enterHandler.cls ≠ "java/lang/invoke/VarHandle" ∧ (parseMethodDescriptor y_R_enterHandler.desc).map (fun d => d.parameters.length) = some 2 := ⟨rfl, nd_R_enterHandler⟩
abbrev b_R_keep : ByteArray := prog_6_method_6_code
def y_R_keep : MethodName := ⟨R_R, "keep", "(LAreaCore$Memory;Z)Z"⟩
theorem nd_R_keep : y_R_keep.cls ≠ "java/lang/invoke/MethodHandle" ∧ y_R_keep.cls ≠ "java/lang/invoke/VarHandle" ∧ (parseMethodDescriptor y_R_keep.desc).map (fun d => d.parameters.length) = some 2 := by decide +kernel
theorem nv_R_keep : y_R_keep.cls = R_R ∧ y_R_keep.cls ≠ "java/lang/invoke/MethodHandle" ∧ y_R_keep.cls ≠ "java/lang/invoke/VarHandle" ∧ (parseMethodDescriptor y_R_keep.desc).map (fun d => d.parameters.length) = some 2 := ⟨rfl, nd_R_keep⟩
abbrev b_R_refuseBack : ByteArray := prog_6_method_7_code
def y_R_refuseBack : MethodName := ⟨R_R, "refuseBack", "(Z)I"⟩
theorem nd_R_refuseBack : y_R_refuseBack.cls ≠ "java/lang/invoke/MethodHandle" ∧ y_R_refuseBack.cls ≠ "java/lang/invoke/VarHandle" ∧ (parseMethodDescriptor y_R_refuseBack.desc).map (fun d => d.parameters.length) = some 1 := by decide +kernel
theorem nv_R_refuseBack : y_R_refuseBack.cls = R_R ∧ y_R_refuseBack.cls ≠ "java/lang/invoke/MethodHandle" ∧ y_R_refuseBack.cls ≠ "java/lang/invoke/VarHandle" ∧ (parseMethodDescriptor y_R_refuseBack.desc).map (fun d => d.parameters.length) = some 1 := ⟨rfl, nd_R_refuseBack⟩
abbrev b_R_bringBack : ByteArray := prog_6_method_8_code
def y_R_bringBack : MethodName := ⟨R_R, "bringBack", "(LAreaCore$Memory;Z)V"⟩
theorem nd_R_bringBack : y_R_bringBack.cls ≠ "java/lang/invoke/MethodHandle" ∧ y_R_bringBack.cls ≠ "java/lang/invoke/VarHandle" ∧ (parseMethodDescriptor y_R_bringBack.desc).map (fun d => d.parameters.length) = some 2 := by decide +kernel
theorem nv_R_bringBack : y_R_bringBack.cls = R_R ∧ y_R_bringBack.cls ≠ "java/lang/invoke/MethodHandle" ∧ y_R_bringBack.cls ≠ "java/lang/invoke/VarHandle" ∧ (parseMethodDescriptor y_R_bringBack.desc).map (fun d => d.parameters.length) = some 2 := ⟨rfl, nd_R_bringBack⟩
abbrev b_G_change : ByteArray := prog_5_method_2_code
def y_G_change : MethodName := ⟨R_G, "change", "(IIII)V"⟩
theorem nd_G_change : y_G_change.cls ≠ "java/lang/invoke/MethodHandle" ∧ y_G_change.cls ≠ "java/lang/invoke/VarHandle" ∧ (parseMethodDescriptor y_G_change.desc).map (fun d => d.parameters.length) = some 4 := by decide +kernel
theorem nv_G_change : y_G_change.cls = R_G ∧ y_G_change.cls ≠ "java/lang/invoke/MethodHandle" ∧ y_G_change.cls ≠ "java/lang/invoke/VarHandle" ∧ (parseMethodDescriptor y_G_change.desc).map (fun d => d.parameters.length) = some 4 := ⟨rfl, nd_G_change⟩
abbrev b_G_covers : ByteArray := prog_5_method_3_code
def y_G_covers : MethodName := ⟨R_G, "covers", "(II)Z"⟩
theorem nd_G_covers : y_G_covers.cls ≠ "java/lang/invoke/MethodHandle" ∧ y_G_covers.cls ≠ "java/lang/invoke/VarHandle" ∧ (parseMethodDescriptor y_G_covers.desc).map (fun d => d.parameters.length) = some 2 := by decide +kernel
theorem nv_G_covers : y_G_covers.cls = R_G ∧ y_G_covers.cls ≠ "java/lang/invoke/MethodHandle" ∧ y_G_covers.cls ≠ "java/lang/invoke/VarHandle" ∧ (parseMethodDescriptor y_G_covers.desc).map (fun d => d.parameters.length) = some 2 := ⟨rfl, nd_G_covers⟩
abbrev b_G_letsRun : ByteArray := prog_5_method_4_code
def y_G_letsRun : MethodName := ⟨R_G, "letsRun", "(II)Z"⟩
theorem nd_G_letsRun : y_G_letsRun.cls ≠ "java/lang/invoke/MethodHandle" ∧ y_G_letsRun.cls ≠ "java/lang/invoke/VarHandle" ∧ (parseMethodDescriptor y_G_letsRun.desc).map (fun d => d.parameters.length) = some 2 := by decide +kernel
theorem nv_G_letsRun : y_G_letsRun.cls = R_G ∧ y_G_letsRun.cls ≠ "java/lang/invoke/MethodHandle" ∧ y_G_letsRun.cls ≠ "java/lang/invoke/VarHandle" ∧ (parseMethodDescriptor y_G_letsRun.desc).map (fun d => d.parameters.length) = some 2 := ⟨rfl, nd_G_letsRun⟩
abbrev b_G_letsUse : ByteArray := prog_5_method_5_code
def y_G_letsUse : MethodName := ⟨R_G, "letsUse", "(III)Z"⟩
theorem nd_G_letsUse : y_G_letsUse.cls ≠ "java/lang/invoke/MethodHandle" ∧ y_G_letsUse.cls ≠ "java/lang/invoke/VarHandle" ∧ (parseMethodDescriptor y_G_letsUse.desc).map (fun d => d.parameters.length) = some 3 := by decide +kernel
theorem nv_G_letsUse : y_G_letsUse.cls = R_G ∧ y_G_letsUse.cls ≠ "java/lang/invoke/MethodHandle" ∧ y_G_letsUse.cls ≠ "java/lang/invoke/VarHandle" ∧ (parseMethodDescriptor y_G_letsUse.desc).map (fun d => d.parameters.length) = some 3 := ⟨rfl, nd_G_letsUse⟩
abbrev b_T_has : ByteArray := prog_2_method_2_code
def y_T_has : MethodName := ⟨R_T, "has", "(I)Z"⟩
theorem nd_T_has : y_T_has.cls ≠ "java/lang/invoke/MethodHandle" ∧ y_T_has.cls ≠ "java/lang/invoke/VarHandle" ∧ (parseMethodDescriptor y_T_has.desc).map (fun d => d.parameters.length) = some 1 := by decide +kernel
abbrev b_T_isPending : ByteArray := prog_2_method_3_code
def y_T_isPending : MethodName := ⟨R_T, "isPending", "(I)Z"⟩
theorem nd_T_isPending : y_T_isPending.cls ≠ "java/lang/invoke/MethodHandle" ∧ y_T_isPending.cls ≠ "java/lang/invoke/VarHandle" ∧ (parseMethodDescriptor y_T_isPending.desc).map (fun d => d.parameters.length) = some 1 := by decide +kernel
theorem nv_T_isPending : y_T_isPending.cls = R_T ∧ y_T_isPending.cls ≠ "java/lang/invoke/MethodHandle" ∧ y_T_isPending.cls ≠ "java/lang/invoke/VarHandle" ∧ (parseMethodDescriptor y_T_isPending.desc).map (fun d => d.parameters.length) = some 1 := ⟨rfl, nd_T_isPending⟩
abbrev b_T_ask : ByteArray := prog_2_method_4_code
def y_T_ask : MethodName := ⟨R_T, "ask", "(I)V"⟩
theorem nd_T_ask : y_T_ask.cls ≠ "java/lang/invoke/MethodHandle" ∧ y_T_ask.cls ≠ "java/lang/invoke/VarHandle" ∧ (parseMethodDescriptor y_T_ask.desc).map (fun d => d.parameters.length) = some 1 := by decide +kernel
theorem nv_T_ask : y_T_ask.cls = R_T ∧ y_T_ask.cls ≠ "java/lang/invoke/MethodHandle" ∧ y_T_ask.cls ≠ "java/lang/invoke/VarHandle" ∧ (parseMethodDescriptor y_T_ask.desc).map (fun d => d.parameters.length) = some 1 := ⟨rfl, nd_T_ask⟩
abbrev b_T_tick : ByteArray := prog_2_method_5_code
def y_T_tick : MethodName := ⟨R_T, "tick", "()V"⟩
theorem nd_T_tick : y_T_tick.cls ≠ "java/lang/invoke/MethodHandle" ∧ y_T_tick.cls ≠ "java/lang/invoke/VarHandle" ∧ (parseMethodDescriptor y_T_tick.desc).map (fun d => d.parameters.length) = some 0 := by decide +kernel
theorem nv_T_tick : y_T_tick.cls = R_T ∧ y_T_tick.cls ≠ "java/lang/invoke/MethodHandle" ∧ y_T_tick.cls ≠ "java/lang/invoke/VarHandle" ∧ (parseMethodDescriptor y_T_tick.desc).map (fun d => d.parameters.length) = some 0 := ⟨rfl, nd_T_tick⟩
abbrev b_T_take : ByteArray := prog_2_method_7_code
def y_T_take : MethodName := ⟨R_T, "take", "(I)V"⟩
theorem nd_T_take : y_T_take.cls ≠ "java/lang/invoke/MethodHandle" ∧ y_T_take.cls ≠ "java/lang/invoke/VarHandle" ∧ (parseMethodDescriptor y_T_take.desc).map (fun d => d.parameters.length) = some 1 := by decide +kernel
theorem nv_T_take : y_T_take.cls = R_T ∧ y_T_take.cls ≠ "java/lang/invoke/MethodHandle" ∧ y_T_take.cls ≠ "java/lang/invoke/VarHandle" ∧ (parseMethodDescriptor y_T_take.desc).map (fun d => d.parameters.length) = some 1 := ⟨rfl, nd_T_take⟩
abbrev b_T_greatest : ByteArray := prog_2_method_6_code
def y_T_greatest : MethodName := ⟨R_T, "greatest", "()I"⟩
theorem nd_T_greatest : y_T_greatest.cls ≠ "java/lang/invoke/MethodHandle" ∧ y_T_greatest.cls ≠ "java/lang/invoke/VarHandle" ∧ (parseMethodDescriptor y_T_greatest.desc).map (fun d => d.parameters.length) = some 0 := by decide +kernel
theorem nv_T_greatest : y_T_greatest.cls = R_T ∧ y_T_greatest.cls ≠ "java/lang/invoke/MethodHandle" ∧ y_T_greatest.cls ≠ "java/lang/invoke/VarHandle" ∧ (parseMethodDescriptor y_T_greatest.desc).map (fun d => d.parameters.length) = some 0 := ⟨rfl, nd_T_greatest⟩
abbrev b_P_needsTopLevel : ByteArray := prog_4_method_9_code
def y_P_needsTopLevel : MethodName := ⟨R_P, "needsTopLevel", "(I)Z"⟩
theorem nd_P_needsTopLevel : y_P_needsTopLevel.cls ≠ "java/lang/invoke/MethodHandle" ∧ y_P_needsTopLevel.cls ≠ "java/lang/invoke/VarHandle" ∧ (parseMethodDescriptor y_P_needsTopLevel.desc).map (fun d => d.parameters.length) = some 1 := by decide +kernel
abbrev b_P_fieldA : ByteArray := prog_4_method_10_code
def y_P_fieldA : MethodName := ⟨R_P, "fieldA", "(I)I"⟩
theorem nd_P_fieldA : y_P_fieldA.cls ≠ "java/lang/invoke/MethodHandle" ∧ y_P_fieldA.cls ≠ "java/lang/invoke/VarHandle" ∧ (parseMethodDescriptor y_P_fieldA.desc).map (fun d => d.parameters.length) = some 1 := by decide +kernel
abbrev b_P_fieldB : ByteArray := prog_4_method_11_code
def y_P_fieldB : MethodName := ⟨R_P, "fieldB", "(I)I"⟩
theorem nd_P_fieldB : y_P_fieldB.cls ≠ "java/lang/invoke/MethodHandle" ∧ y_P_fieldB.cls ≠ "java/lang/invoke/VarHandle" ∧ (parseMethodDescriptor y_P_fieldB.desc).map (fun d => d.parameters.length) = some 1 := by decide +kernel
abbrev b_P_fieldC : ByteArray := prog_4_method_12_code
def y_P_fieldC : MethodName := ⟨R_P, "fieldC", "(I)I"⟩
theorem nd_P_fieldC : y_P_fieldC.cls ≠ "java/lang/invoke/MethodHandle" ∧ y_P_fieldC.cls ≠ "java/lang/invoke/VarHandle" ∧ (parseMethodDescriptor y_P_fieldC.desc).map (fun d => d.parameters.length) = some 1 := by decide +kernel
abbrev b_P_amount : ByteArray := prog_4_method_13_code
def y_P_amount : MethodName := ⟨R_P, "amount", "(I)I"⟩
theorem nd_P_amount : y_P_amount.cls ≠ "java/lang/invoke/MethodHandle" ∧ y_P_amount.cls ≠ "java/lang/invoke/VarHandle" ∧ (parseMethodDescriptor y_P_amount.desc).map (fun d => d.parameters.length) = some 1 := by decide +kernel
abbrev b_P_isGuarded : ByteArray := prog_4_method_6_code
def y_P_isGuarded : MethodName := ⟨R_P, "isGuarded", "()Z"⟩
theorem nd_P_isGuarded : y_P_isGuarded.cls ≠ "java/lang/invoke/MethodHandle" ∧ y_P_isGuarded.cls ≠ "java/lang/invoke/VarHandle" ∧ (parseMethodDescriptor y_P_isGuarded.desc).map (fun d => d.parameters.length) = some 0 := by decide +kernel
theorem nv_P_isGuarded : y_P_isGuarded.cls = R_P ∧ y_P_isGuarded.cls ≠ "java/lang/invoke/MethodHandle" ∧ y_P_isGuarded.cls ≠ "java/lang/invoke/VarHandle" ∧ (parseMethodDescriptor y_P_isGuarded.desc).map (fun d => d.parameters.length) = some 0 := ⟨rfl, nd_P_isGuarded⟩
abbrev b_P_takeInterrupt : ByteArray := prog_4_method_3_code
def y_P_takeInterrupt : MethodName := ⟨R_P, "takeInterrupt", "(I)V"⟩
theorem nd_P_takeInterrupt : y_P_takeInterrupt.cls ≠ "java/lang/invoke/MethodHandle" ∧ y_P_takeInterrupt.cls ≠ "java/lang/invoke/VarHandle" ∧ (parseMethodDescriptor y_P_takeInterrupt.desc).map (fun d => d.parameters.length) = some 1 := by decide +kernel
theorem nv_P_takeInterrupt : y_P_takeInterrupt.cls = R_P ∧ y_P_takeInterrupt.cls ≠ "java/lang/invoke/MethodHandle" ∧ y_P_takeInterrupt.cls ≠ "java/lang/invoke/VarHandle" ∧ (parseMethodDescriptor y_P_takeInterrupt.desc).map (fun d => d.parameters.length) = some 1 := ⟨rfl, nd_P_takeInterrupt⟩
abbrev b_P_takeTrap : ByteArray := prog_4_method_4_code
def y_P_takeTrap : MethodName := ⟨R_P, "takeTrap", "(II)V"⟩
theorem nd_P_takeTrap : y_P_takeTrap.cls ≠ "java/lang/invoke/MethodHandle" ∧ y_P_takeTrap.cls ≠ "java/lang/invoke/VarHandle" ∧ (parseMethodDescriptor y_P_takeTrap.desc).map (fun d => d.parameters.length) = some 2 := by decide +kernel
theorem nv_P_takeTrap : y_P_takeTrap.cls = R_P ∧ y_P_takeTrap.cls ≠ "java/lang/invoke/MethodHandle" ∧ y_P_takeTrap.cls ≠ "java/lang/invoke/VarHandle" ∧ (parseMethodDescriptor y_P_takeTrap.desc).map (fun d => d.parameters.length) = some 2 := ⟨rfl, nd_P_takeTrap⟩
abbrev b_P_finish : ByteArray := prog_4_method_5_code
def y_P_finish : MethodName := ⟨R_P, "finish", "(I)V"⟩
theorem nd_P_finish : y_P_finish.cls ≠ "java/lang/invoke/MethodHandle" ∧ y_P_finish.cls ≠ "java/lang/invoke/VarHandle" ∧ (parseMethodDescriptor y_P_finish.desc).map (fun d => d.parameters.length) = some 1 := by decide +kernel
theorem nv_P_finish : y_P_finish.cls = R_P ∧ y_P_finish.cls ≠ "java/lang/invoke/MethodHandle" ∧ y_P_finish.cls ≠ "java/lang/invoke/VarHandle" ∧ (parseMethodDescriptor y_P_finish.desc).map (fun d => d.parameters.length) = some 1 := ⟨rfl, nd_P_finish⟩
abbrev b_P_refuseFetch : ByteArray := prog_4_method_7_code
def y_P_refuseFetch : MethodName := ⟨R_P, "refuseFetch", "()I"⟩
theorem nd_P_refuseFetch : y_P_refuseFetch.cls ≠ "java/lang/invoke/MethodHandle" ∧ y_P_refuseFetch.cls ≠ "java/lang/invoke/VarHandle" ∧ (parseMethodDescriptor y_P_refuseFetch.desc).map (fun d => d.parameters.length) = some 0 := by decide +kernel
theorem nv_P_refuseFetch : y_P_refuseFetch.cls = R_P ∧ y_P_refuseFetch.cls ≠ "java/lang/invoke/MethodHandle" ∧ y_P_refuseFetch.cls ≠ "java/lang/invoke/VarHandle" ∧ (parseMethodDescriptor y_P_refuseFetch.desc).map (fun d => d.parameters.length) = some 0 := ⟨rfl, nd_P_refuseFetch⟩
abbrev b_P_refuseWord : ByteArray := prog_4_method_15_code
def y_P_refuseWord : MethodName := ⟨R_P, "refuseWord", "(II)I"⟩
theorem nd_P_refuseWord : y_P_refuseWord.cls ≠ "java/lang/invoke/MethodHandle" ∧ y_P_refuseWord.cls ≠ "java/lang/invoke/VarHandle" ∧ (parseMethodDescriptor y_P_refuseWord.desc).map (fun d => d.parameters.length) = some 2 := by decide +kernel
theorem nv_P_refuseWord : y_P_refuseWord.cls = R_P ∧ y_P_refuseWord.cls ≠ "java/lang/invoke/MethodHandle" ∧ y_P_refuseWord.cls ≠ "java/lang/invoke/VarHandle" ∧ (parseMethodDescriptor y_P_refuseWord.desc).map (fun d => d.parameters.length) = some 2 := ⟨rfl, nd_P_refuseWord⟩
abbrev b_P_compute : ByteArray := prog_4_method_14_code
def y_P_compute : MethodName := ⟨R_P, "compute", "(II)I"⟩
theorem nd_P_compute : y_P_compute.cls ≠ "java/lang/invoke/MethodHandle" ∧ y_P_compute.cls ≠ "java/lang/invoke/VarHandle" ∧ (parseMethodDescriptor y_P_compute.desc).map (fun d => d.parameters.length) = some 2 := by decide +kernel
theorem nv_P_compute : y_P_compute.cls = R_P ∧ y_P_compute.cls ≠ "java/lang/invoke/MethodHandle" ∧ y_P_compute.cls ≠ "java/lang/invoke/VarHandle" ∧ (parseMethodDescriptor y_P_compute.desc).map (fun d => d.parameters.length) = some 2 := ⟨rfl, nd_P_compute⟩
abbrev b_P_moveWord : ByteArray := prog_4_method_16_code
def y_P_moveWord : MethodName := ⟨R_P, "moveWord", "(II)I"⟩
theorem nd_P_moveWord : y_P_moveWord.cls ≠ "java/lang/invoke/MethodHandle" ∧ y_P_moveWord.cls ≠ "java/lang/invoke/VarHandle" ∧ (parseMethodDescriptor y_P_moveWord.desc).map (fun d => d.parameters.length) = some 2 := by decide +kernel
theorem nv_P_moveWord : y_P_moveWord.cls = R_P ∧ y_P_moveWord.cls ≠ "java/lang/invoke/MethodHandle" ∧ y_P_moveWord.cls ≠ "java/lang/invoke/VarHandle" ∧ (parseMethodDescriptor y_P_moveWord.desc).map (fun d => d.parameters.length) = some 2 := ⟨rfl, nd_P_moveWord⟩
abbrev b_Z_floorMod : ByteArray := prog_13_method_50_code
def y_Z_floorMod : MethodName := ⟨R_Z, "floorMod", "(II)I"⟩
theorem nd_Z_floorMod : y_Z_floorMod.cls ≠ "java/lang/invoke/MethodHandle" ∧ y_Z_floorMod.cls ≠ "java/lang/invoke/VarHandle" ∧ (parseMethodDescriptor y_Z_floorMod.desc).map (fun d => d.parameters.length) = some 2 := by decide +kernel
abbrev b_P_readRing : ByteArray := prog_4_method_17_code
def y_P_readRing : MethodName := ⟨R_P, "readRing", "(I)I"⟩
theorem nd_P_readRing : y_P_readRing.cls ≠ "java/lang/invoke/MethodHandle" ∧ y_P_readRing.cls ≠ "java/lang/invoke/VarHandle" ∧ (parseMethodDescriptor y_P_readRing.desc).map (fun d => d.parameters.length) = some 1 := by decide +kernel
theorem nv_P_readRing : y_P_readRing.cls = R_P ∧ y_P_readRing.cls ≠ "java/lang/invoke/MethodHandle" ∧ y_P_readRing.cls ≠ "java/lang/invoke/VarHandle" ∧ (parseMethodDescriptor y_P_readRing.desc).map (fun d => d.parameters.length) = some 1 := ⟨rfl, nd_P_readRing⟩
abbrev b_P_jump : ByteArray := prog_4_method_18_code
def y_P_jump : MethodName := ⟨R_P, "jump", "(II)I"⟩
theorem nd_P_jump : y_P_jump.cls ≠ "java/lang/invoke/MethodHandle" ∧ y_P_jump.cls ≠ "java/lang/invoke/VarHandle" ∧ (parseMethodDescriptor y_P_jump.desc).map (fun d => d.parameters.length) = some 2 := by decide +kernel
theorem nv_P_jump : y_P_jump.cls = R_P ∧ y_P_jump.cls ≠ "java/lang/invoke/MethodHandle" ∧ y_P_jump.cls ≠ "java/lang/invoke/VarHandle" ∧ (parseMethodDescriptor y_P_jump.desc).map (fun d => d.parameters.length) = some 2 := ⟨rfl, nd_P_jump⟩
abbrev b_P_callDown : ByteArray := prog_4_method_19_code
def y_P_callDown : MethodName := ⟨R_P, "callDown", "(I)I"⟩
theorem nd_P_callDown : y_P_callDown.cls ≠ "java/lang/invoke/MethodHandle" ∧ y_P_callDown.cls ≠ "java/lang/invoke/VarHandle" ∧ (parseMethodDescriptor y_P_callDown.desc).map (fun d => d.parameters.length) = some 1 := by decide +kernel
theorem nv_P_callDown : y_P_callDown.cls = R_P ∧ y_P_callDown.cls ≠ "java/lang/invoke/MethodHandle" ∧ y_P_callDown.cls ≠ "java/lang/invoke/VarHandle" ∧ (parseMethodDescriptor y_P_callDown.desc).map (fun d => d.parameters.length) = some 1 := ⟨rfl, nd_P_callDown⟩
abbrev b_P_goBack : ByteArray := prog_4_method_20_code
def y_P_goBack : MethodName := ⟨R_P, "goBack", "(Z)I"⟩
theorem nd_P_goBack : y_P_goBack.cls ≠ "java/lang/invoke/MethodHandle" ∧ y_P_goBack.cls ≠ "java/lang/invoke/VarHandle" ∧ (parseMethodDescriptor y_P_goBack.desc).map (fun d => d.parameters.length) = some 1 := by decide +kernel
theorem nv_P_goBack : y_P_goBack.cls = R_P ∧ y_P_goBack.cls ≠ "java/lang/invoke/MethodHandle" ∧ y_P_goBack.cls ≠ "java/lang/invoke/VarHandle" ∧ (parseMethodDescriptor y_P_goBack.desc).map (fun d => d.parameters.length) = some 1 := ⟨rfl, nd_P_goBack⟩
abbrev b_P_keepLower : ByteArray := prog_4_method_21_code
def y_P_keepLower : MethodName := ⟨R_P, "keepLower", "()I"⟩
theorem nd_P_keepLower : y_P_keepLower.cls ≠ "java/lang/invoke/MethodHandle" ∧ y_P_keepLower.cls ≠ "java/lang/invoke/VarHandle" ∧ (parseMethodDescriptor y_P_keepLower.desc).map (fun d => d.parameters.length) = some 0 := by decide +kernel
theorem nv_P_keepLower : y_P_keepLower.cls = R_P ∧ y_P_keepLower.cls ≠ "java/lang/invoke/MethodHandle" ∧ y_P_keepLower.cls ≠ "java/lang/invoke/VarHandle" ∧ (parseMethodDescriptor y_P_keepLower.desc).map (fun d => d.parameters.length) = some 0 := ⟨rfl, nd_P_keepLower⟩
abbrev b_P_bringLowerBack : ByteArray := prog_4_method_22_code
def y_P_bringLowerBack : MethodName := ⟨R_P, "bringLowerBack", "()I"⟩
theorem nd_P_bringLowerBack : y_P_bringLowerBack.cls ≠ "java/lang/invoke/MethodHandle" ∧ y_P_bringLowerBack.cls ≠ "java/lang/invoke/VarHandle" ∧ (parseMethodDescriptor y_P_bringLowerBack.desc).map (fun d => d.parameters.length) = some 0 := by decide +kernel
theorem nv_P_bringLowerBack : y_P_bringLowerBack.cls = R_P ∧ y_P_bringLowerBack.cls ≠ "java/lang/invoke/MethodHandle" ∧ y_P_bringLowerBack.cls ≠ "java/lang/invoke/VarHandle" ∧ (parseMethodDescriptor y_P_bringLowerBack.desc).map (fun d => d.parameters.length) = some 0 := ⟨rfl, nd_P_bringLowerBack⟩
abbrev b_P_openHandler : ByteArray := prog_4_method_23_code
def y_P_openHandler : MethodName := ⟨R_P, "openHandler", "(I)I"⟩
theorem nd_P_openHandler : y_P_openHandler.cls ≠ "java/lang/invoke/MethodHandle" ∧ y_P_openHandler.cls ≠ "java/lang/invoke/VarHandle" ∧ (parseMethodDescriptor y_P_openHandler.desc).map (fun d => d.parameters.length) = some 1 := by decide +kernel
theorem nv_P_openHandler : y_P_openHandler.cls = R_P ∧ y_P_openHandler.cls ≠ "java/lang/invoke/MethodHandle" ∧ y_P_openHandler.cls ≠ "java/lang/invoke/VarHandle" ∧ (parseMethodDescriptor y_P_openHandler.desc).map (fun d => d.parameters.length) = some 1 := ⟨rfl, nd_P_openHandler⟩
abbrev b_P_changeLevel : ByteArray := prog_4_method_24_code
def y_P_changeLevel : MethodName := ⟨R_P, "changeLevel", "(I)I"⟩
theorem nd_P_changeLevel : y_P_changeLevel.cls ≠ "java/lang/invoke/MethodHandle" ∧ y_P_changeLevel.cls ≠ "java/lang/invoke/VarHandle" ∧ (parseMethodDescriptor y_P_changeLevel.desc).map (fun d => d.parameters.length) = some 1 := by decide +kernel
theorem nv_P_changeLevel : y_P_changeLevel.cls = R_P ∧ y_P_changeLevel.cls ≠ "java/lang/invoke/MethodHandle" ∧ y_P_changeLevel.cls ≠ "java/lang/invoke/VarHandle" ∧ (parseMethodDescriptor y_P_changeLevel.desc).map (fun d => d.parameters.length) = some 1 := ⟨rfl, nd_P_changeLevel⟩
abbrev b_P_perform : ByteArray := prog_4_method_8_code
def y_P_perform : MethodName := ⟨R_P, "perform", "(I)I"⟩
theorem nd_P_perform : y_P_perform.cls ≠ "java/lang/invoke/MethodHandle" ∧ y_P_perform.cls ≠ "java/lang/invoke/VarHandle" ∧ (parseMethodDescriptor y_P_perform.desc).map (fun d => d.parameters.length) = some 1 := by decide +kernel
theorem nv_P_perform : y_P_perform.cls = R_P ∧ y_P_perform.cls ≠ "java/lang/invoke/MethodHandle" ∧ y_P_perform.cls ≠ "java/lang/invoke/VarHandle" ∧ (parseMethodDescriptor y_P_perform.desc).map (fun d => d.parameters.length) = some 1 := ⟨rfl, nd_P_perform⟩
abbrev b_P_step : ByteArray := prog_4_method_2_code
def y_P_step : MethodName := ⟨R_P, "step", "()V"⟩
theorem nd_P_step : y_P_step.cls ≠ "java/lang/invoke/MethodHandle" ∧ y_P_step.cls ≠ "java/lang/invoke/VarHandle" ∧ (parseMethodDescriptor y_P_step.desc).map (fun d => d.parameters.length) = some 0 := by decide +kernel
theorem nv_P_step : y_P_step.cls = R_P ∧ y_P_step.cls ≠ "java/lang/invoke/MethodHandle" ∧ y_P_step.cls ≠ "java/lang/invoke/VarHandle" ∧ (parseMethodDescriptor y_P_step.desc).map (fun d => d.parameters.length) = some 0 := ⟨rfl, nd_P_step⟩
abbrev b_C_put : ByteArray := prog_1_method_2_code
def y_C_put : MethodName := ⟨R_C, "put", "(II)Z"⟩
theorem nd_C_put : y_C_put.cls ≠ "java/lang/invoke/MethodHandle" ∧ y_C_put.cls ≠ "java/lang/invoke/VarHandle" ∧ (parseMethodDescriptor y_C_put.desc).map (fun d => d.parameters.length) = some 2 := by decide +kernel
theorem nv_C_put : y_C_put.cls = R_C ∧ y_C_put.cls ≠ "java/lang/invoke/MethodHandle" ∧ y_C_put.cls ≠ "java/lang/invoke/VarHandle" ∧ (parseMethodDescriptor y_C_put.desc).map (fun d => d.parameters.length) = some 2 := ⟨rfl, nd_C_put⟩
abbrev b_C_pool : ByteArray := prog_1_method_3_code
def y_C_pool : MethodName := ⟨R_C, "pool", "(II)V"⟩
theorem nd_C_pool : y_C_pool.cls ≠ "java/lang/invoke/MethodHandle" ∧ y_C_pool.cls ≠ "java/lang/invoke/VarHandle" ∧ (parseMethodDescriptor y_C_pool.desc).map (fun d => d.parameters.length) = some 2 := by decide +kernel
theorem nv_C_pool : y_C_pool.cls = R_C ∧ y_C_pool.cls ≠ "java/lang/invoke/MethodHandle" ∧ y_C_pool.cls ≠ "java/lang/invoke/VarHandle" ∧ (parseMethodDescriptor y_C_pool.desc).map (fun d => d.parameters.length) = some 2 := ⟨rfl, nd_C_pool⟩
abbrev b_C_tables : ByteArray := prog_1_method_4_code
def y_C_tables : MethodName := ⟨R_C, "tables", "(II)V"⟩
theorem nd_C_tables : y_C_tables.cls ≠ "java/lang/invoke/MethodHandle" ∧ y_C_tables.cls ≠ "java/lang/invoke/VarHandle" ∧ (parseMethodDescriptor y_C_tables.desc).map (fun d => d.parameters.length) = some 2 := by decide +kernel
theorem nv_C_tables : y_C_tables.cls = R_C ∧ y_C_tables.cls ≠ "java/lang/invoke/MethodHandle" ∧ y_C_tables.cls ≠ "java/lang/invoke/VarHandle" ∧ (parseMethodDescriptor y_C_tables.desc).map (fun d => d.parameters.length) = some 2 := ⟨rfl, nd_C_tables⟩
abbrev b_C_range : ByteArray := prog_1_method_5_code
def y_C_range : MethodName := ⟨R_C, "range", "(IIIII)V"⟩
theorem nd_C_range : y_C_range.cls ≠ "java/lang/invoke/MethodHandle" ∧ y_C_range.cls ≠ "java/lang/invoke/VarHandle" ∧ (parseMethodDescriptor y_C_range.desc).map (fun d => d.parameters.length) = some 5 := by decide +kernel
theorem nv_C_range : y_C_range.cls = R_C ∧ y_C_range.cls ≠ "java/lang/invoke/MethodHandle" ∧ y_C_range.cls ≠ "java/lang/invoke/VarHandle" ∧ (parseMethodDescriptor y_C_range.desc).map (fun d => d.parameters.length) = some 5 := ⟨rfl, nd_C_range⟩
abbrev b_C_guard : ByteArray := prog_1_method_6_code
def y_C_guard : MethodName := ⟨R_C, "guard", "(Z)V"⟩
theorem nd_C_guard : y_C_guard.cls ≠ "java/lang/invoke/MethodHandle" ∧ y_C_guard.cls ≠ "java/lang/invoke/VarHandle" ∧ (parseMethodDescriptor y_C_guard.desc).map (fun d => d.parameters.length) = some 1 := by decide +kernel
theorem nv_C_guard : y_C_guard.cls = R_C ∧ y_C_guard.cls ≠ "java/lang/invoke/MethodHandle" ∧ y_C_guard.cls ≠ "java/lang/invoke/VarHandle" ∧ (parseMethodDescriptor y_C_guard.desc).map (fun d => d.parameters.length) = some 1 := ⟨rfl, nd_C_guard⟩
abbrev b_C_timer : ByteArray := prog_1_method_7_code
def y_C_timer : MethodName := ⟨R_C, "timer", "(II)V"⟩
theorem nd_C_timer : y_C_timer.cls ≠ "java/lang/invoke/MethodHandle" ∧ y_C_timer.cls ≠ "java/lang/invoke/VarHandle" ∧ (parseMethodDescriptor y_C_timer.desc).map (fun d => d.parameters.length) = some 2 := by decide +kernel
theorem nv_C_timer : y_C_timer.cls = R_C ∧ y_C_timer.cls ≠ "java/lang/invoke/MethodHandle" ∧ y_C_timer.cls ≠ "java/lang/invoke/VarHandle" ∧ (parseMethodDescriptor y_C_timer.desc).map (fun d => d.parameters.length) = some 2 := ⟨rfl, nd_C_timer⟩
abbrev b_C_request : ByteArray := prog_1_method_8_code
def y_C_request : MethodName := ⟨R_C, "request", "(I)Z"⟩
theorem nd_C_request : y_C_request.cls ≠ "java/lang/invoke/MethodHandle" ∧ y_C_request.cls ≠ "java/lang/invoke/VarHandle" ∧ (parseMethodDescriptor y_C_request.desc).map (fun d => d.parameters.length) = some 1 := by decide +kernel
theorem nv_C_request : y_C_request.cls = R_C ∧ y_C_request.cls ≠ "java/lang/invoke/MethodHandle" ∧ y_C_request.cls ≠ "java/lang/invoke/VarHandle" ∧ (parseMethodDescriptor y_C_request.desc).map (fun d => d.parameters.length) = some 1 := ⟨rfl, nd_C_request⟩
abbrev b_C_start : ByteArray := prog_1_method_9_code
def y_C_start : MethodName := ⟨R_C, "start", "(IIZ)V"⟩
theorem nd_C_start : y_C_start.cls ≠ "java/lang/invoke/MethodHandle" ∧ y_C_start.cls ≠ "java/lang/invoke/VarHandle" ∧ (parseMethodDescriptor y_C_start.desc).map (fun d => d.parameters.length) = some 3 := by decide +kernel
theorem nv_C_start : y_C_start.cls = R_C ∧ y_C_start.cls ≠ "java/lang/invoke/MethodHandle" ∧ y_C_start.cls ≠ "java/lang/invoke/VarHandle" ∧ (parseMethodDescriptor y_C_start.desc).map (fun d => d.parameters.length) = some 3 := ⟨rfl, nd_C_start⟩
abbrev b_C_halt : ByteArray := prog_1_method_10_code
def y_C_halt : MethodName := ⟨R_C, "halt", "()Z"⟩
theorem nd_C_halt : y_C_halt.cls ≠ "java/lang/invoke/MethodHandle" ∧ y_C_halt.cls ≠ "java/lang/invoke/VarHandle" ∧ (parseMethodDescriptor y_C_halt.desc).map (fun d => d.parameters.length) = some 0 := by decide +kernel
theorem nv_C_halt : y_C_halt.cls = R_C ∧ y_C_halt.cls ≠ "java/lang/invoke/MethodHandle" ∧ y_C_halt.cls ≠ "java/lang/invoke/VarHandle" ∧ (parseMethodDescriptor y_C_halt.desc).map (fun d => d.parameters.length) = some 0 := ⟨rfl, nd_C_halt⟩
abbrev b_C_run : ByteArray := prog_1_method_11_code
def y_C_run : MethodName := ⟨R_C, "run", "(I)I"⟩
theorem nd_C_run : y_C_run.cls ≠ "java/lang/invoke/MethodHandle" ∧ y_C_run.cls ≠ "java/lang/invoke/VarHandle" ∧ (parseMethodDescriptor y_C_run.desc).map (fun d => d.parameters.length) = some 1 := by decide +kernel
theorem nv_C_run : y_C_run.cls = R_C ∧ y_C_run.cls ≠ "java/lang/invoke/MethodHandle" ∧ y_C_run.cls ≠ "java/lang/invoke/VarHandle" ∧ (parseMethodDescriptor y_C_run.desc).map (fun d => d.parameters.length) = some 1 := ⟨rfl, nd_C_run⟩
abbrev b_C_register : ByteArray := prog_1_method_12_code
def y_C_register : MethodName := ⟨R_C, "register", "(II)I"⟩
theorem nd_C_register : y_C_register.cls ≠ "java/lang/invoke/MethodHandle" ∧ y_C_register.cls ≠ "java/lang/invoke/VarHandle" ∧ (parseMethodDescriptor y_C_register.desc).map (fun d => d.parameters.length) = some 2 := by decide +kernel
theorem nv_C_register : y_C_register.cls = R_C ∧ y_C_register.cls ≠ "java/lang/invoke/MethodHandle" ∧ y_C_register.cls ≠ "java/lang/invoke/VarHandle" ∧ (parseMethodDescriptor y_C_register.desc).map (fun d => d.parameters.length) = some 2 := ⟨rfl, nd_C_register⟩
abbrev b_C_word : ByteArray := prog_1_method_13_code
def y_C_word : MethodName := ⟨R_C, "word", "(I)I"⟩
theorem nd_C_word : y_C_word.cls ≠ "java/lang/invoke/MethodHandle" ∧ y_C_word.cls ≠ "java/lang/invoke/VarHandle" ∧ (parseMethodDescriptor y_C_word.desc).map (fun d => d.parameters.length) = some 1 := by decide +kernel
theorem nv_C_word : y_C_word.cls = R_C ∧ y_C_word.cls ≠ "java/lang/invoke/MethodHandle" ∧ y_C_word.cls ≠ "java/lang/invoke/VarHandle" ∧ (parseMethodDescriptor y_C_word.desc).map (fun d => d.parameters.length) = some 1 := ⟨rfl, nd_C_word⟩
abbrev b_C_look : ByteArray := prog_1_method_14_code
def y_C_look : MethodName := ⟨R_C, "look", "(I)I"⟩
theorem nd_C_look : y_C_look.cls ≠ "java/lang/invoke/MethodHandle" ∧ y_C_look.cls ≠ "java/lang/invoke/VarHandle" ∧ (parseMethodDescriptor y_C_look.desc).map (fun d => d.parameters.length) = some 1 := by decide +kernel
theorem nv_C_look : y_C_look.cls = R_C ∧ y_C_look.cls ≠ "java/lang/invoke/MethodHandle" ∧ y_C_look.cls ≠ "java/lang/invoke/VarHandle" ∧ (parseMethodDescriptor y_C_look.desc).map (fun d => d.parameters.length) = some 1 := ⟨rfl, nd_C_look⟩
abbrev b_C_list : ByteArray := prog_1_method_15_code
def y_C_list : MethodName := ⟨R_C, "list", "(I)I"⟩
theorem nd_C_list : y_C_list.cls ≠ "java/lang/invoke/MethodHandle" ∧ y_C_list.cls ≠ "java/lang/invoke/VarHandle" ∧ (parseMethodDescriptor y_C_list.desc).map (fun d => d.parameters.length) = some 1 := by decide +kernel
theorem nv_C_list : y_C_list.cls = R_C ∧ y_C_list.cls ≠ "java/lang/invoke/MethodHandle" ∧ y_C_list.cls ≠ "java/lang/invoke/VarHandle" ∧ (parseMethodDescriptor y_C_list.desc).map (fun d => d.parameters.length) = some 1 := ⟨rfl, nd_C_list⟩
abbrev b_X_thrown : ByteArray := prog_8_method_2_code
def y_X_thrown : MethodName := ⟨R_X, "thrown", "()I"⟩
theorem nd_X_thrown : y_X_thrown.cls ≠ "java/lang/invoke/MethodHandle" ∧ y_X_thrown.cls ≠ "java/lang/invoke/VarHandle" ∧ (parseMethodDescriptor y_X_thrown.desc).map (fun d => d.parameters.length) = some 0 := by decide +kernel
theorem nv_X_thrown : y_X_thrown.cls = R_X ∧ y_X_thrown.cls ≠ "java/lang/invoke/MethodHandle" ∧ y_X_thrown.cls ≠ "java/lang/invoke/VarHandle" ∧ (parseMethodDescriptor y_X_thrown.desc).map (fun d => d.parameters.length) = some 0 := ⟨rfl, nd_X_thrown⟩
abbrev b_X_isArea : ByteArray := prog_8_method_3_code
def y_X_isArea : MethodName := ⟨R_X, "isArea", "(I)Z"⟩
theorem nd_X_isArea : y_X_isArea.cls ≠ "java/lang/invoke/MethodHandle" ∧ y_X_isArea.cls ≠ "java/lang/invoke/VarHandle" ∧ (parseMethodDescriptor y_X_isArea.desc).map (fun d => d.parameters.length) = some 1 := by decide +kernel
abbrev b_X_wordsOf : ByteArray := prog_8_method_4_code
def y_X_wordsOf : MethodName := ⟨R_X, "wordsOf", "(I)I"⟩
theorem nd_X_wordsOf : y_X_wordsOf.cls ≠ "java/lang/invoke/MethodHandle" ∧ y_X_wordsOf.cls ≠ "java/lang/invoke/VarHandle" ∧ (parseMethodDescriptor y_X_wordsOf.desc).map (fun d => d.parameters.length) = some 1 := by decide +kernel
abbrev b_X_keep : ByteArray := prog_8_method_5_code
def y_X_keep : MethodName := ⟨R_X, "keep", "(Z)Z"⟩
theorem nd_X_keep : y_X_keep.cls ≠ "java/lang/invoke/MethodHandle" ∧ y_X_keep.cls ≠ "java/lang/invoke/VarHandle" ∧ (parseMethodDescriptor y_X_keep.desc).map (fun d => d.parameters.length) = some 1 := by decide +kernel
theorem nv_X_keep : y_X_keep.cls = R_X ∧ y_X_keep.cls ≠ "java/lang/invoke/MethodHandle" ∧ y_X_keep.cls ≠ "java/lang/invoke/VarHandle" ∧ (parseMethodDescriptor y_X_keep.desc).map (fun d => d.parameters.length) = some 1 := ⟨rfl, nd_X_keep⟩
abbrev b_X_canBring : ByteArray := prog_8_method_6_code
def y_X_canBring : MethodName := ⟨R_X, "canBring", "(Z)Z"⟩
theorem nd_X_canBring : y_X_canBring.cls ≠ "java/lang/invoke/MethodHandle" ∧ y_X_canBring.cls ≠ "java/lang/invoke/VarHandle" ∧ (parseMethodDescriptor y_X_canBring.desc).map (fun d => d.parameters.length) = some 1 := by decide +kernel
theorem nv_X_canBring : y_X_canBring.cls = R_X ∧ y_X_canBring.cls ≠ "java/lang/invoke/MethodHandle" ∧ y_X_canBring.cls ≠ "java/lang/invoke/VarHandle" ∧ (parseMethodDescriptor y_X_canBring.desc).map (fun d => d.parameters.length) = some 1 := ⟨rfl, nd_X_canBring⟩
abbrev b_X_bring : ByteArray := prog_8_method_7_code
def y_X_bring : MethodName := ⟨R_X, "bring", "(Z)V"⟩
theorem nd_X_bring : y_X_bring.cls ≠ "java/lang/invoke/MethodHandle" ∧ y_X_bring.cls ≠ "java/lang/invoke/VarHandle" ∧ (parseMethodDescriptor y_X_bring.desc).map (fun d => d.parameters.length) = some 1 := by decide +kernel
theorem nv_X_bring : y_X_bring.cls = R_X ∧ y_X_bring.cls ≠ "java/lang/invoke/MethodHandle" ∧ y_X_bring.cls ≠ "java/lang/invoke/VarHandle" ∧ (parseMethodDescriptor y_X_bring.desc).map (fun d => d.parameters.length) = some 1 := ⟨rfl, nd_X_bring⟩
abbrev b_X_enter : ByteArray := prog_8_method_8_code
def y_X_enter : MethodName := ⟨R_X, "enter", "(II)Z"⟩
theorem nd_X_enter : y_X_enter.cls ≠ "java/lang/invoke/MethodHandle" ∧ y_X_enter.cls ≠ "java/lang/invoke/VarHandle" ∧ (parseMethodDescriptor y_X_enter.desc).map (fun d => d.parameters.length) = some 2 := by decide +kernel
theorem nv_X_enter : y_X_enter.cls = R_X ∧ y_X_enter.cls ≠ "java/lang/invoke/MethodHandle" ∧ y_X_enter.cls ≠ "java/lang/invoke/VarHandle" ∧ (parseMethodDescriptor y_X_enter.desc).map (fun d => d.parameters.length) = some 2 := ⟨rfl, nd_X_enter⟩
abbrev b_X_take : ByteArray := prog_8_method_9_code
def y_X_take : MethodName := ⟨R_X, "take", "(II)V"⟩
theorem nd_X_take : y_X_take.cls ≠ "java/lang/invoke/MethodHandle" ∧ y_X_take.cls ≠ "java/lang/invoke/VarHandle" ∧ (parseMethodDescriptor y_X_take.desc).map (fun d => d.parameters.length) = some 2 := by decide +kernel
theorem nv_X_take : y_X_take.cls = R_X ∧ y_X_take.cls ≠ "java/lang/invoke/MethodHandle" ∧ y_X_take.cls ≠ "java/lang/invoke/VarHandle" ∧ (parseMethodDescriptor y_X_take.desc).map (fun d => d.parameters.length) = some 2 := ⟨rfl, nd_X_take⟩
abbrev b_X_guarded : ByteArray := prog_8_method_10_code
def y_X_guarded : MethodName := ⟨R_X, "guarded", "()Z"⟩
theorem nd_X_guarded : y_X_guarded.cls ≠ "java/lang/invoke/MethodHandle" ∧ y_X_guarded.cls ≠ "java/lang/invoke/VarHandle" ∧ (parseMethodDescriptor y_X_guarded.desc).map (fun d => d.parameters.length) = some 0 := by decide +kernel
theorem nv_X_guarded : y_X_guarded.cls = R_X ∧ y_X_guarded.cls ≠ "java/lang/invoke/MethodHandle" ∧ y_X_guarded.cls ≠ "java/lang/invoke/VarHandle" ∧ (parseMethodDescriptor y_X_guarded.desc).map (fun d => d.parameters.length) = some 0 := ⟨rfl, nd_X_guarded⟩
abbrev b_X_may : ByteArray := prog_8_method_11_code
def y_X_may : MethodName := ⟨R_X, "may", "(IZ)Z"⟩
theorem nd_X_may : y_X_may.cls ≠ "java/lang/invoke/MethodHandle" ∧ y_X_may.cls ≠ "java/lang/invoke/VarHandle" ∧ (parseMethodDescriptor y_X_may.desc).map (fun d => d.parameters.length) = some 2 := by decide +kernel
theorem nv_X_may : y_X_may.cls = R_X ∧ y_X_may.cls ≠ "java/lang/invoke/MethodHandle" ∧ y_X_may.cls ≠ "java/lang/invoke/VarHandle" ∧ (parseMethodDescriptor y_X_may.desc).map (fun d => d.parameters.length) = some 2 := ⟨rfl, nd_X_may⟩
abbrev b_X_reckon : ByteArray := prog_8_method_12_code
def y_X_reckon : MethodName := ⟨R_X, "reckon", "(IIIII)V"⟩
theorem nd_X_reckon : y_X_reckon.cls ≠ "java/lang/invoke/MethodHandle" ∧ y_X_reckon.cls ≠ "java/lang/invoke/VarHandle" ∧ (parseMethodDescriptor y_X_reckon.desc).map (fun d => d.parameters.length) = some 5 := by decide +kernel
theorem nv_X_reckon : y_X_reckon.cls = R_X ∧ y_X_reckon.cls ≠ "java/lang/invoke/MethodHandle" ∧ y_X_reckon.cls ≠ "java/lang/invoke/VarHandle" ∧ (parseMethodDescriptor y_X_reckon.desc).map (fun d => d.parameters.length) = some 5 := ⟨rfl, nd_X_reckon⟩
abbrev b_X_move : ByteArray := prog_8_method_13_code
def y_X_move : MethodName := ⟨R_X, "move", "(IIII)V"⟩
theorem nd_X_move : y_X_move.cls ≠ "java/lang/invoke/MethodHandle" ∧ y_X_move.cls ≠ "java/lang/invoke/VarHandle" ∧ (parseMethodDescriptor y_X_move.desc).map (fun d => d.parameters.length) = some 4 := by decide +kernel
theorem nv_X_move : y_X_move.cls = R_X ∧ y_X_move.cls ≠ "java/lang/invoke/MethodHandle" ∧ y_X_move.cls ≠ "java/lang/invoke/VarHandle" ∧ (parseMethodDescriptor y_X_move.desc).map (fun d => d.parameters.length) = some 4 := ⟨rfl, nd_X_move⟩
abbrev b_X_jump : ByteArray := prog_8_method_16_code
def y_X_jump : MethodName := ⟨R_X, "jump", "(IIIII)I"⟩
theorem nd_X_jump : y_X_jump.cls ≠ "java/lang/invoke/MethodHandle" ∧ y_X_jump.cls ≠ "java/lang/invoke/VarHandle" ∧ (parseMethodDescriptor y_X_jump.desc).map (fun d => d.parameters.length) = some 5 := by decide +kernel
abbrev b_X_context : ByteArray := prog_8_method_14_code
def y_X_context : MethodName := ⟨R_X, "context", "(II)I"⟩
theorem nd_X_context : y_X_context.cls ≠ "java/lang/invoke/MethodHandle" ∧ y_X_context.cls ≠ "java/lang/invoke/VarHandle" ∧ (parseMethodDescriptor y_X_context.desc).map (fun d => d.parameters.length) = some 2 := by decide +kernel
theorem nv_X_context : y_X_context.cls = R_X ∧ y_X_context.cls ≠ "java/lang/invoke/MethodHandle" ∧ y_X_context.cls ≠ "java/lang/invoke/VarHandle" ∧ (parseMethodDescriptor y_X_context.desc).map (fun d => d.parameters.length) = some 2 := ⟨rfl, nd_X_context⟩
abbrev b_X_system : ByteArray := prog_8_method_15_code
def y_X_system : MethodName := ⟨R_X, "system", "(II)V"⟩
theorem nd_X_system : y_X_system.cls ≠ "java/lang/invoke/MethodHandle" ∧ y_X_system.cls ≠ "java/lang/invoke/VarHandle" ∧ (parseMethodDescriptor y_X_system.desc).map (fun d => d.parameters.length) = some 2 := by decide +kernel
theorem nv_X_system : y_X_system.cls = R_X ∧ y_X_system.cls ≠ "java/lang/invoke/MethodHandle" ∧ y_X_system.cls ≠ "java/lang/invoke/VarHandle" ∧ (parseMethodDescriptor y_X_system.desc).map (fun d => d.parameters.length) = some 2 := ⟨rfl, nd_X_system⟩
abbrev b_X_instruction : ByteArray := prog_8_method_17_code
def y_X_instruction : MethodName := ⟨R_X, "instruction", "(I)V"⟩
theorem nd_X_instruction : y_X_instruction.cls ≠ "java/lang/invoke/MethodHandle" ∧ y_X_instruction.cls ≠ "java/lang/invoke/VarHandle" ∧ (parseMethodDescriptor y_X_instruction.desc).map (fun d => d.parameters.length) = some 1 := by decide +kernel
theorem nv_X_instruction : y_X_instruction.cls = R_X ∧ y_X_instruction.cls ≠ "java/lang/invoke/MethodHandle" ∧ y_X_instruction.cls ≠ "java/lang/invoke/VarHandle" ∧ (parseMethodDescriptor y_X_instruction.desc).map (fun d => d.parameters.length) = some 1 := ⟨rfl, nd_X_instruction⟩
abbrev b_X_step : ByteArray := prog_8_method_18_code
def y_X_step : MethodName := ⟨R_X, "step", "()V"⟩
theorem nd_X_step : y_X_step.cls ≠ "java/lang/invoke/MethodHandle" ∧ y_X_step.cls ≠ "java/lang/invoke/VarHandle" ∧ (parseMethodDescriptor y_X_step.desc).map (fun d => d.parameters.length) = some 0 := by decide +kernel
theorem nv_X_step : y_X_step.cls = R_X ∧ y_X_step.cls ≠ "java/lang/invoke/MethodHandle" ∧ y_X_step.cls ≠ "java/lang/invoke/VarHandle" ∧ (parseMethodDescriptor y_X_step.desc).map (fun d => d.parameters.length) = some 0 := ⟨rfl, nd_X_step⟩
abbrev b_X_put : ByteArray := prog_8_method_19_code
def y_X_put : MethodName := ⟨R_X, "put", "(II)Z"⟩
theorem nd_X_put : y_X_put.cls ≠ "java/lang/invoke/MethodHandle" ∧ y_X_put.cls ≠ "java/lang/invoke/VarHandle" ∧ (parseMethodDescriptor y_X_put.desc).map (fun d => d.parameters.length) = some 2 := by decide +kernel
theorem nv_X_put : y_X_put.cls = R_X ∧ y_X_put.cls ≠ "java/lang/invoke/MethodHandle" ∧ y_X_put.cls ≠ "java/lang/invoke/VarHandle" ∧ (parseMethodDescriptor y_X_put.desc).map (fun d => d.parameters.length) = some 2 := ⟨rfl, nd_X_put⟩
abbrev b_X_pool : ByteArray := prog_8_method_20_code
def y_X_pool : MethodName := ⟨R_X, "pool", "(II)V"⟩
theorem nd_X_pool : y_X_pool.cls ≠ "java/lang/invoke/MethodHandle" ∧ y_X_pool.cls ≠ "java/lang/invoke/VarHandle" ∧ (parseMethodDescriptor y_X_pool.desc).map (fun d => d.parameters.length) = some 2 := by decide +kernel
theorem nv_X_pool : y_X_pool.cls = R_X ∧ y_X_pool.cls ≠ "java/lang/invoke/MethodHandle" ∧ y_X_pool.cls ≠ "java/lang/invoke/VarHandle" ∧ (parseMethodDescriptor y_X_pool.desc).map (fun d => d.parameters.length) = some 2 := ⟨rfl, nd_X_pool⟩
abbrev b_X_tables : ByteArray := prog_8_method_21_code
def y_X_tables : MethodName := ⟨R_X, "tables", "(II)V"⟩
theorem nd_X_tables : y_X_tables.cls ≠ "java/lang/invoke/MethodHandle" ∧ y_X_tables.cls ≠ "java/lang/invoke/VarHandle" ∧ (parseMethodDescriptor y_X_tables.desc).map (fun d => d.parameters.length) = some 2 := by decide +kernel
theorem nv_X_tables : y_X_tables.cls = R_X ∧ y_X_tables.cls ≠ "java/lang/invoke/MethodHandle" ∧ y_X_tables.cls ≠ "java/lang/invoke/VarHandle" ∧ (parseMethodDescriptor y_X_tables.desc).map (fun d => d.parameters.length) = some 2 := ⟨rfl, nd_X_tables⟩
abbrev b_X_range : ByteArray := prog_8_method_22_code
def y_X_range : MethodName := ⟨R_X, "range", "(IIIII)V"⟩
theorem nd_X_range : y_X_range.cls ≠ "java/lang/invoke/MethodHandle" ∧ y_X_range.cls ≠ "java/lang/invoke/VarHandle" ∧ (parseMethodDescriptor y_X_range.desc).map (fun d => d.parameters.length) = some 5 := by decide +kernel
theorem nv_X_range : y_X_range.cls = R_X ∧ y_X_range.cls ≠ "java/lang/invoke/MethodHandle" ∧ y_X_range.cls ≠ "java/lang/invoke/VarHandle" ∧ (parseMethodDescriptor y_X_range.desc).map (fun d => d.parameters.length) = some 5 := ⟨rfl, nd_X_range⟩
abbrev b_X_guard : ByteArray := prog_8_method_23_code
def y_X_guard : MethodName := ⟨R_X, "guard", "(Z)V"⟩
theorem nd_X_guard : y_X_guard.cls ≠ "java/lang/invoke/MethodHandle" ∧ y_X_guard.cls ≠ "java/lang/invoke/VarHandle" ∧ (parseMethodDescriptor y_X_guard.desc).map (fun d => d.parameters.length) = some 1 := by decide +kernel
theorem nv_X_guard : y_X_guard.cls = R_X ∧ y_X_guard.cls ≠ "java/lang/invoke/MethodHandle" ∧ y_X_guard.cls ≠ "java/lang/invoke/VarHandle" ∧ (parseMethodDescriptor y_X_guard.desc).map (fun d => d.parameters.length) = some 1 := ⟨rfl, nd_X_guard⟩
abbrev b_X_timer : ByteArray := prog_8_method_24_code
def y_X_timer : MethodName := ⟨R_X, "timer", "(II)V"⟩
theorem nd_X_timer : y_X_timer.cls ≠ "java/lang/invoke/MethodHandle" ∧ y_X_timer.cls ≠ "java/lang/invoke/VarHandle" ∧ (parseMethodDescriptor y_X_timer.desc).map (fun d => d.parameters.length) = some 2 := by decide +kernel
theorem nv_X_timer : y_X_timer.cls = R_X ∧ y_X_timer.cls ≠ "java/lang/invoke/MethodHandle" ∧ y_X_timer.cls ≠ "java/lang/invoke/VarHandle" ∧ (parseMethodDescriptor y_X_timer.desc).map (fun d => d.parameters.length) = some 2 := ⟨rfl, nd_X_timer⟩
abbrev b_X_request : ByteArray := prog_8_method_25_code
def y_X_request : MethodName := ⟨R_X, "request", "(I)Z"⟩
theorem nd_X_request : y_X_request.cls ≠ "java/lang/invoke/MethodHandle" ∧ y_X_request.cls ≠ "java/lang/invoke/VarHandle" ∧ (parseMethodDescriptor y_X_request.desc).map (fun d => d.parameters.length) = some 1 := by decide +kernel
theorem nv_X_request : y_X_request.cls = R_X ∧ y_X_request.cls ≠ "java/lang/invoke/MethodHandle" ∧ y_X_request.cls ≠ "java/lang/invoke/VarHandle" ∧ (parseMethodDescriptor y_X_request.desc).map (fun d => d.parameters.length) = some 1 := ⟨rfl, nd_X_request⟩
abbrev b_X_start : ByteArray := prog_8_method_26_code
def y_X_start : MethodName := ⟨R_X, "start", "(IIZ)V"⟩
theorem nd_X_start : y_X_start.cls ≠ "java/lang/invoke/MethodHandle" ∧ y_X_start.cls ≠ "java/lang/invoke/VarHandle" ∧ (parseMethodDescriptor y_X_start.desc).map (fun d => d.parameters.length) = some 3 := by decide +kernel
theorem nv_X_start : y_X_start.cls = R_X ∧ y_X_start.cls ≠ "java/lang/invoke/MethodHandle" ∧ y_X_start.cls ≠ "java/lang/invoke/VarHandle" ∧ (parseMethodDescriptor y_X_start.desc).map (fun d => d.parameters.length) = some 3 := ⟨rfl, nd_X_start⟩
abbrev b_X_halt : ByteArray := prog_8_method_27_code
def y_X_halt : MethodName := ⟨R_X, "halt", "()Z"⟩
theorem nd_X_halt : y_X_halt.cls ≠ "java/lang/invoke/MethodHandle" ∧ y_X_halt.cls ≠ "java/lang/invoke/VarHandle" ∧ (parseMethodDescriptor y_X_halt.desc).map (fun d => d.parameters.length) = some 0 := by decide +kernel
theorem nv_X_halt : y_X_halt.cls = R_X ∧ y_X_halt.cls ≠ "java/lang/invoke/MethodHandle" ∧ y_X_halt.cls ≠ "java/lang/invoke/VarHandle" ∧ (parseMethodDescriptor y_X_halt.desc).map (fun d => d.parameters.length) = some 0 := ⟨rfl, nd_X_halt⟩
abbrev b_X_run : ByteArray := prog_8_method_28_code
def y_X_run : MethodName := ⟨R_X, "run", "(I)I"⟩
theorem nd_X_run : y_X_run.cls ≠ "java/lang/invoke/MethodHandle" ∧ y_X_run.cls ≠ "java/lang/invoke/VarHandle" ∧ (parseMethodDescriptor y_X_run.desc).map (fun d => d.parameters.length) = some 1 := by decide +kernel
theorem nv_X_run : y_X_run.cls = R_X ∧ y_X_run.cls ≠ "java/lang/invoke/MethodHandle" ∧ y_X_run.cls ≠ "java/lang/invoke/VarHandle" ∧ (parseMethodDescriptor y_X_run.desc).map (fun d => d.parameters.length) = some 1 := ⟨rfl, nd_X_run⟩
abbrev b_X_register : ByteArray := prog_8_method_29_code
def y_X_register : MethodName := ⟨R_X, "register", "(II)I"⟩
theorem nd_X_register : y_X_register.cls ≠ "java/lang/invoke/MethodHandle" ∧ y_X_register.cls ≠ "java/lang/invoke/VarHandle" ∧ (parseMethodDescriptor y_X_register.desc).map (fun d => d.parameters.length) = some 2 := by decide +kernel
theorem nv_X_register : y_X_register.cls = R_X ∧ y_X_register.cls ≠ "java/lang/invoke/MethodHandle" ∧ y_X_register.cls ≠ "java/lang/invoke/VarHandle" ∧ (parseMethodDescriptor y_X_register.desc).map (fun d => d.parameters.length) = some 2 := ⟨rfl, nd_X_register⟩
abbrev b_X_word : ByteArray := prog_8_method_30_code
def y_X_word : MethodName := ⟨R_X, "word", "(I)I"⟩
theorem nd_X_word : y_X_word.cls ≠ "java/lang/invoke/MethodHandle" ∧ y_X_word.cls ≠ "java/lang/invoke/VarHandle" ∧ (parseMethodDescriptor y_X_word.desc).map (fun d => d.parameters.length) = some 1 := by decide +kernel
theorem nv_X_word : y_X_word.cls = R_X ∧ y_X_word.cls ≠ "java/lang/invoke/MethodHandle" ∧ y_X_word.cls ≠ "java/lang/invoke/VarHandle" ∧ (parseMethodDescriptor y_X_word.desc).map (fun d => d.parameters.length) = some 1 := ⟨rfl, nd_X_word⟩
abbrev b_X_look : ByteArray := prog_8_method_31_code
def y_X_look : MethodName := ⟨R_X, "look", "(I)I"⟩
theorem nd_X_look : y_X_look.cls ≠ "java/lang/invoke/MethodHandle" ∧ y_X_look.cls ≠ "java/lang/invoke/VarHandle" ∧ (parseMethodDescriptor y_X_look.desc).map (fun d => d.parameters.length) = some 1 := by decide +kernel
theorem nv_X_look : y_X_look.cls = R_X ∧ y_X_look.cls ≠ "java/lang/invoke/MethodHandle" ∧ y_X_look.cls ≠ "java/lang/invoke/VarHandle" ∧ (parseMethodDescriptor y_X_look.desc).map (fun d => d.parameters.length) = some 1 := ⟨rfl, nd_X_look⟩
abbrev b_X_list : ByteArray := prog_8_method_32_code
def y_X_list : MethodName := ⟨R_X, "list", "(I)I"⟩
theorem nd_X_list : y_X_list.cls ≠ "java/lang/invoke/MethodHandle" ∧ y_X_list.cls ≠ "java/lang/invoke/VarHandle" ∧ (parseMethodDescriptor y_X_list.desc).map (fun d => d.parameters.length) = some 1 := by decide +kernel
theorem nv_X_list : y_X_list.cls = R_X ∧ y_X_list.cls ≠ "java/lang/invoke/MethodHandle" ∧ y_X_list.cls ≠ "java/lang/invoke/VarHandle" ∧ (parseMethodDescriptor y_X_list.desc).map (fun d => d.parameters.length) = some 1 := ⟨rfl, nd_X_list⟩
