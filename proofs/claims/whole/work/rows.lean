section
-- ===== PART A: goes FIRST, ahead of the names: the tables' words, and 'selects' of the private methods out of them =====
/-- a private method of a class that the tables say can be made, by its rows of tables_1 -/
def lw_okq (q : MethodName × Nat) : Prop := (q.1.cls ≠ "java/lang/invoke/MethodHandle" ∧ q.1.cls ≠ "java/lang/invoke/VarHandle") ∧ Cond.instantiable q.1.cls q.2 ∈ tables_1 ∧ Cond.privateMethod q.1 ∈ tables_1 ∧ Cond.instanceMethod q.1 ∈ tables_1
theorem lw_p0 : lw_okq (⟨"java/lang/Throwable", "fillInStackTrace", "(I)Ljava/lang/Throwable;"⟩, 6) := ⟨⟨by decide +kernel, by decide +kernel⟩, List.mem_of_getElem? (i := 307) (by decide +kernel), List.mem_of_getElem? (i := 305) (by decide +kernel), List.mem_of_getElem? (i := 306) (by decide +kernel)⟩
theorem lw_p1 : lw_okq (⟨"AreaCore$Processor", "takeInterrupt", "(I)V"⟩, 10) := ⟨⟨by decide +kernel, by decide +kernel⟩, List.mem_of_getElem? (i := 24) (by decide +kernel), List.mem_of_getElem? (i := 413) (by decide +kernel), List.mem_of_getElem? (i := 414) (by decide +kernel)⟩
theorem lw_p2 : lw_okq (⟨"AreaCore$Processor", "refuseFetch", "()I"⟩, 10) := ⟨⟨by decide +kernel, by decide +kernel⟩, List.mem_of_getElem? (i := 24) (by decide +kernel), List.mem_of_getElem? (i := 434) (by decide +kernel), List.mem_of_getElem? (i := 435) (by decide +kernel)⟩
theorem lw_p3 : lw_okq (⟨"AreaCore$Processor", "isGuarded", "()Z"⟩, 10) := ⟨⟨by decide +kernel, by decide +kernel⟩, List.mem_of_getElem? (i := 24) (by decide +kernel), List.mem_of_getElem? (i := 439) (by decide +kernel), List.mem_of_getElem? (i := 440) (by decide +kernel)⟩
theorem lw_p4 : lw_okq (⟨"AreaCore$Ranges", "covers", "(II)Z"⟩, 3) := ⟨⟨by decide +kernel, by decide +kernel⟩, List.mem_of_getElem? (i := 102) (by decide +kernel), List.mem_of_getElem? (i := 447) (by decide +kernel), List.mem_of_getElem? (i := 448) (by decide +kernel)⟩
theorem lw_p5 : lw_okq (⟨"AreaCore$Processor", "perform", "(I)I"⟩, 10) := ⟨⟨by decide +kernel, by decide +kernel⟩, List.mem_of_getElem? (i := 24) (by decide +kernel), List.mem_of_getElem? (i := 452) (by decide +kernel), List.mem_of_getElem? (i := 453) (by decide +kernel)⟩
theorem lw_p6 : lw_okq (⟨"AreaCore$Processor", "moveWord", "(II)I"⟩, 10) := ⟨⟨by decide +kernel, by decide +kernel⟩, List.mem_of_getElem? (i := 24) (by decide +kernel), List.mem_of_getElem? (i := 462) (by decide +kernel), List.mem_of_getElem? (i := 463) (by decide +kernel)⟩
theorem lw_p7 : lw_okq (⟨"AreaCore$Processor", "refuseWord", "(II)I"⟩, 10) := ⟨⟨by decide +kernel, by decide +kernel⟩, List.mem_of_getElem? (i := 24) (by decide +kernel), List.mem_of_getElem? (i := 469) (by decide +kernel), List.mem_of_getElem? (i := 470) (by decide +kernel)⟩
theorem lw_p8 : lw_okq (⟨"AreaCore$Processor", "readRing", "(I)I"⟩, 10) := ⟨⟨by decide +kernel, by decide +kernel⟩, List.mem_of_getElem? (i := 24) (by decide +kernel), List.mem_of_getElem? (i := 481) (by decide +kernel), List.mem_of_getElem? (i := 482) (by decide +kernel)⟩
theorem lw_p9 : lw_okq (⟨"AreaCore$Processor", "jump", "(II)I"⟩, 10) := ⟨⟨by decide +kernel, by decide +kernel⟩, List.mem_of_getElem? (i := 24) (by decide +kernel), List.mem_of_getElem? (i := 490) (by decide +kernel), List.mem_of_getElem? (i := 491) (by decide +kernel)⟩
theorem lw_p10 : lw_okq (⟨"AreaCore$Processor", "callDown", "(I)I"⟩, 10) := ⟨⟨by decide +kernel, by decide +kernel⟩, List.mem_of_getElem? (i := 24) (by decide +kernel), List.mem_of_getElem? (i := 494) (by decide +kernel), List.mem_of_getElem? (i := 495) (by decide +kernel)⟩
theorem lw_p11 : lw_okq (⟨"AreaCore$Processor", "goBack", "(Z)I"⟩, 10) := ⟨⟨by decide +kernel, by decide +kernel⟩, List.mem_of_getElem? (i := 24) (by decide +kernel), List.mem_of_getElem? (i := 498) (by decide +kernel), List.mem_of_getElem? (i := 499) (by decide +kernel)⟩
theorem lw_p12 : lw_okq (⟨"AreaCore$Registers", "takeState", "(I)V"⟩, 12) := ⟨⟨by decide +kernel, by decide +kernel⟩, List.mem_of_getElem? (i := 41) (by decide +kernel), List.mem_of_getElem? (i := 510) (by decide +kernel), List.mem_of_getElem? (i := 511) (by decide +kernel)⟩
theorem lw_p13 : lw_okq (⟨"AreaCore$Processor", "keepLower", "()I"⟩, 10) := ⟨⟨by decide +kernel, by decide +kernel⟩, List.mem_of_getElem? (i := 24) (by decide +kernel), List.mem_of_getElem? (i := 514) (by decide +kernel), List.mem_of_getElem? (i := 515) (by decide +kernel)⟩
theorem lw_p14 : lw_okq (⟨"AreaCore$Processor", "bringLowerBack", "()I"⟩, 10) := ⟨⟨by decide +kernel, by decide +kernel⟩, List.mem_of_getElem? (i := 24) (by decide +kernel), List.mem_of_getElem? (i := 518) (by decide +kernel), List.mem_of_getElem? (i := 519) (by decide +kernel)⟩
theorem lw_p15 : lw_okq (⟨"AreaCore$Processor", "openHandler", "(I)I"⟩, 10) := ⟨⟨by decide +kernel, by decide +kernel⟩, List.mem_of_getElem? (i := 24) (by decide +kernel), List.mem_of_getElem? (i := 522) (by decide +kernel), List.mem_of_getElem? (i := 523) (by decide +kernel)⟩
def lw_privs_1 : List (MethodName × Nat) := [(⟨"java/lang/Throwable", "fillInStackTrace", "(I)Ljava/lang/Throwable;"⟩, 6), (⟨"AreaCore$Processor", "takeInterrupt", "(I)V"⟩, 10), (⟨"AreaCore$Processor", "refuseFetch", "()I"⟩, 10), (⟨"AreaCore$Processor", "isGuarded", "()Z"⟩, 10), (⟨"AreaCore$Ranges", "covers", "(II)Z"⟩, 3), (⟨"AreaCore$Processor", "perform", "(I)I"⟩, 10), (⟨"AreaCore$Processor", "moveWord", "(II)I"⟩, 10), (⟨"AreaCore$Processor", "refuseWord", "(II)I"⟩, 10), (⟨"AreaCore$Processor", "readRing", "(I)I"⟩, 10), (⟨"AreaCore$Processor", "jump", "(II)I"⟩, 10), (⟨"AreaCore$Processor", "callDown", "(I)I"⟩, 10), (⟨"AreaCore$Processor", "goBack", "(Z)I"⟩, 10), (⟨"AreaCore$Registers", "takeState", "(I)V"⟩, 12), (⟨"AreaCore$Processor", "keepLower", "()I"⟩, 10), (⟨"AreaCore$Processor", "bringLowerBack", "()I"⟩, 10), (⟨"AreaCore$Processor", "openHandler", "(I)I"⟩, 10)]
theorem lw_r1 : ∀ q ∈ lw_privs_1, lw_okq q := List.forall_mem_cons.mpr ⟨lw_p0, List.forall_mem_cons.mpr ⟨lw_p1, List.forall_mem_cons.mpr ⟨lw_p2, List.forall_mem_cons.mpr ⟨lw_p3, List.forall_mem_cons.mpr ⟨lw_p4, List.forall_mem_cons.mpr ⟨lw_p5, List.forall_mem_cons.mpr ⟨lw_p6, List.forall_mem_cons.mpr ⟨lw_p7, List.forall_mem_cons.mpr ⟨lw_p8, List.forall_mem_cons.mpr ⟨lw_p9, List.forall_mem_cons.mpr ⟨lw_p10, List.forall_mem_cons.mpr ⟨lw_p11, List.forall_mem_cons.mpr ⟨lw_p12, List.forall_mem_cons.mpr ⟨lw_p13, List.forall_mem_cons.mpr ⟨lw_p14, List.forall_mem_cons.mpr ⟨lw_p15, fun _ h => absurd h List.not_mem_nil⟩⟩⟩⟩⟩⟩⟩⟩⟩⟩⟩⟩⟩⟩⟩⟩
theorem lw_p16 : lw_okq (⟨"AreaCore$Processor", "changeLevel", "(I)I"⟩, 10) := ⟨⟨by decide +kernel, by decide +kernel⟩, List.mem_of_getElem? (i := 24) (by decide +kernel), List.mem_of_getElem? (i := 526) (by decide +kernel), List.mem_of_getElem? (i := 527) (by decide +kernel)⟩
theorem lw_p17 : lw_okq (⟨"AreaCore$Processor", "compute", "(II)I"⟩, 10) := ⟨⟨by decide +kernel, by decide +kernel⟩, List.mem_of_getElem? (i := 24) (by decide +kernel), List.mem_of_getElem? (i := 530) (by decide +kernel), List.mem_of_getElem? (i := 531) (by decide +kernel)⟩
theorem lw_p18 : lw_okq (⟨"AreaCore$Processor", "finish", "(I)V"⟩, 10) := ⟨⟨by decide +kernel, by decide +kernel⟩, List.mem_of_getElem? (i := 24) (by decide +kernel), List.mem_of_getElem? (i := 537) (by decide +kernel), List.mem_of_getElem? (i := 538) (by decide +kernel)⟩
theorem lw_p19 : lw_okq (⟨"AreaCore$Processor", "takeTrap", "(II)V"⟩, 10) := ⟨⟨by decide +kernel, by decide +kernel⟩, List.mem_of_getElem? (i := 24) (by decide +kernel), List.mem_of_getElem? (i := 541) (by decide +kernel), List.mem_of_getElem? (i := 542) (by decide +kernel)⟩
theorem lw_p20 : lw_okq (⟨"AreaCoreModel", "step", "()V"⟩, 27) := ⟨⟨by decide +kernel, by decide +kernel⟩, List.mem_of_getElem? (i := 569) (by decide +kernel), List.mem_of_getElem? (i := 704) (by decide +kernel), List.mem_of_getElem? (i := 705) (by decide +kernel)⟩
theorem lw_p21 : lw_okq (⟨"AreaCoreModel", "enter", "(II)Z"⟩, 27) := ⟨⟨by decide +kernel, by decide +kernel⟩, List.mem_of_getElem? (i := 569) (by decide +kernel), List.mem_of_getElem? (i := 708) (by decide +kernel), List.mem_of_getElem? (i := 709) (by decide +kernel)⟩
theorem lw_p22 : lw_okq (⟨"AreaCoreModel", "keep", "(Z)Z"⟩, 27) := ⟨⟨by decide +kernel, by decide +kernel⟩, List.mem_of_getElem? (i := 569) (by decide +kernel), List.mem_of_getElem? (i := 712) (by decide +kernel), List.mem_of_getElem? (i := 713) (by decide +kernel)⟩
theorem lw_p23 : lw_okq (⟨"AreaCoreModel", "take", "(II)V"⟩, 27) := ⟨⟨by decide +kernel, by decide +kernel⟩, List.mem_of_getElem? (i := 569) (by decide +kernel), List.mem_of_getElem? (i := 719) (by decide +kernel), List.mem_of_getElem? (i := 720) (by decide +kernel)⟩
theorem lw_p24 : lw_okq (⟨"AreaCoreModel", "guarded", "()Z"⟩, 27) := ⟨⟨by decide +kernel, by decide +kernel⟩, List.mem_of_getElem? (i := 569) (by decide +kernel), List.mem_of_getElem? (i := 723) (by decide +kernel), List.mem_of_getElem? (i := 724) (by decide +kernel)⟩
theorem lw_p25 : lw_okq (⟨"AreaCoreModel", "instruction", "(I)V"⟩, 27) := ⟨⟨by decide +kernel, by decide +kernel⟩, List.mem_of_getElem? (i := 569) (by decide +kernel), List.mem_of_getElem? (i := 727) (by decide +kernel), List.mem_of_getElem? (i := 728) (by decide +kernel)⟩
theorem lw_p26 : lw_okq (⟨"AreaCoreModel", "reckon", "(IIIII)V"⟩, 27) := ⟨⟨by decide +kernel, by decide +kernel⟩, List.mem_of_getElem? (i := 569) (by decide +kernel), List.mem_of_getElem? (i := 731) (by decide +kernel), List.mem_of_getElem? (i := 732) (by decide +kernel)⟩
theorem lw_p27 : lw_okq (⟨"AreaCoreModel", "move", "(IIII)V"⟩, 27) := ⟨⟨by decide +kernel, by decide +kernel⟩, List.mem_of_getElem? (i := 569) (by decide +kernel), List.mem_of_getElem? (i := 735) (by decide +kernel), List.mem_of_getElem? (i := 736) (by decide +kernel)⟩
theorem lw_p28 : lw_okq (⟨"AreaCoreModel", "may", "(IZ)Z"⟩, 27) := ⟨⟨by decide +kernel, by decide +kernel⟩, List.mem_of_getElem? (i := 569) (by decide +kernel), List.mem_of_getElem? (i := 740) (by decide +kernel), List.mem_of_getElem? (i := 741) (by decide +kernel)⟩
theorem lw_p29 : lw_okq (⟨"AreaCoreModel", "context", "(II)I"⟩, 27) := ⟨⟨by decide +kernel, by decide +kernel⟩, List.mem_of_getElem? (i := 569) (by decide +kernel), List.mem_of_getElem? (i := 748) (by decide +kernel), List.mem_of_getElem? (i := 749) (by decide +kernel)⟩
theorem lw_p30 : lw_okq (⟨"AreaCoreModel", "canBring", "(Z)Z"⟩, 27) := ⟨⟨by decide +kernel, by decide +kernel⟩, List.mem_of_getElem? (i := 569) (by decide +kernel), List.mem_of_getElem? (i := 752) (by decide +kernel), List.mem_of_getElem? (i := 753) (by decide +kernel)⟩
theorem lw_p31 : lw_okq (⟨"AreaCoreModel", "bring", "(Z)V"⟩, 27) := ⟨⟨by decide +kernel, by decide +kernel⟩, List.mem_of_getElem? (i := 569) (by decide +kernel), List.mem_of_getElem? (i := 756) (by decide +kernel), List.mem_of_getElem? (i := 757) (by decide +kernel)⟩
def lw_privs_2 : List (MethodName × Nat) := [(⟨"AreaCore$Processor", "changeLevel", "(I)I"⟩, 10), (⟨"AreaCore$Processor", "compute", "(II)I"⟩, 10), (⟨"AreaCore$Processor", "finish", "(I)V"⟩, 10), (⟨"AreaCore$Processor", "takeTrap", "(II)V"⟩, 10), (⟨"AreaCoreModel", "step", "()V"⟩, 27), (⟨"AreaCoreModel", "enter", "(II)Z"⟩, 27), (⟨"AreaCoreModel", "keep", "(Z)Z"⟩, 27), (⟨"AreaCoreModel", "take", "(II)V"⟩, 27), (⟨"AreaCoreModel", "guarded", "()Z"⟩, 27), (⟨"AreaCoreModel", "instruction", "(I)V"⟩, 27), (⟨"AreaCoreModel", "reckon", "(IIIII)V"⟩, 27), (⟨"AreaCoreModel", "move", "(IIII)V"⟩, 27), (⟨"AreaCoreModel", "may", "(IZ)Z"⟩, 27), (⟨"AreaCoreModel", "context", "(II)I"⟩, 27), (⟨"AreaCoreModel", "canBring", "(Z)Z"⟩, 27), (⟨"AreaCoreModel", "bring", "(Z)V"⟩, 27)]
theorem lw_r2 : ∀ q ∈ lw_privs_2, lw_okq q := List.forall_mem_cons.mpr ⟨lw_p16, List.forall_mem_cons.mpr ⟨lw_p17, List.forall_mem_cons.mpr ⟨lw_p18, List.forall_mem_cons.mpr ⟨lw_p19, List.forall_mem_cons.mpr ⟨lw_p20, List.forall_mem_cons.mpr ⟨lw_p21, List.forall_mem_cons.mpr ⟨lw_p22, List.forall_mem_cons.mpr ⟨lw_p23, List.forall_mem_cons.mpr ⟨lw_p24, List.forall_mem_cons.mpr ⟨lw_p25, List.forall_mem_cons.mpr ⟨lw_p26, List.forall_mem_cons.mpr ⟨lw_p27, List.forall_mem_cons.mpr ⟨lw_p28, List.forall_mem_cons.mpr ⟨lw_p29, List.forall_mem_cons.mpr ⟨lw_p30, List.forall_mem_cons.mpr ⟨lw_p31, fun _ h => absurd h List.not_mem_nil⟩⟩⟩⟩⟩⟩⟩⟩⟩⟩⟩⟩⟩⟩⟩⟩
theorem lw_p32 : lw_okq (⟨"AreaCoreModel", "system", "(II)V"⟩, 27) := ⟨⟨by decide +kernel, by decide +kernel⟩, List.mem_of_getElem? (i := 569) (by decide +kernel), List.mem_of_getElem? (i := 760) (by decide +kernel), List.mem_of_getElem? (i := 761) (by decide +kernel)⟩
def lw_privs_3 : List (MethodName × Nat) := [(⟨"AreaCoreModel", "system", "(II)V"⟩, 27)]
theorem lw_r3 : ∀ q ∈ lw_privs_3, lw_okq q := List.forall_mem_cons.mpr ⟨lw_p32, fun _ h => absurd h List.not_mem_nil⟩
def lw_privs : List (MethodName × Nat) := lw_privs_1 ++ (lw_privs_2 ++ (lw_privs_3))
def lw_tbl : List Cond := k2_sels lw_privs ++ tables_1
theorem lw_privs_ok : ∀ q ∈ lw_privs, lw_okq q := by
  show ∀ q ∈ lw_privs_1 ++ (lw_privs_2 ++ (lw_privs_3)), lw_okq q
  exact List.forall_mem_append.mpr ⟨lw_r1, List.forall_mem_append.mpr ⟨lw_r2, lw_r3⟩⟩
end
section
def R_M : String := "AreaCore$Memory"
def F_M : u_T := fun k => match k with
  | _ => ("AreaCore$Memory", "words", "[I", true)
def ty_M : Nat → FieldType := fun k => match k with
  | _ => .array .int
theorem n_M : ∀ a, a < 1 → ∀ b, b < 1 → a ≠ b → (F_M a).2.1 ≠ (F_M b).2.1 := by decide +kernel
theorem ty_M_ok : ∀ k, k < 1 → parseFieldDescriptor (F_M k).2.2.1 = some (ty_M k) := by decide +kernel
def R_R : String := "AreaCore$Registers"
def F_R : u_T := fun k => match k with
  | 0 => ("AreaCore$Registers", "d", "[I", true)
  | 1 => ("AreaCore$Registers", "a", "[I", true)
  | 2 => ("AreaCore$Registers", "pc", "I", false)
  | 3 => ("AreaCore$Registers", "free", "I", false)
  | 4 => ("AreaCore$Registers", "last", "I", false)
  | 5 => ("AreaCore$Registers", "link", "I", false)
  | 6 => ("AreaCore$Registers", "level", "I", false)
  | 7 => ("AreaCore$Registers", "set", "I", false)
  | 8 => ("AreaCore$Registers", "depth", "I", false)
  | 9 => ("AreaCore$Registers", "priority", "I", false)
  | 10 => ("AreaCore$Registers", "enabled", "Z", false)
  | _ => ("AreaCore$Registers", "drained", "Z", false)
def ty_R : Nat → FieldType := fun k => match k with
  | 0 => .array .int
  | 1 => .array .int
  | 2 => .int
  | 3 => .int
  | 4 => .int
  | 5 => .int
  | 6 => .int
  | 7 => .int
  | 8 => .int
  | 9 => .int
  | 10 => .boolean
  | _ => .boolean
theorem n_R : ∀ a, a < 12 → ∀ b, b < 12 → a ≠ b → (F_R a).2.1 ≠ (F_R b).2.1 := by decide +kernel
theorem ty_R_ok : ∀ k, k < 12 → parseFieldDescriptor (F_R k).2.2.1 = some (ty_R k) := by decide +kernel
def R_G : String := "AreaCore$Ranges"
def F_G : u_T := fun k => match k with
  | 0 => ("AreaCore$Ranges", "lows", "[I", true)
  | 1 => ("AreaCore$Ranges", "highs", "[I", true)
  | _ => ("AreaCore$Ranges", "rights", "[I", true)
def ty_G : Nat → FieldType := fun k => match k with
  | 0 => .array .int
  | 1 => .array .int
  | _ => .array .int
theorem n_G : ∀ a, a < 3 → ∀ b, b < 3 → a ≠ b → (F_G a).2.1 ≠ (F_G b).2.1 := by decide +kernel
theorem ty_G_ok : ∀ k, k < 3 → parseFieldDescriptor (F_G k).2.2.1 = some (ty_G k) := by decide +kernel
def R_T : String := "AreaCore$Interrupts"
def F_T : u_T := fun k => match k with
  | 0 => ("AreaCore$Interrupts", "time", "I", false)
  | 1 => ("AreaCore$Interrupts", "every", "I", false)
  | 2 => ("AreaCore$Interrupts", "asked", "I", false)
  | 3 => ("AreaCore$Interrupts", "pending", "I", false)
  | _ => ("AreaCore$Interrupts", "taken", "I", false)
def ty_T : Nat → FieldType := fun k => match k with
  | 0 => .int
  | 1 => .int
  | 2 => .int
  | 3 => .int
  | _ => .int
theorem n_T : ∀ a, a < 5 → ∀ b, b < 5 → a ≠ b → (F_T a).2.1 ≠ (F_T b).2.1 := by decide +kernel
theorem ty_T_ok : ∀ k, k < 5 → parseFieldDescriptor (F_T k).2.2.1 = some (ty_T k) := by decide +kernel
def R_P : String := "AreaCore$Processor"
def F_P : u_T := fun k => match k with
  | 0 => ("AreaCore$Processor", "memory", "LAreaCore$Memory;", true)
  | 1 => ("AreaCore$Processor", "registers", "LAreaCore$Registers;", true)
  | 2 => ("AreaCore$Processor", "ranges", "LAreaCore$Ranges;", true)
  | 3 => ("AreaCore$Processor", "interrupts", "LAreaCore$Interrupts;", true)
  | 4 => ("AreaCore$Processor", "runs", "Z", false)
  | 5 => ("AreaCore$Processor", "guarding", "Z", false)
  | 6 => ("AreaCore$Processor", "table", "I", false)
  | 7 => ("AreaCore$Processor", "other", "I", false)
  | 8 => ("AreaCore$Processor", "traps", "I", false)
  | _ => ("AreaCore$Processor", "latestTrap", "I", false)
def ty_P : Nat → FieldType := fun k => match k with
  | 0 => .object "AreaCore$Memory"
  | 1 => .object "AreaCore$Registers"
  | 2 => .object "AreaCore$Ranges"
  | 3 => .object "AreaCore$Interrupts"
  | 4 => .boolean
  | 5 => .boolean
  | 6 => .int
  | 7 => .int
  | 8 => .int
  | _ => .int
theorem n_P : ∀ a, a < 10 → ∀ b, b < 10 → a ≠ b → (F_P a).2.1 ≠ (F_P b).2.1 := by decide +kernel
theorem ty_P_ok : ∀ k, k < 10 → parseFieldDescriptor (F_P k).2.2.1 = some (ty_P k) := by decide +kernel
def R_C : String := "AreaCore"
def F_C : u_T := fun k => match k with
  | _ => ("AreaCore", "core", "LAreaCore$Processor;", true)
def ty_C : Nat → FieldType := fun k => match k with
  | _ => .object "AreaCore$Processor"
theorem n_C : ∀ a, a < 1 → ∀ b, b < 1 → a ≠ b → (F_C a).2.1 ≠ (F_C b).2.1 := by decide +kernel
theorem ty_C_ok : ∀ k, k < 1 → parseFieldDescriptor (F_C k).2.2.1 = some (ty_C k) := by decide +kernel
def R_X : String := "AreaCoreModel"
def F_X : u_T := fun k => match k with
  | 0 => ("AreaCoreModel", "thrown", "I", false)
  | 1 => ("AreaCoreModel", "memory", "[I", true)
  | 2 => ("AreaCoreModel", "d", "[I", true)
  | 3 => ("AreaCoreModel", "a", "[I", true)
  | 4 => ("AreaCoreModel", "own", "[I", true)
  | 5 => ("AreaCoreModel", "level", "I", false)
  | 6 => ("AreaCoreModel", "set", "I", false)
  | 7 => ("AreaCoreModel", "depth", "I", false)
  | 8 => ("AreaCoreModel", "priority", "I", false)
  | 9 => ("AreaCoreModel", "enabled", "Z", false)
  | 10 => ("AreaCoreModel", "pending", "I", false)
  | 11 => ("AreaCoreModel", "runs", "Z", false)
  | 12 => ("AreaCoreModel", "time", "I", false)
  | 13 => ("AreaCoreModel", "every", "I", false)
  | 14 => ("AreaCoreModel", "timed", "I", false)
  | 15 => ("AreaCoreModel", "table", "I", false)
  | 16 => ("AreaCoreModel", "other", "I", false)
  | 17 => ("AreaCoreModel", "guarding", "Z", false)
  | 18 => ("AreaCoreModel", "low", "[I", true)
  | 19 => ("AreaCoreModel", "high", "[I", true)
  | 20 => ("AreaCoreModel", "rights", "[I", true)
  | 21 => ("AreaCoreModel", "traps", "I", false)
  | 22 => ("AreaCoreModel", "latest", "I", false)
  | 23 => ("AreaCoreModel", "taken", "I", false)
  | 24 => ("AreaCoreModel", "drained", "Z", false)
  | 25 => ("AreaCoreModel", "third", "Z", false)
  | _ => ("AreaCoreModel", "trap", "I", false)
def ty_X : Nat → FieldType := fun k => match k with
  | 0 => .int
  | 1 => .array .int
  | 2 => .array .int
  | 3 => .array .int
  | 4 => .array .int
  | 5 => .int
  | 6 => .int
  | 7 => .int
  | 8 => .int
  | 9 => .boolean
  | 10 => .int
  | 11 => .boolean
  | 12 => .int
  | 13 => .int
  | 14 => .int
  | 15 => .int
  | 16 => .int
  | 17 => .boolean
  | 18 => .array .int
  | 19 => .array .int
  | 20 => .array .int
  | 21 => .int
  | 22 => .int
  | 23 => .int
  | 24 => .boolean
  | 25 => .boolean
  | _ => .int
theorem n_X : ∀ a, a < 27 → ∀ b, b < 27 → a ≠ b → (F_X a).2.1 ≠ (F_X b).2.1 := by decide +kernel
theorem ty_X_ok : ∀ k, k < 27 → parseFieldDescriptor (F_X k).2.2.1 = some (ty_X k) := by decide +kernel
def R_Z : String := "java/lang/Math"
def R_L : String := "AreaCoreLaw"
abbrev classes : List vw_C := [(R_M, F_M, 1), (R_R, F_R, 12), (R_G, F_G, 3), (R_T, F_T, 5), (R_P, F_P, 10), (R_C, F_C, 1), (R_X, F_X, 27)]
def wd : List Cond := lw_tbl.filter goodWord
theorem wd_good : wd.all goodWord = true := List.all_eq_true.mpr (fun _ h => (List.mem_filter.mp h).2)
theorem mt_1 {w : Cond} (h : w ∈ tables_1_1) (g : goodWord w = true) : w ∈ wd := List.mem_filter.mpr ⟨List.mem_append_right _ (show w ∈ tables_1_1 ++ (tables_1_2 ++ (tables_1_3 ++ tables_1_4)) from List.mem_append_left _ h), g⟩
theorem mt_2 {w : Cond} (h : w ∈ tables_1_2) (g : goodWord w = true) : w ∈ wd := List.mem_filter.mpr ⟨List.mem_append_right _ (show w ∈ tables_1_1 ++ (tables_1_2 ++ (tables_1_3 ++ tables_1_4)) from List.mem_append_right _ (List.mem_append_left _ h)), g⟩
theorem mt_3 {w : Cond} (h : w ∈ tables_1_3) (g : goodWord w = true) : w ∈ wd := List.mem_filter.mpr ⟨List.mem_append_right _ (show w ∈ tables_1_1 ++ (tables_1_2 ++ (tables_1_3 ++ tables_1_4)) from List.mem_append_right _ (List.mem_append_right _ (List.mem_append_left _ h))), g⟩
theorem mt_4 {w : Cond} (h : w ∈ tables_1_4) (g : goodWord w = true) : w ∈ wd := List.mem_filter.mpr ⟨List.mem_append_right _ (show w ∈ tables_1_1 ++ (tables_1_2 ++ (tables_1_3 ++ tables_1_4)) from List.mem_append_right _ (List.mem_append_right _ (List.mem_append_right _ h))), g⟩
theorem mt_s {w : Cond} (h : w ∈ k2_sels lw_privs) (g : goodWord w = true) : w ∈ wd := List.mem_filter.mpr ⟨List.mem_append_left _ h, g⟩
theorem mt_lay {C : String} {F : u_T} {N : Nat} (h : ((List.range N).all fun k => decide (u_lay C F k ∈ tables_1) && goodWord (u_lay C F k)) = true) : ∀ x ∈ u_ws C F N, x ∈ wd := by
  intro x hx
  obtain ⟨k, hk, rfl⟩ := List.mem_map.mp hx
  have h1 := List.all_eq_true.mp h k hk
  simp only [Bool.and_eq_true, decide_eq_true_eq] at h1
  exact List.mem_filter.mpr ⟨List.mem_append_right _ h1.1, h1.2⟩
theorem in_M : ∀ x ∈ u_ws R_M F_M 1, x ∈ wd := mt_lay (by decide +kernel)
theorem in_R : ∀ x ∈ u_ws R_R F_R 12, x ∈ wd := mt_lay (by decide +kernel)
theorem in_G : ∀ x ∈ u_ws R_G F_G 3, x ∈ wd := mt_lay (by decide +kernel)
theorem in_T : ∀ x ∈ u_ws R_T F_T 5, x ∈ wd := mt_lay (by decide +kernel)
theorem in_P : ∀ x ∈ u_ws R_P F_P 10, x ∈ wd := mt_lay (by decide +kernel)
theorem in_C : ∀ x ∈ u_ws R_C F_C 1, x ∈ wd := mt_lay (by decide +kernel)
theorem in_X : ∀ x ∈ u_ws R_X F_X 27, x ∈ wd := mt_lay (by decide +kernel)
abbrev oM (xM xW : Nat) : Nat × va_E := (xM, .inr (0, [.ref xW]))
abbrev oR (xR xD xA : Nat) (f : Nat → Int32) : Nat × va_E := (xR, .inr (1, [.ref xD, .ref xA, .int (f 0), .int (f 1), .int (f 2), .int (f 3), .int (f 4), .int (f 5), .int (f 6), .int (f 7), .int (f 8), .int (f 9)]))
abbrev oG (xG xL xH xI : Nat) : Nat × va_E := (xG, .inr (2, [.ref xL, .ref xH, .ref xI]))
abbrev oT (xT : Nat) (f : Nat → Int32) : Nat × va_E := (xT, .inr (3, [.int (f 0), .int (f 1), .int (f 2), .int (f 3), .int (f 4)]))
abbrev oP (xP xM xR xG xT : Nat) (f : Nat → Int32) : Nat × va_E := (xP, .inr (4, [.ref xM, .ref xR, .ref xG, .ref xT, .int (f 0), .int (f 1), .int (f 2), .int (f 3), .int (f 4), .int (f 5)]))
abbrev oC (xC xP : Nat) : Nat × va_E := (xC, .inr (5, [.ref xP]))
abbrev oX (yX yM yD yA yO yL yH yI : Nat) (f : Nat → Int32) : Nat × va_E := (yX, .inr (6, [.int (f 0), .ref yM, .ref yD, .ref yA, .ref yO, .int (f 1), .int (f 2), .int (f 3), .int (f 4), .int (f 5), .int (f 6), .int (f 7), .int (f 8), .int (f 9), .int (f 10), .int (f 11), .int (f 12), .int (f 13), .ref yL, .ref yH, .ref yI, .int (f 14), .int (f 15), .int (f 16), .int (f 17), .int (f 18), .int (f 19)]))
abbrev ar (cI : ClassId) (x n : Nat) (f : Nat → Int32) : Nat × va_E := (x, .inl (cI, n, .inl f))
abbrev b_M_has : ByteArray := prog_3_method_2_code
def y_M_has : MethodName := ⟨R_M, "has", "(I)Z"⟩
theorem nd_M_has : y_M_has.cls ≠ "java/lang/invoke/MethodHandle" ∧ y_M_has.cls ≠ "java/lang/invoke/VarHandle" ∧ (parseMethodDescriptor y_M_has.desc).map (fun d => d.parameters.length) = some 1 := by decide +kernel
abbrev b_M_isArea : ByteArray := prog_3_method_3_code
def y_M_isArea : MethodName := ⟨R_M, "isArea", "(I)Z"⟩
theorem nd_M_isArea : y_M_isArea.cls ≠ "java/lang/invoke/MethodHandle" ∧ y_M_isArea.cls ≠ "java/lang/invoke/VarHandle" ∧ (parseMethodDescriptor y_M_isArea.desc).map (fun d => d.parameters.length) = some 1 := by decide +kernel
abbrev b_M_areaStart : ByteArray := prog_3_method_4_code
def y_M_areaStart : MethodName := ⟨R_M, "areaStart", "(I)I"⟩
theorem nd_M_areaStart : y_M_areaStart.cls ≠ "java/lang/invoke/MethodHandle" ∧ y_M_areaStart.cls ≠ "java/lang/invoke/VarHandle" ∧ (parseMethodDescriptor y_M_areaStart.desc).map (fun d => d.parameters.length) = some 1 := by decide +kernel
abbrev b_M_read : ByteArray := prog_3_method_5_code
def y_M_read : MethodName := ⟨R_M, "read", "(I)I"⟩
theorem nd_M_read : y_M_read.cls ≠ "java/lang/invoke/MethodHandle" ∧ y_M_read.cls ≠ "java/lang/invoke/VarHandle" ∧ (parseMethodDescriptor y_M_read.desc).map (fun d => d.parameters.length) = some 1 := by decide +kernel
theorem nv_M_read : y_M_read.cls = R_M ∧ y_M_read.cls ≠ "java/lang/invoke/MethodHandle" ∧ y_M_read.cls ≠ "java/lang/invoke/VarHandle" ∧ (parseMethodDescriptor y_M_read.desc).map (fun d => d.parameters.length) = some 1 := ⟨rfl, nd_M_read⟩
abbrev b_M_write : ByteArray := prog_3_method_6_code
def y_M_write : MethodName := ⟨R_M, "write", "(II)V"⟩
theorem nd_M_write : y_M_write.cls ≠ "java/lang/invoke/MethodHandle" ∧ y_M_write.cls ≠ "java/lang/invoke/VarHandle" ∧ (parseMethodDescriptor y_M_write.desc).map (fun d => d.parameters.length) = some 2 := by decide +kernel
theorem nv_M_write : y_M_write.cls = R_M ∧ y_M_write.cls ≠ "java/lang/invoke/MethodHandle" ∧ y_M_write.cls ≠ "java/lang/invoke/VarHandle" ∧ (parseMethodDescriptor y_M_write.desc).map (fun d => d.parameters.length) = some 2 := ⟨rfl, nd_M_write⟩
abbrev b_M_chainAreas : ByteArray := prog_3_method_7_code
def y_M_chainAreas : MethodName := ⟨R_M, "chainAreas", "(I)V"⟩
theorem nd_M_chainAreas : y_M_chainAreas.cls ≠ "java/lang/invoke/MethodHandle" ∧ y_M_chainAreas.cls ≠ "java/lang/invoke/VarHandle" ∧ (parseMethodDescriptor y_M_chainAreas.desc).map (fun d => d.parameters.length) = some 1 := by decide +kernel
theorem nv_M_chainAreas : y_M_chainAreas.cls = R_M ∧ y_M_chainAreas.cls ≠ "java/lang/invoke/MethodHandle" ∧ y_M_chainAreas.cls ≠ "java/lang/invoke/VarHandle" ∧ (parseMethodDescriptor y_M_chainAreas.desc).map (fun d => d.parameters.length) = some 1 := ⟨rfl, nd_M_chainAreas⟩
abbrev b_M_countAreas : ByteArray := prog_3_method_8_code
def y_M_countAreas : MethodName := ⟨R_M, "countAreas", "(I)I"⟩
theorem nd_M_countAreas : y_M_countAreas.cls ≠ "java/lang/invoke/MethodHandle" ∧ y_M_countAreas.cls ≠ "java/lang/invoke/VarHandle" ∧ (parseMethodDescriptor y_M_countAreas.desc).map (fun d => d.parameters.length) = some 1 := by decide +kernel
theorem nv_M_countAreas : y_M_countAreas.cls = R_M ∧ y_M_countAreas.cls ≠ "java/lang/invoke/MethodHandle" ∧ y_M_countAreas.cls ≠ "java/lang/invoke/VarHandle" ∧ (parseMethodDescriptor y_M_countAreas.desc).map (fun d => d.parameters.length) = some 1 := ⟨rfl, nd_M_countAreas⟩
abbrev b_R_state : ByteArray := prog_6_method_2_code
def y_R_state : MethodName := ⟨R_R, "state", "()I"⟩
theorem nd_R_state : y_R_state.cls ≠ "java/lang/invoke/MethodHandle" ∧ y_R_state.cls ≠ "java/lang/invoke/VarHandle" ∧ (parseMethodDescriptor y_R_state.desc).map (fun d => d.parameters.length) = some 0 := by decide +kernel
theorem nv_R_state : y_R_state.cls = R_R ∧ y_R_state.cls ≠ "java/lang/invoke/MethodHandle" ∧ y_R_state.cls ≠ "java/lang/invoke/VarHandle" ∧ (parseMethodDescriptor y_R_state.desc).map (fun d => d.parameters.length) = some 0 := ⟨rfl, nd_R_state⟩
abbrev b_R_takeState : ByteArray := prog_6_method_3_code
def y_R_takeState : MethodName := ⟨R_R, "takeState", "(I)V"⟩
theorem nd_R_takeState : y_R_takeState.cls ≠ "java/lang/invoke/MethodHandle" ∧ y_R_takeState.cls ≠ "java/lang/invoke/VarHandle" ∧ (parseMethodDescriptor y_R_takeState.desc).map (fun d => d.parameters.length) = some 1 := by decide +kernel
theorem nv_R_takeState : y_R_takeState.cls = R_R ∧ y_R_takeState.cls ≠ "java/lang/invoke/MethodHandle" ∧ y_R_takeState.cls ≠ "java/lang/invoke/VarHandle" ∧ (parseMethodDescriptor y_R_takeState.desc).map (fun d => d.parameters.length) = some 1 := ⟨rfl, nd_R_takeState⟩
abbrev b_R_begin : ByteArray := prog_6_method_4_code
def y_R_begin : MethodName := ⟨R_R, "begin", "(IIZ)V"⟩
theorem nd_R_begin : y_R_begin.cls ≠ "java/lang/invoke/MethodHandle" ∧ y_R_begin.cls ≠ "java/lang/invoke/VarHandle" ∧ (parseMethodDescriptor y_R_begin.desc).map (fun d => d.parameters.length) = some 3 := by decide +kernel
theorem nv_R_begin : y_R_begin.cls = R_R ∧ y_R_begin.cls ≠ "java/lang/invoke/MethodHandle" ∧ y_R_begin.cls ≠ "java/lang/invoke/VarHandle" ∧ (parseMethodDescriptor y_R_begin.desc).map (fun d => d.parameters.length) = some 3 := ⟨rfl, nd_R_begin⟩
abbrev b_R_enterHandler : ByteArray := prog_6_method_5_code
def y_R_enterHandler : MethodName := ⟨R_R, "enterHandler", "(II)V"⟩
theorem nd_R_enterHandler : y_R_enterHandler.cls ≠ "java/lang/invoke/MethodHandle" ∧ y_R_enterHandler.cls ≠ "java/lang/invoke/VarHandle" ∧ (parseMethodDescriptor y_R_enterHandler.desc).map (fun d => d.parameters.length) = some 2 := by decide +kernel
theorem nv_R_enterHandler : y_R_enterHandler.cls = R_R ∧ y_R_enterHandler.cls ≠ "java/lang/invoke/MethodHandle" ∧ y_R_enterHandler.cls ≠ "java/lang/invoke/VarHandle" ∧ (parseMethodDescriptor y_R_enterHandler.desc).map (fun d => d.parameters.length) = some 2 := ⟨rfl, nd_R_enterHandler⟩
abbrev b_R_keep : ByteArray := prog_6_method_6_code
def y_R_keep : MethodName := ⟨R_R, "keep", "(LAreaCore$Memory;Z)Z"⟩
theorem nd_R_keep : y_R_keep.cls ≠ "java/lang/invoke/MethodHandle" ∧ y_R_keep.cls ≠ "java/lang/invoke/VarHandle" ∧ (parseMethodDescriptor y_R_keep.desc).map (fun d => d.parameters.length) = some 2 := by decide +kernel
theorem nv_R_keep : y_R_keep.cls = R_R ∧ y_R_keep.cls ≠ "java/lang/invoke/MethodHandle" ∧ y_R_keep.cls ≠ "java/lang/invoke/VarHandle" ∧ (parseMethodDescriptor y_R_keep.desc).map (fun d => d.parameters.length) = some 2 := ⟨rfl, nd_R_keep⟩
abbrev b_R_refuseBack : ByteArray := prog_6_method_7_code
def y_R_refuseBack : MethodName := ⟨R_R, "refuseBack", "(Z)I"⟩
theorem nd_R_refuseBack : y_R_refuseBack.cls ≠ "java/lang/invoke/MethodHandle" ∧ y_R_refuseBack.cls ≠ "java/lang/invoke/VarHandle" ∧ (parseMethodDescriptor y_R_refuseBack.desc).map (fun d => d.parameters.length) = some 1 := by decide +kernel
theorem nv_R_refuseBack : y_R_refuseBack.cls = R_R ∧ y_R_refuseBack.cls ≠ "java/lang/invoke/MethodHandle" ∧ y_R_refuseBack.cls ≠ "java/lang/invoke/VarHandle" ∧ (parseMethodDescriptor y_R_refuseBack.desc).map (fun d => d.parameters.length) = some 1 := ⟨rfl, nd_R_refuseBack⟩
abbrev b_R_bringBack : ByteArray := prog_6_method_8_code
def y_R_bringBack : MethodName := ⟨R_R, "bringBack", "(LAreaCore$Memory;Z)V"⟩
theorem nd_R_bringBack : y_R_bringBack.cls ≠ "java/lang/invoke/MethodHandle" ∧ y_R_bringBack.cls ≠ "java/lang/invoke/VarHandle" ∧ (parseMethodDescriptor y_R_bringBack.desc).map (fun d => d.parameters.length) = some 2 := by decide +kernel
theorem nv_R_bringBack : y_R_bringBack.cls = R_R ∧ y_R_bringBack.cls ≠ "java/lang/invoke/MethodHandle" ∧ y_R_bringBack.cls ≠ "java/lang/invoke/VarHandle" ∧ (parseMethodDescriptor y_R_bringBack.desc).map (fun d => d.parameters.length) = some 2 := ⟨rfl, nd_R_bringBack⟩
abbrev b_G_change : ByteArray := prog_5_method_2_code
def y_G_change : MethodName := ⟨R_G, "change", "(IIII)V"⟩
theorem nd_G_change : y_G_change.cls ≠ "java/lang/invoke/MethodHandle" ∧ y_G_change.cls ≠ "java/lang/invoke/VarHandle" ∧ (parseMethodDescriptor y_G_change.desc).map (fun d => d.parameters.length) = some 4 := by decide +kernel
theorem nv_G_change : y_G_change.cls = R_G ∧ y_G_change.cls ≠ "java/lang/invoke/MethodHandle" ∧ y_G_change.cls ≠ "java/lang/invoke/VarHandle" ∧ (parseMethodDescriptor y_G_change.desc).map (fun d => d.parameters.length) = some 4 := ⟨rfl, nd_G_change⟩
abbrev b_G_covers : ByteArray := prog_5_method_3_code
def y_G_covers : MethodName := ⟨R_G, "covers", "(II)Z"⟩
theorem nd_G_covers : y_G_covers.cls ≠ "java/lang/invoke/MethodHandle" ∧ y_G_covers.cls ≠ "java/lang/invoke/VarHandle" ∧ (parseMethodDescriptor y_G_covers.desc).map (fun d => d.parameters.length) = some 2 := by decide +kernel
theorem nv_G_covers : y_G_covers.cls = R_G ∧ y_G_covers.cls ≠ "java/lang/invoke/MethodHandle" ∧ y_G_covers.cls ≠ "java/lang/invoke/VarHandle" ∧ (parseMethodDescriptor y_G_covers.desc).map (fun d => d.parameters.length) = some 2 := ⟨rfl, nd_G_covers⟩
abbrev b_G_letsRun : ByteArray := prog_5_method_4_code
def y_G_letsRun : MethodName := ⟨R_G, "letsRun", "(II)Z"⟩
theorem nd_G_letsRun : y_G_letsRun.cls ≠ "java/lang/invoke/MethodHandle" ∧ y_G_letsRun.cls ≠ "java/lang/invoke/VarHandle" ∧ (parseMethodDescriptor y_G_letsRun.desc).map (fun d => d.parameters.length) = some 2 := by decide +kernel
theorem nv_G_letsRun : y_G_letsRun.cls = R_G ∧ y_G_letsRun.cls ≠ "java/lang/invoke/MethodHandle" ∧ y_G_letsRun.cls ≠ "java/lang/invoke/VarHandle" ∧ (parseMethodDescriptor y_G_letsRun.desc).map (fun d => d.parameters.length) = some 2 := ⟨rfl, nd_G_letsRun⟩
abbrev b_G_letsUse : ByteArray := prog_5_method_5_code
def y_G_letsUse : MethodName := ⟨R_G, "letsUse", "(III)Z"⟩
theorem nd_G_letsUse : y_G_letsUse.cls ≠ "java/lang/invoke/MethodHandle" ∧ y_G_letsUse.cls ≠ "java/lang/invoke/VarHandle" ∧ (parseMethodDescriptor y_G_letsUse.desc).map (fun d => d.parameters.length) = some 3 := by decide +kernel
theorem nv_G_letsUse : y_G_letsUse.cls = R_G ∧ y_G_letsUse.cls ≠ "java/lang/invoke/MethodHandle" ∧ y_G_letsUse.cls ≠ "java/lang/invoke/VarHandle" ∧ (parseMethodDescriptor y_G_letsUse.desc).map (fun d => d.parameters.length) = some 3 := ⟨rfl, nd_G_letsUse⟩
abbrev b_T_has : ByteArray := prog_2_method_2_code
def y_T_has : MethodName := ⟨R_T, "has", "(I)Z"⟩
theorem nd_T_has : y_T_has.cls ≠ "java/lang/invoke/MethodHandle" ∧ y_T_has.cls ≠ "java/lang/invoke/VarHandle" ∧ (parseMethodDescriptor y_T_has.desc).map (fun d => d.parameters.length) = some 1 := by decide +kernel
abbrev b_T_isPending : ByteArray := prog_2_method_3_code
def y_T_isPending : MethodName := ⟨R_T, "isPending", "(I)Z"⟩
theorem nd_T_isPending : y_T_isPending.cls ≠ "java/lang/invoke/MethodHandle" ∧ y_T_isPending.cls ≠ "java/lang/invoke/VarHandle" ∧ (parseMethodDescriptor y_T_isPending.desc).map (fun d => d.parameters.length) = some 1 := by decide +kernel
theorem nv_T_isPending : y_T_isPending.cls = R_T ∧ y_T_isPending.cls ≠ "java/lang/invoke/MethodHandle" ∧ y_T_isPending.cls ≠ "java/lang/invoke/VarHandle" ∧ (parseMethodDescriptor y_T_isPending.desc).map (fun d => d.parameters.length) = some 1 := ⟨rfl, nd_T_isPending⟩
abbrev b_T_ask : ByteArray := prog_2_method_4_code
def y_T_ask : MethodName := ⟨R_T, "ask", "(I)V"⟩
theorem nd_T_ask : y_T_ask.cls ≠ "java/lang/invoke/MethodHandle" ∧ y_T_ask.cls ≠ "java/lang/invoke/VarHandle" ∧ (parseMethodDescriptor y_T_ask.desc).map (fun d => d.parameters.length) = some 1 := by decide +kernel
theorem nv_T_ask : y_T_ask.cls = R_T ∧ y_T_ask.cls ≠ "java/lang/invoke/MethodHandle" ∧ y_T_ask.cls ≠ "java/lang/invoke/VarHandle" ∧ (parseMethodDescriptor y_T_ask.desc).map (fun d => d.parameters.length) = some 1 := ⟨rfl, nd_T_ask⟩
abbrev b_T_tick : ByteArray := prog_2_method_5_code
def y_T_tick : MethodName := ⟨R_T, "tick", "()V"⟩
theorem nd_T_tick : y_T_tick.cls ≠ "java/lang/invoke/MethodHandle" ∧ y_T_tick.cls ≠ "java/lang/invoke/VarHandle" ∧ (parseMethodDescriptor y_T_tick.desc).map (fun d => d.parameters.length) = some 0 := by decide +kernel
theorem nv_T_tick : y_T_tick.cls = R_T ∧ y_T_tick.cls ≠ "java/lang/invoke/MethodHandle" ∧ y_T_tick.cls ≠ "java/lang/invoke/VarHandle" ∧ (parseMethodDescriptor y_T_tick.desc).map (fun d => d.parameters.length) = some 0 := ⟨rfl, nd_T_tick⟩
abbrev b_T_take : ByteArray := prog_2_method_7_code
def y_T_take : MethodName := ⟨R_T, "take", "(I)V"⟩
theorem nd_T_take : y_T_take.cls ≠ "java/lang/invoke/MethodHandle" ∧ y_T_take.cls ≠ "java/lang/invoke/VarHandle" ∧ (parseMethodDescriptor y_T_take.desc).map (fun d => d.parameters.length) = some 1 := by decide +kernel
theorem nv_T_take : y_T_take.cls = R_T ∧ y_T_take.cls ≠ "java/lang/invoke/MethodHandle" ∧ y_T_take.cls ≠ "java/lang/invoke/VarHandle" ∧ (parseMethodDescriptor y_T_take.desc).map (fun d => d.parameters.length) = some 1 := ⟨rfl, nd_T_take⟩
abbrev b_T_greatest : ByteArray := prog_2_method_6_code
def y_T_greatest : MethodName := ⟨R_T, "greatest", "()I"⟩
theorem nd_T_greatest : y_T_greatest.cls ≠ "java/lang/invoke/MethodHandle" ∧ y_T_greatest.cls ≠ "java/lang/invoke/VarHandle" ∧ (parseMethodDescriptor y_T_greatest.desc).map (fun d => d.parameters.length) = some 0 := by decide +kernel
theorem nv_T_greatest : y_T_greatest.cls = R_T ∧ y_T_greatest.cls ≠ "java/lang/invoke/MethodHandle" ∧ y_T_greatest.cls ≠ "java/lang/invoke/VarHandle" ∧ (parseMethodDescriptor y_T_greatest.desc).map (fun d => d.parameters.length) = some 0 := ⟨rfl, nd_T_greatest⟩
abbrev b_P_needsTopLevel : ByteArray := prog_4_method_9_code
def y_P_needsTopLevel : MethodName := ⟨R_P, "needsTopLevel", "(I)Z"⟩
theorem nd_P_needsTopLevel : y_P_needsTopLevel.cls ≠ "java/lang/invoke/MethodHandle" ∧ y_P_needsTopLevel.cls ≠ "java/lang/invoke/VarHandle" ∧ (parseMethodDescriptor y_P_needsTopLevel.desc).map (fun d => d.parameters.length) = some 1 := by decide +kernel
abbrev b_P_fieldA : ByteArray := prog_4_method_10_code
def y_P_fieldA : MethodName := ⟨R_P, "fieldA", "(I)I"⟩
theorem nd_P_fieldA : y_P_fieldA.cls ≠ "java/lang/invoke/MethodHandle" ∧ y_P_fieldA.cls ≠ "java/lang/invoke/VarHandle" ∧ (parseMethodDescriptor y_P_fieldA.desc).map (fun d => d.parameters.length) = some 1 := by decide +kernel
abbrev b_P_fieldB : ByteArray := prog_4_method_11_code
def y_P_fieldB : MethodName := ⟨R_P, "fieldB", "(I)I"⟩
theorem nd_P_fieldB : y_P_fieldB.cls ≠ "java/lang/invoke/MethodHandle" ∧ y_P_fieldB.cls ≠ "java/lang/invoke/VarHandle" ∧ (parseMethodDescriptor y_P_fieldB.desc).map (fun d => d.parameters.length) = some 1 := by decide +kernel
abbrev b_P_fieldC : ByteArray := prog_4_method_12_code
def y_P_fieldC : MethodName := ⟨R_P, "fieldC", "(I)I"⟩
theorem nd_P_fieldC : y_P_fieldC.cls ≠ "java/lang/invoke/MethodHandle" ∧ y_P_fieldC.cls ≠ "java/lang/invoke/VarHandle" ∧ (parseMethodDescriptor y_P_fieldC.desc).map (fun d => d.parameters.length) = some 1 := by decide +kernel
abbrev b_P_amount : ByteArray := prog_4_method_13_code
def y_P_amount : MethodName := ⟨R_P, "amount", "(I)I"⟩
theorem nd_P_amount : y_P_amount.cls ≠ "java/lang/invoke/MethodHandle" ∧ y_P_amount.cls ≠ "java/lang/invoke/VarHandle" ∧ (parseMethodDescriptor y_P_amount.desc).map (fun d => d.parameters.length) = some 1 := by decide +kernel
abbrev b_P_isGuarded : ByteArray := prog_4_method_6_code
def y_P_isGuarded : MethodName := ⟨R_P, "isGuarded", "()Z"⟩
theorem nd_P_isGuarded : y_P_isGuarded.cls ≠ "java/lang/invoke/MethodHandle" ∧ y_P_isGuarded.cls ≠ "java/lang/invoke/VarHandle" ∧ (parseMethodDescriptor y_P_isGuarded.desc).map (fun d => d.parameters.length) = some 0 := by decide +kernel
theorem nv_P_isGuarded : y_P_isGuarded.cls = R_P ∧ y_P_isGuarded.cls ≠ "java/lang/invoke/MethodHandle" ∧ y_P_isGuarded.cls ≠ "java/lang/invoke/VarHandle" ∧ (parseMethodDescriptor y_P_isGuarded.desc).map (fun d => d.parameters.length) = some 0 := ⟨rfl, nd_P_isGuarded⟩
abbrev b_P_takeInterrupt : ByteArray := prog_4_method_3_code
def y_P_takeInterrupt : MethodName := ⟨R_P, "takeInterrupt", "(I)V"⟩
theorem nd_P_takeInterrupt : y_P_takeInterrupt.cls ≠ "java/lang/invoke/MethodHandle" ∧ y_P_takeInterrupt.cls ≠ "java/lang/invoke/VarHandle" ∧ (parseMethodDescriptor y_P_takeInterrupt.desc).map (fun d => d.parameters.length) = some 1 := by decide +kernel
theorem nv_P_takeInterrupt : y_P_takeInterrupt.cls = R_P ∧ y_P_takeInterrupt.cls ≠ "java/lang/invoke/MethodHandle" ∧ y_P_takeInterrupt.cls ≠ "java/lang/invoke/VarHandle" ∧ (parseMethodDescriptor y_P_takeInterrupt.desc).map (fun d => d.parameters.length) = some 1 := ⟨rfl, nd_P_takeInterrupt⟩
abbrev b_P_takeTrap : ByteArray := prog_4_method_4_code
def y_P_takeTrap : MethodName := ⟨R_P, "takeTrap", "(II)V"⟩
theorem nd_P_takeTrap : y_P_takeTrap.cls ≠ "java/lang/invoke/MethodHandle" ∧ y_P_takeTrap.cls ≠ "java/lang/invoke/VarHandle" ∧ (parseMethodDescriptor y_P_takeTrap.desc).map (fun d => d.parameters.length) = some 2 := by decide +kernel
theorem nv_P_takeTrap : y_P_takeTrap.cls = R_P ∧ y_P_takeTrap.cls ≠ "java/lang/invoke/MethodHandle" ∧ y_P_takeTrap.cls ≠ "java/lang/invoke/VarHandle" ∧ (parseMethodDescriptor y_P_takeTrap.desc).map (fun d => d.parameters.length) = some 2 := ⟨rfl, nd_P_takeTrap⟩
abbrev b_P_finish : ByteArray := prog_4_method_5_code
def y_P_finish : MethodName := ⟨R_P, "finish", "(I)V"⟩
theorem nd_P_finish : y_P_finish.cls ≠ "java/lang/invoke/MethodHandle" ∧ y_P_finish.cls ≠ "java/lang/invoke/VarHandle" ∧ (parseMethodDescriptor y_P_finish.desc).map (fun d => d.parameters.length) = some 1 := by decide +kernel
theorem nv_P_finish : y_P_finish.cls = R_P ∧ y_P_finish.cls ≠ "java/lang/invoke/MethodHandle" ∧ y_P_finish.cls ≠ "java/lang/invoke/VarHandle" ∧ (parseMethodDescriptor y_P_finish.desc).map (fun d => d.parameters.length) = some 1 := ⟨rfl, nd_P_finish⟩
abbrev b_P_refuseFetch : ByteArray := prog_4_method_7_code
def y_P_refuseFetch : MethodName := ⟨R_P, "refuseFetch", "()I"⟩
theorem nd_P_refuseFetch : y_P_refuseFetch.cls ≠ "java/lang/invoke/MethodHandle" ∧ y_P_refuseFetch.cls ≠ "java/lang/invoke/VarHandle" ∧ (parseMethodDescriptor y_P_refuseFetch.desc).map (fun d => d.parameters.length) = some 0 := by decide +kernel
theorem nv_P_refuseFetch : y_P_refuseFetch.cls = R_P ∧ y_P_refuseFetch.cls ≠ "java/lang/invoke/MethodHandle" ∧ y_P_refuseFetch.cls ≠ "java/lang/invoke/VarHandle" ∧ (parseMethodDescriptor y_P_refuseFetch.desc).map (fun d => d.parameters.length) = some 0 := ⟨rfl, nd_P_refuseFetch⟩
abbrev b_P_refuseWord : ByteArray := prog_4_method_15_code
def y_P_refuseWord : MethodName := ⟨R_P, "refuseWord", "(II)I"⟩
theorem nd_P_refuseWord : y_P_refuseWord.cls ≠ "java/lang/invoke/MethodHandle" ∧ y_P_refuseWord.cls ≠ "java/lang/invoke/VarHandle" ∧ (parseMethodDescriptor y_P_refuseWord.desc).map (fun d => d.parameters.length) = some 2 := by decide +kernel
theorem nv_P_refuseWord : y_P_refuseWord.cls = R_P ∧ y_P_refuseWord.cls ≠ "java/lang/invoke/MethodHandle" ∧ y_P_refuseWord.cls ≠ "java/lang/invoke/VarHandle" ∧ (parseMethodDescriptor y_P_refuseWord.desc).map (fun d => d.parameters.length) = some 2 := ⟨rfl, nd_P_refuseWord⟩
abbrev b_P_compute : ByteArray := prog_4_method_14_code
def y_P_compute : MethodName := ⟨R_P, "compute", "(II)I"⟩
theorem nd_P_compute : y_P_compute.cls ≠ "java/lang/invoke/MethodHandle" ∧ y_P_compute.cls ≠ "java/lang/invoke/VarHandle" ∧ (parseMethodDescriptor y_P_compute.desc).map (fun d => d.parameters.length) = some 2 := by decide +kernel
theorem nv_P_compute : y_P_compute.cls = R_P ∧ y_P_compute.cls ≠ "java/lang/invoke/MethodHandle" ∧ y_P_compute.cls ≠ "java/lang/invoke/VarHandle" ∧ (parseMethodDescriptor y_P_compute.desc).map (fun d => d.parameters.length) = some 2 := ⟨rfl, nd_P_compute⟩
abbrev b_P_moveWord : ByteArray := prog_4_method_16_code
def y_P_moveWord : MethodName := ⟨R_P, "moveWord", "(II)I"⟩
theorem nd_P_moveWord : y_P_moveWord.cls ≠ "java/lang/invoke/MethodHandle" ∧ y_P_moveWord.cls ≠ "java/lang/invoke/VarHandle" ∧ (parseMethodDescriptor y_P_moveWord.desc).map (fun d => d.parameters.length) = some 2 := by decide +kernel
theorem nv_P_moveWord : y_P_moveWord.cls = R_P ∧ y_P_moveWord.cls ≠ "java/lang/invoke/MethodHandle" ∧ y_P_moveWord.cls ≠ "java/lang/invoke/VarHandle" ∧ (parseMethodDescriptor y_P_moveWord.desc).map (fun d => d.parameters.length) = some 2 := ⟨rfl, nd_P_moveWord⟩
abbrev b_Z_floorMod : ByteArray := prog_13_method_50_code
def y_Z_floorMod : MethodName := ⟨R_Z, "floorMod", "(II)I"⟩
theorem nd_Z_floorMod : y_Z_floorMod.cls ≠ "java/lang/invoke/MethodHandle" ∧ y_Z_floorMod.cls ≠ "java/lang/invoke/VarHandle" ∧ (parseMethodDescriptor y_Z_floorMod.desc).map (fun d => d.parameters.length) = some 2 := by decide +kernel
abbrev b_P_readRing : ByteArray := prog_4_method_17_code
def y_P_readRing : MethodName := ⟨R_P, "readRing", "(I)I"⟩
theorem nd_P_readRing : y_P_readRing.cls ≠ "java/lang/invoke/MethodHandle" ∧ y_P_readRing.cls ≠ "java/lang/invoke/VarHandle" ∧ (parseMethodDescriptor y_P_readRing.desc).map (fun d => d.parameters.length) = some 1 := by decide +kernel
theorem nv_P_readRing : y_P_readRing.cls = R_P ∧ y_P_readRing.cls ≠ "java/lang/invoke/MethodHandle" ∧ y_P_readRing.cls ≠ "java/lang/invoke/VarHandle" ∧ (parseMethodDescriptor y_P_readRing.desc).map (fun d => d.parameters.length) = some 1 := ⟨rfl, nd_P_readRing⟩
abbrev b_P_jump : ByteArray := prog_4_method_18_code
def y_P_jump : MethodName := ⟨R_P, "jump", "(II)I"⟩
theorem nd_P_jump : y_P_jump.cls ≠ "java/lang/invoke/MethodHandle" ∧ y_P_jump.cls ≠ "java/lang/invoke/VarHandle" ∧ (parseMethodDescriptor y_P_jump.desc).map (fun d => d.parameters.length) = some 2 := by decide +kernel
theorem nv_P_jump : y_P_jump.cls = R_P ∧ y_P_jump.cls ≠ "java/lang/invoke/MethodHandle" ∧ y_P_jump.cls ≠ "java/lang/invoke/VarHandle" ∧ (parseMethodDescriptor y_P_jump.desc).map (fun d => d.parameters.length) = some 2 := ⟨rfl, nd_P_jump⟩
abbrev b_P_callDown : ByteArray := prog_4_method_19_code
def y_P_callDown : MethodName := ⟨R_P, "callDown", "(I)I"⟩
theorem nd_P_callDown : y_P_callDown.cls ≠ "java/lang/invoke/MethodHandle" ∧ y_P_callDown.cls ≠ "java/lang/invoke/VarHandle" ∧ (parseMethodDescriptor y_P_callDown.desc).map (fun d => d.parameters.length) = some 1 := by decide +kernel
theorem nv_P_callDown : y_P_callDown.cls = R_P ∧ y_P_callDown.cls ≠ "java/lang/invoke/MethodHandle" ∧ y_P_callDown.cls ≠ "java/lang/invoke/VarHandle" ∧ (parseMethodDescriptor y_P_callDown.desc).map (fun d => d.parameters.length) = some 1 := ⟨rfl, nd_P_callDown⟩
abbrev b_P_goBack : ByteArray := prog_4_method_20_code
def y_P_goBack : MethodName := ⟨R_P, "goBack", "(Z)I"⟩
theorem nd_P_goBack : y_P_goBack.cls ≠ "java/lang/invoke/MethodHandle" ∧ y_P_goBack.cls ≠ "java/lang/invoke/VarHandle" ∧ (parseMethodDescriptor y_P_goBack.desc).map (fun d => d.parameters.length) = some 1 := by decide +kernel
theorem nv_P_goBack : y_P_goBack.cls = R_P ∧ y_P_goBack.cls ≠ "java/lang/invoke/MethodHandle" ∧ y_P_goBack.cls ≠ "java/lang/invoke/VarHandle" ∧ (parseMethodDescriptor y_P_goBack.desc).map (fun d => d.parameters.length) = some 1 := ⟨rfl, nd_P_goBack⟩
abbrev b_P_keepLower : ByteArray := prog_4_method_21_code
def y_P_keepLower : MethodName := ⟨R_P, "keepLower", "()I"⟩
theorem nd_P_keepLower : y_P_keepLower.cls ≠ "java/lang/invoke/MethodHandle" ∧ y_P_keepLower.cls ≠ "java/lang/invoke/VarHandle" ∧ (parseMethodDescriptor y_P_keepLower.desc).map (fun d => d.parameters.length) = some 0 := by decide +kernel
theorem nv_P_keepLower : y_P_keepLower.cls = R_P ∧ y_P_keepLower.cls ≠ "java/lang/invoke/MethodHandle" ∧ y_P_keepLower.cls ≠ "java/lang/invoke/VarHandle" ∧ (parseMethodDescriptor y_P_keepLower.desc).map (fun d => d.parameters.length) = some 0 := ⟨rfl, nd_P_keepLower⟩
abbrev b_P_bringLowerBack : ByteArray := prog_4_method_22_code
def y_P_bringLowerBack : MethodName := ⟨R_P, "bringLowerBack", "()I"⟩
theorem nd_P_bringLowerBack : y_P_bringLowerBack.cls ≠ "java/lang/invoke/MethodHandle" ∧ y_P_bringLowerBack.cls ≠ "java/lang/invoke/VarHandle" ∧ (parseMethodDescriptor y_P_bringLowerBack.desc).map (fun d => d.parameters.length) = some 0 := by decide +kernel
theorem nv_P_bringLowerBack : y_P_bringLowerBack.cls = R_P ∧ y_P_bringLowerBack.cls ≠ "java/lang/invoke/MethodHandle" ∧ y_P_bringLowerBack.cls ≠ "java/lang/invoke/VarHandle" ∧ (parseMethodDescriptor y_P_bringLowerBack.desc).map (fun d => d.parameters.length) = some 0 := ⟨rfl, nd_P_bringLowerBack⟩
abbrev b_P_openHandler : ByteArray := prog_4_method_23_code
def y_P_openHandler : MethodName := ⟨R_P, "openHandler", "(I)I"⟩
theorem nd_P_openHandler : y_P_openHandler.cls ≠ "java/lang/invoke/MethodHandle" ∧ y_P_openHandler.cls ≠ "java/lang/invoke/VarHandle" ∧ (parseMethodDescriptor y_P_openHandler.desc).map (fun d => d.parameters.length) = some 1 := by decide +kernel
theorem nv_P_openHandler : y_P_openHandler.cls = R_P ∧ y_P_openHandler.cls ≠ "java/lang/invoke/MethodHandle" ∧ y_P_openHandler.cls ≠ "java/lang/invoke/VarHandle" ∧ (parseMethodDescriptor y_P_openHandler.desc).map (fun d => d.parameters.length) = some 1 := ⟨rfl, nd_P_openHandler⟩
abbrev b_P_changeLevel : ByteArray := prog_4_method_24_code
def y_P_changeLevel : MethodName := ⟨R_P, "changeLevel", "(I)I"⟩
theorem nd_P_changeLevel : y_P_changeLevel.cls ≠ "java/lang/invoke/MethodHandle" ∧ y_P_changeLevel.cls ≠ "java/lang/invoke/VarHandle" ∧ (parseMethodDescriptor y_P_changeLevel.desc).map (fun d => d.parameters.length) = some 1 := by decide +kernel
theorem nv_P_changeLevel : y_P_changeLevel.cls = R_P ∧ y_P_changeLevel.cls ≠ "java/lang/invoke/MethodHandle" ∧ y_P_changeLevel.cls ≠ "java/lang/invoke/VarHandle" ∧ (parseMethodDescriptor y_P_changeLevel.desc).map (fun d => d.parameters.length) = some 1 := ⟨rfl, nd_P_changeLevel⟩
abbrev b_P_perform : ByteArray := prog_4_method_8_code
def y_P_perform : MethodName := ⟨R_P, "perform", "(I)I"⟩
theorem nd_P_perform : y_P_perform.cls ≠ "java/lang/invoke/MethodHandle" ∧ y_P_perform.cls ≠ "java/lang/invoke/VarHandle" ∧ (parseMethodDescriptor y_P_perform.desc).map (fun d => d.parameters.length) = some 1 := by decide +kernel
theorem nv_P_perform : y_P_perform.cls = R_P ∧ y_P_perform.cls ≠ "java/lang/invoke/MethodHandle" ∧ y_P_perform.cls ≠ "java/lang/invoke/VarHandle" ∧ (parseMethodDescriptor y_P_perform.desc).map (fun d => d.parameters.length) = some 1 := ⟨rfl, nd_P_perform⟩
abbrev b_P_step : ByteArray := prog_4_method_2_code
def y_P_step : MethodName := ⟨R_P, "step", "()V"⟩
theorem nd_P_step : y_P_step.cls ≠ "java/lang/invoke/MethodHandle" ∧ y_P_step.cls ≠ "java/lang/invoke/VarHandle" ∧ (parseMethodDescriptor y_P_step.desc).map (fun d => d.parameters.length) = some 0 := by decide +kernel
theorem nv_P_step : y_P_step.cls = R_P ∧ y_P_step.cls ≠ "java/lang/invoke/MethodHandle" ∧ y_P_step.cls ≠ "java/lang/invoke/VarHandle" ∧ (parseMethodDescriptor y_P_step.desc).map (fun d => d.parameters.length) = some 0 := ⟨rfl, nd_P_step⟩
abbrev b_C_put : ByteArray := prog_1_method_2_code
def y_C_put : MethodName := ⟨R_C, "put", "(II)Z"⟩
theorem nd_C_put : y_C_put.cls ≠ "java/lang/invoke/MethodHandle" ∧ y_C_put.cls ≠ "java/lang/invoke/VarHandle" ∧ (parseMethodDescriptor y_C_put.desc).map (fun d => d.parameters.length) = some 2 := by decide +kernel
theorem nv_C_put : y_C_put.cls = R_C ∧ y_C_put.cls ≠ "java/lang/invoke/MethodHandle" ∧ y_C_put.cls ≠ "java/lang/invoke/VarHandle" ∧ (parseMethodDescriptor y_C_put.desc).map (fun d => d.parameters.length) = some 2 := ⟨rfl, nd_C_put⟩
abbrev b_C_pool : ByteArray := prog_1_method_3_code
def y_C_pool : MethodName := ⟨R_C, "pool", "(II)V"⟩
theorem nd_C_pool : y_C_pool.cls ≠ "java/lang/invoke/MethodHandle" ∧ y_C_pool.cls ≠ "java/lang/invoke/VarHandle" ∧ (parseMethodDescriptor y_C_pool.desc).map (fun d => d.parameters.length) = some 2 := by decide +kernel
theorem nv_C_pool : y_C_pool.cls = R_C ∧ y_C_pool.cls ≠ "java/lang/invoke/MethodHandle" ∧ y_C_pool.cls ≠ "java/lang/invoke/VarHandle" ∧ (parseMethodDescriptor y_C_pool.desc).map (fun d => d.parameters.length) = some 2 := ⟨rfl, nd_C_pool⟩
abbrev b_C_tables : ByteArray := prog_1_method_4_code
def y_C_tables : MethodName := ⟨R_C, "tables", "(II)V"⟩
theorem nd_C_tables : y_C_tables.cls ≠ "java/lang/invoke/MethodHandle" ∧ y_C_tables.cls ≠ "java/lang/invoke/VarHandle" ∧ (parseMethodDescriptor y_C_tables.desc).map (fun d => d.parameters.length) = some 2 := by decide +kernel
theorem nv_C_tables : y_C_tables.cls = R_C ∧ y_C_tables.cls ≠ "java/lang/invoke/MethodHandle" ∧ y_C_tables.cls ≠ "java/lang/invoke/VarHandle" ∧ (parseMethodDescriptor y_C_tables.desc).map (fun d => d.parameters.length) = some 2 := ⟨rfl, nd_C_tables⟩
abbrev b_C_range : ByteArray := prog_1_method_5_code
def y_C_range : MethodName := ⟨R_C, "range", "(IIIII)V"⟩
theorem nd_C_range : y_C_range.cls ≠ "java/lang/invoke/MethodHandle" ∧ y_C_range.cls ≠ "java/lang/invoke/VarHandle" ∧ (parseMethodDescriptor y_C_range.desc).map (fun d => d.parameters.length) = some 5 := by decide +kernel
theorem nv_C_range : y_C_range.cls = R_C ∧ y_C_range.cls ≠ "java/lang/invoke/MethodHandle" ∧ y_C_range.cls ≠ "java/lang/invoke/VarHandle" ∧ (parseMethodDescriptor y_C_range.desc).map (fun d => d.parameters.length) = some 5 := ⟨rfl, nd_C_range⟩
abbrev b_C_guard : ByteArray := prog_1_method_6_code
def y_C_guard : MethodName := ⟨R_C, "guard", "(Z)V"⟩
theorem nd_C_guard : y_C_guard.cls ≠ "java/lang/invoke/MethodHandle" ∧ y_C_guard.cls ≠ "java/lang/invoke/VarHandle" ∧ (parseMethodDescriptor y_C_guard.desc).map (fun d => d.parameters.length) = some 1 := by decide +kernel
theorem nv_C_guard : y_C_guard.cls = R_C ∧ y_C_guard.cls ≠ "java/lang/invoke/MethodHandle" ∧ y_C_guard.cls ≠ "java/lang/invoke/VarHandle" ∧ (parseMethodDescriptor y_C_guard.desc).map (fun d => d.parameters.length) = some 1 := ⟨rfl, nd_C_guard⟩
abbrev b_C_timer : ByteArray := prog_1_method_7_code
def y_C_timer : MethodName := ⟨R_C, "timer", "(II)V"⟩
theorem nd_C_timer : y_C_timer.cls ≠ "java/lang/invoke/MethodHandle" ∧ y_C_timer.cls ≠ "java/lang/invoke/VarHandle" ∧ (parseMethodDescriptor y_C_timer.desc).map (fun d => d.parameters.length) = some 2 := by decide +kernel
theorem nv_C_timer : y_C_timer.cls = R_C ∧ y_C_timer.cls ≠ "java/lang/invoke/MethodHandle" ∧ y_C_timer.cls ≠ "java/lang/invoke/VarHandle" ∧ (parseMethodDescriptor y_C_timer.desc).map (fun d => d.parameters.length) = some 2 := ⟨rfl, nd_C_timer⟩
abbrev b_C_request : ByteArray := prog_1_method_8_code
def y_C_request : MethodName := ⟨R_C, "request", "(I)Z"⟩
theorem nd_C_request : y_C_request.cls ≠ "java/lang/invoke/MethodHandle" ∧ y_C_request.cls ≠ "java/lang/invoke/VarHandle" ∧ (parseMethodDescriptor y_C_request.desc).map (fun d => d.parameters.length) = some 1 := by decide +kernel
theorem nv_C_request : y_C_request.cls = R_C ∧ y_C_request.cls ≠ "java/lang/invoke/MethodHandle" ∧ y_C_request.cls ≠ "java/lang/invoke/VarHandle" ∧ (parseMethodDescriptor y_C_request.desc).map (fun d => d.parameters.length) = some 1 := ⟨rfl, nd_C_request⟩
abbrev b_C_start : ByteArray := prog_1_method_9_code
def y_C_start : MethodName := ⟨R_C, "start", "(IIZ)V"⟩
theorem nd_C_start : y_C_start.cls ≠ "java/lang/invoke/MethodHandle" ∧ y_C_start.cls ≠ "java/lang/invoke/VarHandle" ∧ (parseMethodDescriptor y_C_start.desc).map (fun d => d.parameters.length) = some 3 := by decide +kernel
theorem nv_C_start : y_C_start.cls = R_C ∧ y_C_start.cls ≠ "java/lang/invoke/MethodHandle" ∧ y_C_start.cls ≠ "java/lang/invoke/VarHandle" ∧ (parseMethodDescriptor y_C_start.desc).map (fun d => d.parameters.length) = some 3 := ⟨rfl, nd_C_start⟩
abbrev b_C_halt : ByteArray := prog_1_method_10_code
def y_C_halt : MethodName := ⟨R_C, "halt", "()Z"⟩
theorem nd_C_halt : y_C_halt.cls ≠ "java/lang/invoke/MethodHandle" ∧ y_C_halt.cls ≠ "java/lang/invoke/VarHandle" ∧ (parseMethodDescriptor y_C_halt.desc).map (fun d => d.parameters.length) = some 0 := by decide +kernel
theorem nv_C_halt : y_C_halt.cls = R_C ∧ y_C_halt.cls ≠ "java/lang/invoke/MethodHandle" ∧ y_C_halt.cls ≠ "java/lang/invoke/VarHandle" ∧ (parseMethodDescriptor y_C_halt.desc).map (fun d => d.parameters.length) = some 0 := ⟨rfl, nd_C_halt⟩
abbrev b_C_run : ByteArray := prog_1_method_11_code
def y_C_run : MethodName := ⟨R_C, "run", "(I)I"⟩
theorem nd_C_run : y_C_run.cls ≠ "java/lang/invoke/MethodHandle" ∧ y_C_run.cls ≠ "java/lang/invoke/VarHandle" ∧ (parseMethodDescriptor y_C_run.desc).map (fun d => d.parameters.length) = some 1 := by decide +kernel
theorem nv_C_run : y_C_run.cls = R_C ∧ y_C_run.cls ≠ "java/lang/invoke/MethodHandle" ∧ y_C_run.cls ≠ "java/lang/invoke/VarHandle" ∧ (parseMethodDescriptor y_C_run.desc).map (fun d => d.parameters.length) = some 1 := ⟨rfl, nd_C_run⟩
abbrev b_C_register : ByteArray := prog_1_method_12_code
def y_C_register : MethodName := ⟨R_C, "register", "(II)I"⟩
theorem nd_C_register : y_C_register.cls ≠ "java/lang/invoke/MethodHandle" ∧ y_C_register.cls ≠ "java/lang/invoke/VarHandle" ∧ (parseMethodDescriptor y_C_register.desc).map (fun d => d.parameters.length) = some 2 := by decide +kernel
theorem nv_C_register : y_C_register.cls = R_C ∧ y_C_register.cls ≠ "java/lang/invoke/MethodHandle" ∧ y_C_register.cls ≠ "java/lang/invoke/VarHandle" ∧ (parseMethodDescriptor y_C_register.desc).map (fun d => d.parameters.length) = some 2 := ⟨rfl, nd_C_register⟩
abbrev b_C_word : ByteArray := prog_1_method_13_code
def y_C_word : MethodName := ⟨R_C, "word", "(I)I"⟩
theorem nd_C_word : y_C_word.cls ≠ "java/lang/invoke/MethodHandle" ∧ y_C_word.cls ≠ "java/lang/invoke/VarHandle" ∧ (parseMethodDescriptor y_C_word.desc).map (fun d => d.parameters.length) = some 1 := by decide +kernel
theorem nv_C_word : y_C_word.cls = R_C ∧ y_C_word.cls ≠ "java/lang/invoke/MethodHandle" ∧ y_C_word.cls ≠ "java/lang/invoke/VarHandle" ∧ (parseMethodDescriptor y_C_word.desc).map (fun d => d.parameters.length) = some 1 := ⟨rfl, nd_C_word⟩
abbrev b_C_look : ByteArray := prog_1_method_14_code
def y_C_look : MethodName := ⟨R_C, "look", "(I)I"⟩
theorem nd_C_look : y_C_look.cls ≠ "java/lang/invoke/MethodHandle" ∧ y_C_look.cls ≠ "java/lang/invoke/VarHandle" ∧ (parseMethodDescriptor y_C_look.desc).map (fun d => d.parameters.length) = some 1 := by decide +kernel
theorem nv_C_look : y_C_look.cls = R_C ∧ y_C_look.cls ≠ "java/lang/invoke/MethodHandle" ∧ y_C_look.cls ≠ "java/lang/invoke/VarHandle" ∧ (parseMethodDescriptor y_C_look.desc).map (fun d => d.parameters.length) = some 1 := ⟨rfl, nd_C_look⟩
abbrev b_C_list : ByteArray := prog_1_method_15_code
def y_C_list : MethodName := ⟨R_C, "list", "(I)I"⟩
theorem nd_C_list : y_C_list.cls ≠ "java/lang/invoke/MethodHandle" ∧ y_C_list.cls ≠ "java/lang/invoke/VarHandle" ∧ (parseMethodDescriptor y_C_list.desc).map (fun d => d.parameters.length) = some 1 := by decide +kernel
theorem nv_C_list : y_C_list.cls = R_C ∧ y_C_list.cls ≠ "java/lang/invoke/MethodHandle" ∧ y_C_list.cls ≠ "java/lang/invoke/VarHandle" ∧ (parseMethodDescriptor y_C_list.desc).map (fun d => d.parameters.length) = some 1 := ⟨rfl, nd_C_list⟩
abbrev b_X_thrown : ByteArray := prog_8_method_2_code
def y_X_thrown : MethodName := ⟨R_X, "thrown", "()I"⟩
theorem nd_X_thrown : y_X_thrown.cls ≠ "java/lang/invoke/MethodHandle" ∧ y_X_thrown.cls ≠ "java/lang/invoke/VarHandle" ∧ (parseMethodDescriptor y_X_thrown.desc).map (fun d => d.parameters.length) = some 0 := by decide +kernel
theorem nv_X_thrown : y_X_thrown.cls = R_X ∧ y_X_thrown.cls ≠ "java/lang/invoke/MethodHandle" ∧ y_X_thrown.cls ≠ "java/lang/invoke/VarHandle" ∧ (parseMethodDescriptor y_X_thrown.desc).map (fun d => d.parameters.length) = some 0 := ⟨rfl, nd_X_thrown⟩
abbrev b_X_isArea : ByteArray := prog_8_method_3_code
def y_X_isArea : MethodName := ⟨R_X, "isArea", "(I)Z"⟩
theorem nd_X_isArea : y_X_isArea.cls ≠ "java/lang/invoke/MethodHandle" ∧ y_X_isArea.cls ≠ "java/lang/invoke/VarHandle" ∧ (parseMethodDescriptor y_X_isArea.desc).map (fun d => d.parameters.length) = some 1 := by decide +kernel
abbrev b_X_wordsOf : ByteArray := prog_8_method_4_code
def y_X_wordsOf : MethodName := ⟨R_X, "wordsOf", "(I)I"⟩
theorem nd_X_wordsOf : y_X_wordsOf.cls ≠ "java/lang/invoke/MethodHandle" ∧ y_X_wordsOf.cls ≠ "java/lang/invoke/VarHandle" ∧ (parseMethodDescriptor y_X_wordsOf.desc).map (fun d => d.parameters.length) = some 1 := by decide +kernel
abbrev b_X_keep : ByteArray := prog_8_method_5_code
def y_X_keep : MethodName := ⟨R_X, "keep", "(Z)Z"⟩
theorem nd_X_keep : y_X_keep.cls ≠ "java/lang/invoke/MethodHandle" ∧ y_X_keep.cls ≠ "java/lang/invoke/VarHandle" ∧ (parseMethodDescriptor y_X_keep.desc).map (fun d => d.parameters.length) = some 1 := by decide +kernel
theorem nv_X_keep : y_X_keep.cls = R_X ∧ y_X_keep.cls ≠ "java/lang/invoke/MethodHandle" ∧ y_X_keep.cls ≠ "java/lang/invoke/VarHandle" ∧ (parseMethodDescriptor y_X_keep.desc).map (fun d => d.parameters.length) = some 1 := ⟨rfl, nd_X_keep⟩
abbrev b_X_canBring : ByteArray := prog_8_method_6_code
def y_X_canBring : MethodName := ⟨R_X, "canBring", "(Z)Z"⟩
theorem nd_X_canBring : y_X_canBring.cls ≠ "java/lang/invoke/MethodHandle" ∧ y_X_canBring.cls ≠ "java/lang/invoke/VarHandle" ∧ (parseMethodDescriptor y_X_canBring.desc).map (fun d => d.parameters.length) = some 1 := by decide +kernel
theorem nv_X_canBring : y_X_canBring.cls = R_X ∧ y_X_canBring.cls ≠ "java/lang/invoke/MethodHandle" ∧ y_X_canBring.cls ≠ "java/lang/invoke/VarHandle" ∧ (parseMethodDescriptor y_X_canBring.desc).map (fun d => d.parameters.length) = some 1 := ⟨rfl, nd_X_canBring⟩
abbrev b_X_bring : ByteArray := prog_8_method_7_code
def y_X_bring : MethodName := ⟨R_X, "bring", "(Z)V"⟩
theorem nd_X_bring : y_X_bring.cls ≠ "java/lang/invoke/MethodHandle" ∧ y_X_bring.cls ≠ "java/lang/invoke/VarHandle" ∧ (parseMethodDescriptor y_X_bring.desc).map (fun d => d.parameters.length) = some 1 := by decide +kernel
theorem nv_X_bring : y_X_bring.cls = R_X ∧ y_X_bring.cls ≠ "java/lang/invoke/MethodHandle" ∧ y_X_bring.cls ≠ "java/lang/invoke/VarHandle" ∧ (parseMethodDescriptor y_X_bring.desc).map (fun d => d.parameters.length) = some 1 := ⟨rfl, nd_X_bring⟩
abbrev b_X_enter : ByteArray := prog_8_method_8_code
def y_X_enter : MethodName := ⟨R_X, "enter", "(II)Z"⟩
theorem nd_X_enter : y_X_enter.cls ≠ "java/lang/invoke/MethodHandle" ∧ y_X_enter.cls ≠ "java/lang/invoke/VarHandle" ∧ (parseMethodDescriptor y_X_enter.desc).map (fun d => d.parameters.length) = some 2 := by decide +kernel
theorem nv_X_enter : y_X_enter.cls = R_X ∧ y_X_enter.cls ≠ "java/lang/invoke/MethodHandle" ∧ y_X_enter.cls ≠ "java/lang/invoke/VarHandle" ∧ (parseMethodDescriptor y_X_enter.desc).map (fun d => d.parameters.length) = some 2 := ⟨rfl, nd_X_enter⟩
abbrev b_X_take : ByteArray := prog_8_method_9_code
def y_X_take : MethodName := ⟨R_X, "take", "(II)V"⟩
theorem nd_X_take : y_X_take.cls ≠ "java/lang/invoke/MethodHandle" ∧ y_X_take.cls ≠ "java/lang/invoke/VarHandle" ∧ (parseMethodDescriptor y_X_take.desc).map (fun d => d.parameters.length) = some 2 := by decide +kernel
theorem nv_X_take : y_X_take.cls = R_X ∧ y_X_take.cls ≠ "java/lang/invoke/MethodHandle" ∧ y_X_take.cls ≠ "java/lang/invoke/VarHandle" ∧ (parseMethodDescriptor y_X_take.desc).map (fun d => d.parameters.length) = some 2 := ⟨rfl, nd_X_take⟩
abbrev b_X_guarded : ByteArray := prog_8_method_10_code
def y_X_guarded : MethodName := ⟨R_X, "guarded", "()Z"⟩
theorem nd_X_guarded : y_X_guarded.cls ≠ "java/lang/invoke/MethodHandle" ∧ y_X_guarded.cls ≠ "java/lang/invoke/VarHandle" ∧ (parseMethodDescriptor y_X_guarded.desc).map (fun d => d.parameters.length) = some 0 := by decide +kernel
theorem nv_X_guarded : y_X_guarded.cls = R_X ∧ y_X_guarded.cls ≠ "java/lang/invoke/MethodHandle" ∧ y_X_guarded.cls ≠ "java/lang/invoke/VarHandle" ∧ (parseMethodDescriptor y_X_guarded.desc).map (fun d => d.parameters.length) = some 0 := ⟨rfl, nd_X_guarded⟩
abbrev b_X_may : ByteArray := prog_8_method_11_code
def y_X_may : MethodName := ⟨R_X, "may", "(IZ)Z"⟩
theorem nd_X_may : y_X_may.cls ≠ "java/lang/invoke/MethodHandle" ∧ y_X_may.cls ≠ "java/lang/invoke/VarHandle" ∧ (parseMethodDescriptor y_X_may.desc).map (fun d => d.parameters.length) = some 2 := by decide +kernel
theorem nv_X_may : y_X_may.cls = R_X ∧ y_X_may.cls ≠ "java/lang/invoke/MethodHandle" ∧ y_X_may.cls ≠ "java/lang/invoke/VarHandle" ∧ (parseMethodDescriptor y_X_may.desc).map (fun d => d.parameters.length) = some 2 := ⟨rfl, nd_X_may⟩
abbrev b_X_reckon : ByteArray := prog_8_method_12_code
def y_X_reckon : MethodName := ⟨R_X, "reckon", "(IIIII)V"⟩
theorem nd_X_reckon : y_X_reckon.cls ≠ "java/lang/invoke/MethodHandle" ∧ y_X_reckon.cls ≠ "java/lang/invoke/VarHandle" ∧ (parseMethodDescriptor y_X_reckon.desc).map (fun d => d.parameters.length) = some 5 := by decide +kernel
theorem nv_X_reckon : y_X_reckon.cls = R_X ∧ y_X_reckon.cls ≠ "java/lang/invoke/MethodHandle" ∧ y_X_reckon.cls ≠ "java/lang/invoke/VarHandle" ∧ (parseMethodDescriptor y_X_reckon.desc).map (fun d => d.parameters.length) = some 5 := ⟨rfl, nd_X_reckon⟩
abbrev b_X_move : ByteArray := prog_8_method_13_code
def y_X_move : MethodName := ⟨R_X, "move", "(IIII)V"⟩
theorem nd_X_move : y_X_move.cls ≠ "java/lang/invoke/MethodHandle" ∧ y_X_move.cls ≠ "java/lang/invoke/VarHandle" ∧ (parseMethodDescriptor y_X_move.desc).map (fun d => d.parameters.length) = some 4 := by decide +kernel
theorem nv_X_move : y_X_move.cls = R_X ∧ y_X_move.cls ≠ "java/lang/invoke/MethodHandle" ∧ y_X_move.cls ≠ "java/lang/invoke/VarHandle" ∧ (parseMethodDescriptor y_X_move.desc).map (fun d => d.parameters.length) = some 4 := ⟨rfl, nd_X_move⟩
abbrev b_X_jump : ByteArray := prog_8_method_16_code
def y_X_jump : MethodName := ⟨R_X, "jump", "(IIIII)I"⟩
theorem nd_X_jump : y_X_jump.cls ≠ "java/lang/invoke/MethodHandle" ∧ y_X_jump.cls ≠ "java/lang/invoke/VarHandle" ∧ (parseMethodDescriptor y_X_jump.desc).map (fun d => d.parameters.length) = some 5 := by decide +kernel
abbrev b_X_context : ByteArray := prog_8_method_14_code
def y_X_context : MethodName := ⟨R_X, "context", "(II)I"⟩
theorem nd_X_context : y_X_context.cls ≠ "java/lang/invoke/MethodHandle" ∧ y_X_context.cls ≠ "java/lang/invoke/VarHandle" ∧ (parseMethodDescriptor y_X_context.desc).map (fun d => d.parameters.length) = some 2 := by decide +kernel
theorem nv_X_context : y_X_context.cls = R_X ∧ y_X_context.cls ≠ "java/lang/invoke/MethodHandle" ∧ y_X_context.cls ≠ "java/lang/invoke/VarHandle" ∧ (parseMethodDescriptor y_X_context.desc).map (fun d => d.parameters.length) = some 2 := ⟨rfl, nd_X_context⟩
abbrev b_X_system : ByteArray := prog_8_method_15_code
def y_X_system : MethodName := ⟨R_X, "system", "(II)V"⟩
theorem nd_X_system : y_X_system.cls ≠ "java/lang/invoke/MethodHandle" ∧ y_X_system.cls ≠ "java/lang/invoke/VarHandle" ∧ (parseMethodDescriptor y_X_system.desc).map (fun d => d.parameters.length) = some 2 := by decide +kernel
theorem nv_X_system : y_X_system.cls = R_X ∧ y_X_system.cls ≠ "java/lang/invoke/MethodHandle" ∧ y_X_system.cls ≠ "java/lang/invoke/VarHandle" ∧ (parseMethodDescriptor y_X_system.desc).map (fun d => d.parameters.length) = some 2 := ⟨rfl, nd_X_system⟩
abbrev b_X_instruction : ByteArray := prog_8_method_17_code
def y_X_instruction : MethodName := ⟨R_X, "instruction", "(I)V"⟩
theorem nd_X_instruction : y_X_instruction.cls ≠ "java/lang/invoke/MethodHandle" ∧ y_X_instruction.cls ≠ "java/lang/invoke/VarHandle" ∧ (parseMethodDescriptor y_X_instruction.desc).map (fun d => d.parameters.length) = some 1 := by decide +kernel
theorem nv_X_instruction : y_X_instruction.cls = R_X ∧ y_X_instruction.cls ≠ "java/lang/invoke/MethodHandle" ∧ y_X_instruction.cls ≠ "java/lang/invoke/VarHandle" ∧ (parseMethodDescriptor y_X_instruction.desc).map (fun d => d.parameters.length) = some 1 := ⟨rfl, nd_X_instruction⟩
abbrev b_X_step : ByteArray := prog_8_method_18_code
def y_X_step : MethodName := ⟨R_X, "step", "()V"⟩
theorem nd_X_step : y_X_step.cls ≠ "java/lang/invoke/MethodHandle" ∧ y_X_step.cls ≠ "java/lang/invoke/VarHandle" ∧ (parseMethodDescriptor y_X_step.desc).map (fun d => d.parameters.length) = some 0 := by decide +kernel
theorem nv_X_step : y_X_step.cls = R_X ∧ y_X_step.cls ≠ "java/lang/invoke/MethodHandle" ∧ y_X_step.cls ≠ "java/lang/invoke/VarHandle" ∧ (parseMethodDescriptor y_X_step.desc).map (fun d => d.parameters.length) = some 0 := ⟨rfl, nd_X_step⟩
abbrev b_X_put : ByteArray := prog_8_method_19_code
def y_X_put : MethodName := ⟨R_X, "put", "(II)Z"⟩
theorem nd_X_put : y_X_put.cls ≠ "java/lang/invoke/MethodHandle" ∧ y_X_put.cls ≠ "java/lang/invoke/VarHandle" ∧ (parseMethodDescriptor y_X_put.desc).map (fun d => d.parameters.length) = some 2 := by decide +kernel
theorem nv_X_put : y_X_put.cls = R_X ∧ y_X_put.cls ≠ "java/lang/invoke/MethodHandle" ∧ y_X_put.cls ≠ "java/lang/invoke/VarHandle" ∧ (parseMethodDescriptor y_X_put.desc).map (fun d => d.parameters.length) = some 2 := ⟨rfl, nd_X_put⟩
abbrev b_X_pool : ByteArray := prog_8_method_20_code
def y_X_pool : MethodName := ⟨R_X, "pool", "(II)V"⟩
theorem nd_X_pool : y_X_pool.cls ≠ "java/lang/invoke/MethodHandle" ∧ y_X_pool.cls ≠ "java/lang/invoke/VarHandle" ∧ (parseMethodDescriptor y_X_pool.desc).map (fun d => d.parameters.length) = some 2 := by decide +kernel
theorem nv_X_pool : y_X_pool.cls = R_X ∧ y_X_pool.cls ≠ "java/lang/invoke/MethodHandle" ∧ y_X_pool.cls ≠ "java/lang/invoke/VarHandle" ∧ (parseMethodDescriptor y_X_pool.desc).map (fun d => d.parameters.length) = some 2 := ⟨rfl, nd_X_pool⟩
abbrev b_X_tables : ByteArray := prog_8_method_21_code
def y_X_tables : MethodName := ⟨R_X, "tables", "(II)V"⟩
theorem nd_X_tables : y_X_tables.cls ≠ "java/lang/invoke/MethodHandle" ∧ y_X_tables.cls ≠ "java/lang/invoke/VarHandle" ∧ (parseMethodDescriptor y_X_tables.desc).map (fun d => d.parameters.length) = some 2 := by decide +kernel
theorem nv_X_tables : y_X_tables.cls = R_X ∧ y_X_tables.cls ≠ "java/lang/invoke/MethodHandle" ∧ y_X_tables.cls ≠ "java/lang/invoke/VarHandle" ∧ (parseMethodDescriptor y_X_tables.desc).map (fun d => d.parameters.length) = some 2 := ⟨rfl, nd_X_tables⟩
abbrev b_X_range : ByteArray := prog_8_method_22_code
def y_X_range : MethodName := ⟨R_X, "range", "(IIIII)V"⟩
theorem nd_X_range : y_X_range.cls ≠ "java/lang/invoke/MethodHandle" ∧ y_X_range.cls ≠ "java/lang/invoke/VarHandle" ∧ (parseMethodDescriptor y_X_range.desc).map (fun d => d.parameters.length) = some 5 := by decide +kernel
theorem nv_X_range : y_X_range.cls = R_X ∧ y_X_range.cls ≠ "java/lang/invoke/MethodHandle" ∧ y_X_range.cls ≠ "java/lang/invoke/VarHandle" ∧ (parseMethodDescriptor y_X_range.desc).map (fun d => d.parameters.length) = some 5 := ⟨rfl, nd_X_range⟩
abbrev b_X_guard : ByteArray := prog_8_method_23_code
def y_X_guard : MethodName := ⟨R_X, "guard", "(Z)V"⟩
theorem nd_X_guard : y_X_guard.cls ≠ "java/lang/invoke/MethodHandle" ∧ y_X_guard.cls ≠ "java/lang/invoke/VarHandle" ∧ (parseMethodDescriptor y_X_guard.desc).map (fun d => d.parameters.length) = some 1 := by decide +kernel
theorem nv_X_guard : y_X_guard.cls = R_X ∧ y_X_guard.cls ≠ "java/lang/invoke/MethodHandle" ∧ y_X_guard.cls ≠ "java/lang/invoke/VarHandle" ∧ (parseMethodDescriptor y_X_guard.desc).map (fun d => d.parameters.length) = some 1 := ⟨rfl, nd_X_guard⟩
abbrev b_X_timer : ByteArray := prog_8_method_24_code
def y_X_timer : MethodName := ⟨R_X, "timer", "(II)V"⟩
theorem nd_X_timer : y_X_timer.cls ≠ "java/lang/invoke/MethodHandle" ∧ y_X_timer.cls ≠ "java/lang/invoke/VarHandle" ∧ (parseMethodDescriptor y_X_timer.desc).map (fun d => d.parameters.length) = some 2 := by decide +kernel
theorem nv_X_timer : y_X_timer.cls = R_X ∧ y_X_timer.cls ≠ "java/lang/invoke/MethodHandle" ∧ y_X_timer.cls ≠ "java/lang/invoke/VarHandle" ∧ (parseMethodDescriptor y_X_timer.desc).map (fun d => d.parameters.length) = some 2 := ⟨rfl, nd_X_timer⟩
abbrev b_X_request : ByteArray := prog_8_method_25_code
def y_X_request : MethodName := ⟨R_X, "request", "(I)Z"⟩
theorem nd_X_request : y_X_request.cls ≠ "java/lang/invoke/MethodHandle" ∧ y_X_request.cls ≠ "java/lang/invoke/VarHandle" ∧ (parseMethodDescriptor y_X_request.desc).map (fun d => d.parameters.length) = some 1 := by decide +kernel
theorem nv_X_request : y_X_request.cls = R_X ∧ y_X_request.cls ≠ "java/lang/invoke/MethodHandle" ∧ y_X_request.cls ≠ "java/lang/invoke/VarHandle" ∧ (parseMethodDescriptor y_X_request.desc).map (fun d => d.parameters.length) = some 1 := ⟨rfl, nd_X_request⟩
abbrev b_X_start : ByteArray := prog_8_method_26_code
def y_X_start : MethodName := ⟨R_X, "start", "(IIZ)V"⟩
theorem nd_X_start : y_X_start.cls ≠ "java/lang/invoke/MethodHandle" ∧ y_X_start.cls ≠ "java/lang/invoke/VarHandle" ∧ (parseMethodDescriptor y_X_start.desc).map (fun d => d.parameters.length) = some 3 := by decide +kernel
theorem nv_X_start : y_X_start.cls = R_X ∧ y_X_start.cls ≠ "java/lang/invoke/MethodHandle" ∧ y_X_start.cls ≠ "java/lang/invoke/VarHandle" ∧ (parseMethodDescriptor y_X_start.desc).map (fun d => d.parameters.length) = some 3 := ⟨rfl, nd_X_start⟩
abbrev b_X_halt : ByteArray := prog_8_method_27_code
def y_X_halt : MethodName := ⟨R_X, "halt", "()Z"⟩
theorem nd_X_halt : y_X_halt.cls ≠ "java/lang/invoke/MethodHandle" ∧ y_X_halt.cls ≠ "java/lang/invoke/VarHandle" ∧ (parseMethodDescriptor y_X_halt.desc).map (fun d => d.parameters.length) = some 0 := by decide +kernel
theorem nv_X_halt : y_X_halt.cls = R_X ∧ y_X_halt.cls ≠ "java/lang/invoke/MethodHandle" ∧ y_X_halt.cls ≠ "java/lang/invoke/VarHandle" ∧ (parseMethodDescriptor y_X_halt.desc).map (fun d => d.parameters.length) = some 0 := ⟨rfl, nd_X_halt⟩
abbrev b_X_run : ByteArray := prog_8_method_28_code
def y_X_run : MethodName := ⟨R_X, "run", "(I)I"⟩
theorem nd_X_run : y_X_run.cls ≠ "java/lang/invoke/MethodHandle" ∧ y_X_run.cls ≠ "java/lang/invoke/VarHandle" ∧ (parseMethodDescriptor y_X_run.desc).map (fun d => d.parameters.length) = some 1 := by decide +kernel
theorem nv_X_run : y_X_run.cls = R_X ∧ y_X_run.cls ≠ "java/lang/invoke/MethodHandle" ∧ y_X_run.cls ≠ "java/lang/invoke/VarHandle" ∧ (parseMethodDescriptor y_X_run.desc).map (fun d => d.parameters.length) = some 1 := ⟨rfl, nd_X_run⟩
abbrev b_X_register : ByteArray := prog_8_method_29_code
def y_X_register : MethodName := ⟨R_X, "register", "(II)I"⟩
theorem nd_X_register : y_X_register.cls ≠ "java/lang/invoke/MethodHandle" ∧ y_X_register.cls ≠ "java/lang/invoke/VarHandle" ∧ (parseMethodDescriptor y_X_register.desc).map (fun d => d.parameters.length) = some 2 := by decide +kernel
theorem nv_X_register : y_X_register.cls = R_X ∧ y_X_register.cls ≠ "java/lang/invoke/MethodHandle" ∧ y_X_register.cls ≠ "java/lang/invoke/VarHandle" ∧ (parseMethodDescriptor y_X_register.desc).map (fun d => d.parameters.length) = some 2 := ⟨rfl, nd_X_register⟩
abbrev b_X_word : ByteArray := prog_8_method_30_code
def y_X_word : MethodName := ⟨R_X, "word", "(I)I"⟩
theorem nd_X_word : y_X_word.cls ≠ "java/lang/invoke/MethodHandle" ∧ y_X_word.cls ≠ "java/lang/invoke/VarHandle" ∧ (parseMethodDescriptor y_X_word.desc).map (fun d => d.parameters.length) = some 1 := by decide +kernel
theorem nv_X_word : y_X_word.cls = R_X ∧ y_X_word.cls ≠ "java/lang/invoke/MethodHandle" ∧ y_X_word.cls ≠ "java/lang/invoke/VarHandle" ∧ (parseMethodDescriptor y_X_word.desc).map (fun d => d.parameters.length) = some 1 := ⟨rfl, nd_X_word⟩
abbrev b_X_look : ByteArray := prog_8_method_31_code
def y_X_look : MethodName := ⟨R_X, "look", "(I)I"⟩
theorem nd_X_look : y_X_look.cls ≠ "java/lang/invoke/MethodHandle" ∧ y_X_look.cls ≠ "java/lang/invoke/VarHandle" ∧ (parseMethodDescriptor y_X_look.desc).map (fun d => d.parameters.length) = some 1 := by decide +kernel
theorem nv_X_look : y_X_look.cls = R_X ∧ y_X_look.cls ≠ "java/lang/invoke/MethodHandle" ∧ y_X_look.cls ≠ "java/lang/invoke/VarHandle" ∧ (parseMethodDescriptor y_X_look.desc).map (fun d => d.parameters.length) = some 1 := ⟨rfl, nd_X_look⟩
abbrev b_X_list : ByteArray := prog_8_method_32_code
def y_X_list : MethodName := ⟨R_X, "list", "(I)I"⟩
theorem nd_X_list : y_X_list.cls ≠ "java/lang/invoke/MethodHandle" ∧ y_X_list.cls ≠ "java/lang/invoke/VarHandle" ∧ (parseMethodDescriptor y_X_list.desc).map (fun d => d.parameters.length) = some 1 := by decide +kernel
theorem nv_X_list : y_X_list.cls = R_X ∧ y_X_list.cls ≠ "java/lang/invoke/MethodHandle" ∧ y_X_list.cls ≠ "java/lang/invoke/VarHandle" ∧ (parseMethodDescriptor y_X_list.desc).map (fun d => d.parameters.length) = some 1 := ⟨rfl, nd_X_list⟩
end
section
/-! wrappers over the kit's rows: a method's start and end, an instruction of the heap, a call, each as one row -/
abbrev ix (i : Int32) : Nat := i.toNatClampNeg
abbrev ushr (x y : Int32) : Int32 := (x.toUInt32 >>> (y.toUInt32 &&& Int32.toUInt32 31)).toInt32
theorem zz_map {α β : Type} {f : α → Option β} : ∀ {is : List α} {l : List β}, is.map f = l.map some → is.filterMap f = l := by
  intro is
  induction is with
  | nil => intro l h; cases l with
    | nil => rfl
    | cons a t => cases h
  | cons i is ih =>
    intro l h
    cases l with
    | nil => cases h
    | cons a t =>
      simp only [List.map_cons, List.cons.injEq] at h
      rw [List.filterMap_cons_some h.1, ih h.2]
abbrev zP (D : va_G) (cl : List vw_C) (tys : List (ClassId × FieldType)) (w : va_W) (sz : Nat) (av : List Value) : Array Value → State → Prop := va_Pc av (fun U => U.heap.size = sz ∧ va_P D cl w U.heap ∧ va_K D cl tys U ∧ va_D (fun _ => True) w)
abbrev zQi (D : va_G) (cl : List vw_C) (tys : List (ClassId × FieldType)) (w w1 : va_W) (sz : Nat) (rv : Int32) : Array Value → State → Outcome → State → Prop := va_Qi (fun v (_ : Unit) => v = rv) (fun _ t => va_P D cl w1 t.heap ∧ va_K D cl tys t ∧ va_D (va_A w sz) w1) (va_A w sz)
abbrev zQv (D : va_G) (cl : List vw_C) (tys : List (ClassId × FieldType)) (w w1 : va_W) (sz : Nat) : Array Value → State → Outcome → State → Prop := va_Qv (fun (_ : Unit) => True) (fun _ t => va_P D cl w1 t.heap ∧ va_K D cl tys t ∧ va_D (va_A w sz) w1) (va_A w sz)
/-- a contract of a method that makes nothing and answers rv; the world w becomes w1 -/
abbrev zMi (l : Launch) (y : MethodName) (ws : List Cond) (rm : Room) (D : va_G) (cl : List vw_C) (tys : List (ClassId × FieldType)) (av : List Value) (w w1 : va_W) (sz : Nat) (rv : Int32) : Prop := Met l y ws rm (zP D cl tys w sz av) (zQi D cl tys w w1 sz rv) 0 0 (va_A w sz)
abbrev zMv (l : Launch) (y : MethodName) (ws : List Cond) (rm : Room) (D : va_G) (cl : List vw_C) (tys : List (ClassId × FieldType)) (av : List Value) (w w1 : va_W) (sz : Nat) : Prop := Met l y ws rm (zP D cl tys w sz av) (zQv D cl tys w w1 sz) 0 0 (va_A w sz)
theorem zP_blind {D : va_G} {cl : List vw_C} {tys : List (ClassId × FieldType)} {w : va_W} {sz : Nat} {av : List Value} : FrameBlind (zP D cl tys w sz av) := fun a U g mk q => by
  obtain ⟨q0, q1, qP, qK, qD⟩ := q
  exact ⟨q0, q1, qP, va_K.moved (u := U) (U := U.calling g mk a) (Vm.Alike.refl U.vm) qK, qD⟩
theorem met_i {l : Launch} {y : MethodName} {cc : ByteArray} {maxL : Nat} {ty : FieldType} {rm : Room} {D : va_G} {cl : List vw_C} {tys : List (ClassId × FieldType)} {av : List Value} {w w1 : va_W} {sz : Nat} {rv : Int32} {Wd : List Cond}
    (hy : plainName y.cls = true) (hlen : (lg_sl av).length ≤ maxL) (hn : narrow ty (.int rv) = .int rv)
    (body : ∀ (p : Program) (e : Env) (s : State) (m : MethodId) (args : Array Value) (below : List Frame) (meth : Method) (c : Code) (A : Nat → Prop) (Q : State → Prop) (ls : Array Slot), p.tables.exec = Jvm.exec → c.code = cc → c.maxLocals = maxL → s.vm.findClass y.cls = some m.cls → (∀ w ∈ Wd, w.before args s = true) → va_K D cl tys s → va_P D cl w s.heap → va_D A w → va_S A s.heap s.heap [] → (∀ q : Nat, s.heap.size ≤ q → A q) → lv_has ls maxL (lv_args 0 av) →
      (∀ (H : Heap) (locs : List Loc) (pc : Nat) (ls : Array Slot), va_P D cl w1 H → va_D A w1 → va_S A s.heap H locs → decode cc pc = .ok (.ireturn, 1) → W p l e rm s m args below meth c H locs 0 0 Q (F0 m pc ls [.int rv])) →
      W p l e rm s m args below meth c s.heap [] 0 0 Q (F0 m 0 ls [])) :
    zMi l y (.code y cc maxL (some ty) :: Wd) rm D cl tys av w w1 sz rv := by
  refine Met.ofW (cc := cc) (maxL := maxL) (ret := some ty) hy rfl ?_
  intro p e s m args below meth c s₁ B hml hv
  obtain ⟨rfl, hsz, hP, hK, hD0⟩ := hv
  have hts := atoms_spec (ws := .code y cc maxL (some ty) :: Wd) B.pre
  subst hsz
  have hD := hD0.self (sz := s.heap.size)
  rw [lg_entry_eq]
  refine body p e s m _ below meth c (va_A w s.heap.size) _ _ B.exec B.bytes hml (findClass_of_methodNamed B.named) (fun w h => hts w (List.mem_cons_of_mem _ h)) hK hP hD va_S.rf (fun q h => Or.inr h) (lv_entry av hlen) ?_
  intro H locs pc ls hP1 hD1 hS1 hd
  exact W.zret B.exec B.bytes B.returns hn (fun t ht hW => ⟨⟨rv, (), rfl, rfl, by rw [ht]; exact hP1, va_K.moved hW.alike hK, hD1⟩, hS1.F ht⟩) hS1.2.2 hd B.notSynchronized
theorem met_v {l : Launch} {y : MethodName} {cc : ByteArray} {maxL : Nat} {rm : Room} {D : va_G} {cl : List vw_C} {tys : List (ClassId × FieldType)} {av : List Value} {w w1 : va_W} {sz : Nat} {Wd : List Cond}
    (hy : plainName y.cls = true) (hlen : (lg_sl av).length ≤ maxL)
    (body : ∀ (p : Program) (e : Env) (s : State) (m : MethodId) (args : Array Value) (below : List Frame) (meth : Method) (c : Code) (A : Nat → Prop) (Q : State → Prop) (ls : Array Slot), p.tables.exec = Jvm.exec → c.code = cc → c.maxLocals = maxL → s.vm.findClass y.cls = some m.cls → (∀ w ∈ Wd, w.before args s = true) → va_K D cl tys s → va_P D cl w s.heap → va_D A w → va_S A s.heap s.heap [] → (∀ q : Nat, s.heap.size ≤ q → A q) → lv_has ls maxL (lv_args 0 av) →
      (∀ (H : Heap) (locs : List Loc) (pc : Nat) (ls : Array Slot), va_P D cl w1 H → va_D A w1 → va_S A s.heap H locs → decode cc pc = .ok (.return_, 1) → W p l e rm s m args below meth c H locs 0 0 Q (F0 m pc ls [])) →
      W p l e rm s m args below meth c s.heap [] 0 0 Q (F0 m 0 ls [])) :
    zMv l y (.code y cc maxL none :: Wd) rm D cl tys av w w1 sz := by
  refine Met.ofW (cc := cc) (maxL := maxL) (ret := none) hy rfl ?_
  intro p e s m args below meth c s₁ B hml hv
  obtain ⟨rfl, hsz, hP, hK, hD0⟩ := hv
  have hts := atoms_spec (ws := .code y cc maxL none :: Wd) B.pre
  subst hsz
  have hD := hD0.self (sz := s.heap.size)
  rw [lg_entry_eq]
  refine body p e s m _ below meth c (va_A w s.heap.size) _ _ B.exec B.bytes hml (findClass_of_methodNamed B.named) (fun w h => hts w (List.mem_cons_of_mem _ h)) hK hP hD va_S.rf (fun q h => Or.inr h) (lv_entry av hlen) ?_
  intro H locs pc ls hP1 hD1 hS1 hd
  exact W.vret B.exec B.bytes B.returns (fun t ht hW => ⟨⟨(), rfl, trivial, by rw [ht]; exact hP1, va_K.moved hW.alike hK, hD1⟩, hS1.F ht⟩) hS1.2.2 hd B.notSynchronized
/-! words: a callee's among the caller's -/
theorem zz_goodV {Wd : List Cond} (hg : Wd.all goodWord = true) {own C : String} {idx : Nat} {y : MethodName} {cc : ByteArray} {maxL : Nat} {ret : Option FieldType} (h1 : Cond.methodLink own idx y ∈ Wd) (h2 : Cond.instanceMethod y ∈ Wd) (h3 : Cond.selects C y y ∈ Wd) (h4 : Cond.initialized C ∈ Wd) (h5 : Cond.code y cc maxL ret ∈ Wd) : GoodIn Wd (wsV own idx C y (.code y cc maxL ret :: Wd)) := by
  have ok : ∀ w ∈ Wd, w ∈ Wd ∧ ((w.onTables && w.keeps) = true ∨ ∃ ty, w = .arrayClass ty) := fun w h => ⟨h, good_of_word (List.all_eq_true.mp hg w h)⟩
  intro w hw
  unfold wsV at hw
  rcases List.mem_append.mp hw with h | h
  · simp only [List.mem_cons, List.not_mem_nil, or_false] at h
    rcases h with rfl | rfl | rfl | rfl
    · exact ok _ h1
    · exact ok _ h2
    · exact ok _ h3
    · exact ok _ h4
  · rcases List.mem_cons.mp h with rfl | h
    · exact ok _ h5
    · exact ok _ h
theorem zz_goodS {Wd : List Cond} (hg : Wd.all goodWord = true) {own : String} {idx : Nat} {y : MethodName} {cc : ByteArray} {maxL : Nat} {ret : Option FieldType} (h1 : Cond.methodLink own idx y ∈ Wd) (h2 : Cond.static y ∈ Wd) (h4 : Cond.initialized y.cls ∈ Wd) (h5 : Cond.code y cc maxL ret ∈ Wd) : GoodIn Wd (va_wsS own idx y (.code y cc maxL ret :: Wd)) := by
  have ok : ∀ w ∈ Wd, w ∈ Wd ∧ ((w.onTables && w.keeps) = true ∨ ∃ ty, w = .arrayClass ty) := fun w h => ⟨h, good_of_word (List.all_eq_true.mp hg w h)⟩
  intro w hw
  unfold va_wsS at hw
  rcases List.mem_append.mp hw with h | h
  · simp only [List.mem_cons, List.not_mem_nil, or_false] at h
    rcases h with rfl | rfl | rfl
    · exact ok _ h1
    · exact ok _ h2
    · exact ok _ h4
  · rcases List.mem_cons.mp h with rfl | h
    · exact ok _ h5
    · exact ok _ h
section ZK
variable {p : Program} {l : Launch} {e : Env} {R : Room} {s : State} {m : MethodId} {args : Array Value} {below : List Frame} {meth : Method} {c : Code} {H : Heap} {locs : List Loc} {cells slots : Nat} {Q : State → Prop}
variable {cc bytes : ByteArray} {pc nL maxL n index : Nat} {ls : Array Slot} {rest st0 As : List Value} {D : va_G} {cl : List vw_C} {A : Nat → Prop} {a b : Nat} {tys tys' : List (ClassId × FieldType)} {w w' wc wr w1 : va_W} {H0 : Heap} {own C : String} {y : MethodName} {ret : Option FieldType} {Wd : List Cond} {rm : Room} {rv : Int32}
/-- getfield, the declaring class named -/
theorem zz_get (hexec : p.tables.exec = Jvm.exec) (hb : c.code = cc) {T : u_T} {N ci index : Nat} (hts : ∀ w ∈ Wd, w.before args s = true) (hin : ∀ x ∈ u_ws C T N, x ∈ Wd) (hown : s.vm.findClass own = some m.cls) (hK : va_K D cl tys s) (hP : va_P D cl w H) (q0 : Nat) {fs : List Value} (he : w[q0]? = some (a, .inr (ci, fs))) (hc : cl[ci]? = some (C, T, N)) (k : Nat) (hk : k < N) (hlink : Cond.fieldLink own index (T k).1 (T k).2.1 (T k).2.2.1 ∈ Wd) {v : Value} (hv : fs[k]? = some v) (hdg : decode cc pc = .ok (.getfield index, 3))
    (kk : W p l e R s m args below meth c H locs cells slots Q (F0 m (pc + 3) ls (v :: rest))) : W p l e R s m args below meth c H locs cells slots Q (F0 m pc ls (.ref a :: rest)) :=
  va_get hexec hb hts hin hown hK hP q0 he hc k hk (hts _ hlink) (fun _ h => h) hv hdg kk
/-- putfield -/
theorem zz_put (hexec : p.tables.exec = Jvm.exec) (hb : c.code = cc) {T : u_T} {N ci index : Nat} (hts : ∀ w ∈ Wd, w.before args s = true) (hin : ∀ x ∈ u_ws C T N, x ∈ Wd) (ty0 : Nat → FieldType) (hty : ∀ k, k < N → parseFieldDescriptor (T k).2.2.1 = some (ty0 k)) (hnm : ∀ a, a < N → ∀ b, b < N → a ≠ b → (T a).2.1 ≠ (T b).2.1) (hown : s.vm.findClass own = some m.cls) (hK : va_K D cl tys s) (hP : va_P D cl w H) (hD : va_D A w) (hS : va_S A H0 H locs) (q0 : Nat) {fs : List Value} (he : w[q0]? = some (a, .inr (ci, fs))) (hc : cl[ci]? = some (C, T, N)) (k : Nat) (hk : k < N) (hlink : Cond.fieldLink own index (T k).1 (T k).2.1 (T k).2.2.1 ∈ Wd) (hfin : (T k).2.2.2 = false) {v : Value} (hn : narrow (ty0 k) v = v) (hfit : fits (ty0 k) v = true) (hl : k < fs.length) (hdg : decode cc pc = .ok (.putfield index, 3)) (hw : w.set q0 (a, .inr (ci, fs.set k v)) = w')
    (kk : ∀ (H1 : Heap) (locs1 : List Loc), va_P D cl w' H1 → va_D A w' → va_S A H0 H1 locs1 → W p l e R s m args below meth c H1 locs1 cells slots Q (F0 m (pc + 3) ls rest)) : W p l e R s m args below meth c H locs cells slots Q (F0 m pc ls (v :: .ref a :: rest)) := by
  subst hw
  exact va_put hexec hb hts hin ty0 hty hnm hown hK hP hD hS q0 he hc k hk (hts _ hlink) (fun _ h => h) hfin (hty k hk) hn hfit hl hdg kk
/-- iastore -/
theorem zz_iast (hexec : p.tables.exec = Jvm.exec) (hb : c.code = cc) (hK : va_K D cl tys s) (hP : va_P D cl w H) (hD : va_D A w) (hS : va_S A H0 H locs) (q0 t0 : Nat) {cA : ClassId} {n : Nat} {f : Nat → Int32} (ha : w[q0]? = some (a, .inl (cA, n, .inl f))) (ht : tys[t0]? = some (cA, .int)) {i x : Int32} (hin : vp_in i n) (hdg : decode cc pc = .ok (.iastore, 1)) (hw : w.set q0 (a, .inl (cA, n, .inl (upd f (ix i) x))) = w')
    (kk : ∀ (H1 : Heap) (locs1 : List Loc), va_P D cl w' H1 → va_D A w' → va_S A H0 H1 locs1 → W p l e R s m args below meth c H1 locs1 cells slots Q (F0 m (pc + 1) ls rest)) : W p l e R s m args below meth c H locs cells slots Q (F0 m pc ls (.int x :: .int i :: .ref a :: rest)) := by
  subst hw
  exact va_iast hexec hb hK hP hD hS q0 t0 ha ht hin hdg kk
/-- behind a call that leaves the callee's cells as they were, all is as it was -/
theorem zz_same {H1 : Heap} (hP : va_P D cl w H) (hD : va_D A w) (isC : List Nat) (hC : isC.map (fun i => w[i]?) = wc.map some) (hk : ∀ q : Nat, q < H.size → ¬ va_A wc H.size q → H1[q]? = H[q]?) (hP1 : va_P D cl wc H1) : va_P D cl w H1 := by
  intro k q hq
  have hl := (hP k q hq).lt
  by_cases ha : va_A wc H.size q.1
  · rcases ha with ⟨k2, e2, h2⟩ | h2
    · have h1 : (isC.map (fun i => w[i]?))[k2]? = some (some (q.1, e2)) := by rw [hC, List.getElem?_map, h2]; rfl
      rw [List.getElem?_map] at h1
      cases hi : isC[k2]? with
      | none => rw [hi] at h1; cases h1
      | some i =>
        rw [hi] at h1
        have h3 : w[i]? = some (q.1, e2) := Option.some.inj h1
        have h4 := hD.1 k i q (q.1, e2) hq h3 rfl
        subst h4
        rw [hq] at h3
        have h5 : q = (q.1, e2) := Option.some.inj h3
        rw [h5]
        exact hP1 k2 _ h2
    · omega
  · exact (hP k q hq).kept (hk q.1 hl ha)
/-- a virtual call: an int comes back -/
theorem zz_cVi (S : CallFix p m c cc nL s args Wd own) (hM : zMi l y (.code y bytes maxL ret :: Wd) rm D cl tys' (.ref b :: As) wc w1 H.size rv) (hG : GoodIn Wd (wsV own index C y (.code y bytes maxL ret :: Wd))) (hd : y.cls = C ∧ y.cls ≠ "java/lang/invoke/MethodHandle" ∧ y.cls ≠ "java/lang/invoke/VarHandle" ∧ (parseMethodDescriptor y.desc).map (fun d => d.parameters.length) = some n) (hR : (rm.cells = 0 ∧ rm.slots = 0) ∧ rm.frames + 1 ≤ R.frames ∧ 8 + (maxL + 11) + rm.locals ≤ R.locals)
    (hK : va_K D cl tys s) (isK : List Nat) (hKs : isK.filterMap (fun i => tys[i]?) = tys') (hP : va_P D cl w H) (hD : va_D A w) (hS : va_S A H0 H locs) (hA : ∀ q, H0.size ≤ q → A q) (isC isR isW : List Nat) (hC : isC.map (fun i => w[i]?) = wc.map some) (hnC : va_nd isC = true) (hR2 : isR.map (fun i => w[i]?) = wr.map some) (hnR : va_nd isR = true) (hdis : ∀ i ∈ isR, i ∉ isC) (hWs : isW.map (fun i => (wr ++ w1)[i]?) = w'.map some) (hnW : va_nd isW = true)
    (q0 ci : Nat) {T : u_T} {N : Nat} {fs : List Value} (hcl : cl[ci]? = some (C, T, N)) (he : w[q0]? = some (b, .inr (ci, fs))) (hst : st0 = As.reverse ++ .ref b :: rest) (hn : As.length = n) (hsize : ls.size = nL) (hroom : (rest.map fun v => v.category).sum ≤ 8) (hdg : decode cc pc = .ok (.invokevirtual index, 3)) (hf : cells ≤ R.cells ∧ slots ≤ R.slots)
    (kk : ∀ (H1 : Heap) (locs1 : List Loc), va_P D cl w' H1 → va_D A w' → va_S A H0 H1 locs1 → W p l e R s m args below meth c H1 locs1 cells slots Q (F0 m (pc + 3) ls (.int rv :: rest))) : W p l e R s m args below meth c H locs cells slots Q (F0 m pc ls st0) := by
  have hFc := va_free (wc := wc) hD hS hA isC hC
  refine va_calli (va_runV (As := As) (rest := rest) S hM (cwV n S.2.2.2.2 hG rfl hR.1.1 hR.1.2 hd hR.2) ⟨zP_blind, va_recv hK hP hcl he, fun U hU hW => ⟨rfl, by rw [hU], by rw [hU]; exact hP.sub isC (zz_map hC), va_K.moved hW.alike (hK.sub isK hKs), (hD.sub isC hnC hC).weaken (fun _ _ _ _ => trivial)⟩⟩ rfl hn hsize hst (lv_room hroom) hdg hf) hS (fun q _ h => hFc q h) hFc (fun v u t H1 locs1 ht hvm hv hB hz1 hk1 hS1 => ?_)
  subst hv
  obtain ⟨hP1, hK1, hD1⟩ := hB
  rw [ht] at hP1
  obtain ⟨hP2, hD2⟩ := va_join hP hD isC isR hC hR2 hnR hdis hk1 hFc hP1 hD1
  exact kk H1 locs1 (hP2.sub isW (zz_map hWs)) (hD2.sub isW hnW hWs) hS1
theorem zz_cVv (S : CallFix p m c cc nL s args Wd own) (hM : zMv l y (.code y bytes maxL ret :: Wd) rm D cl tys' (.ref b :: As) wc w1 H.size) (hG : GoodIn Wd (wsV own index C y (.code y bytes maxL ret :: Wd))) (hd : y.cls = C ∧ y.cls ≠ "java/lang/invoke/MethodHandle" ∧ y.cls ≠ "java/lang/invoke/VarHandle" ∧ (parseMethodDescriptor y.desc).map (fun d => d.parameters.length) = some n) (hR : (rm.cells = 0 ∧ rm.slots = 0) ∧ rm.frames + 1 ≤ R.frames ∧ 8 + (maxL + 11) + rm.locals ≤ R.locals)
    (hK : va_K D cl tys s) (isK : List Nat) (hKs : isK.filterMap (fun i => tys[i]?) = tys') (hP : va_P D cl w H) (hD : va_D A w) (hS : va_S A H0 H locs) (hA : ∀ q, H0.size ≤ q → A q) (isC isR isW : List Nat) (hC : isC.map (fun i => w[i]?) = wc.map some) (hnC : va_nd isC = true) (hR2 : isR.map (fun i => w[i]?) = wr.map some) (hnR : va_nd isR = true) (hdis : ∀ i ∈ isR, i ∉ isC) (hWs : isW.map (fun i => (wr ++ w1)[i]?) = w'.map some) (hnW : va_nd isW = true)
    (q0 ci : Nat) {T : u_T} {N : Nat} {fs : List Value} (hcl : cl[ci]? = some (C, T, N)) (he : w[q0]? = some (b, .inr (ci, fs))) (hst : st0 = As.reverse ++ .ref b :: rest) (hn : As.length = n) (hsize : ls.size = nL) (hroom : (rest.map fun v => v.category).sum ≤ 8) (hdg : decode cc pc = .ok (.invokevirtual index, 3)) (hf : cells ≤ R.cells ∧ slots ≤ R.slots)
    (kk : ∀ (H1 : Heap) (locs1 : List Loc), va_P D cl w' H1 → va_D A w' → va_S A H0 H1 locs1 → W p l e R s m args below meth c H1 locs1 cells slots Q (F0 m (pc + 3) ls rest)) : W p l e R s m args below meth c H locs cells slots Q (F0 m pc ls st0) := by
  have hFc := va_free (wc := wc) hD hS hA isC hC
  refine va_callv (va_runV (As := As) (rest := rest) S hM (cwV n S.2.2.2.2 hG rfl hR.1.1 hR.1.2 hd hR.2) ⟨zP_blind, va_recv hK hP hcl he, fun U hU hW => ⟨rfl, by rw [hU], by rw [hU]; exact hP.sub isC (zz_map hC), va_K.moved hW.alike (hK.sub isK hKs), (hD.sub isC hnC hC).weaken (fun _ _ _ _ => trivial)⟩⟩ rfl hn hsize hst (lv_room hroom) hdg hf) hS (fun q _ h => hFc q h) hFc (fun u t H1 locs1 ht hvm hv hB hz1 hk1 hS1 => ?_)
  obtain ⟨hP1, hK1, hD1⟩ := hB
  rw [ht] at hP1
  obtain ⟨hP2, hD2⟩ := va_join hP hD isC isR hC hR2 hnR hdis hk1 hFc hP1 hD1
  exact kk H1 locs1 (hP2.sub isW (zz_map hWs)) (hD2.sub isW hnW hWs) hS1
/-- a virtual call that only reads -/
theorem zz_rVi (S : CallFix p m c cc nL s args Wd own) (hM : zMi l y (.code y bytes maxL ret :: Wd) rm D cl tys' (.ref b :: As) wc wc H.size rv) (hG : GoodIn Wd (wsV own index C y (.code y bytes maxL ret :: Wd))) (hd : y.cls = C ∧ y.cls ≠ "java/lang/invoke/MethodHandle" ∧ y.cls ≠ "java/lang/invoke/VarHandle" ∧ (parseMethodDescriptor y.desc).map (fun d => d.parameters.length) = some n) (hR : (rm.cells = 0 ∧ rm.slots = 0) ∧ rm.frames + 1 ≤ R.frames ∧ 8 + (maxL + 11) + rm.locals ≤ R.locals)
    (hK : va_K D cl tys s) (isK : List Nat) (hKs : isK.filterMap (fun i => tys[i]?) = tys') (hP : va_P D cl w H) (hD : va_D A w) (hS : va_S A H0 H locs) (hA : ∀ q, H0.size ≤ q → A q) (isC : List Nat) (hC : isC.map (fun i => w[i]?) = wc.map some) (hnC : va_nd isC = true)
    (q0 ci : Nat) {T : u_T} {N : Nat} {fs : List Value} (hcl : cl[ci]? = some (C, T, N)) (he : w[q0]? = some (b, .inr (ci, fs))) (hst : st0 = As.reverse ++ .ref b :: rest) (hn : As.length = n) (hsize : ls.size = nL) (hroom : (rest.map fun v => v.category).sum ≤ 8) (hdg : decode cc pc = .ok (.invokevirtual index, 3)) (hf : cells ≤ R.cells ∧ slots ≤ R.slots)
    (kk : ∀ (H1 : Heap) (locs1 : List Loc), va_P D cl w H1 → va_D A w → va_S A H0 H1 locs1 → W p l e R s m args below meth c H1 locs1 cells slots Q (F0 m (pc + 3) ls (.int rv :: rest))) : W p l e R s m args below meth c H locs cells slots Q (F0 m pc ls st0) := by
  have hFc := va_free (wc := wc) hD hS hA isC hC
  refine va_calli (va_runV (As := As) (rest := rest) S hM (cwV n S.2.2.2.2 hG rfl hR.1.1 hR.1.2 hd hR.2) ⟨zP_blind, va_recv hK hP hcl he, fun U hU hW => ⟨rfl, by rw [hU], by rw [hU]; exact hP.sub isC (zz_map hC), va_K.moved hW.alike (hK.sub isK hKs), (hD.sub isC hnC hC).weaken (fun _ _ _ _ => trivial)⟩⟩ rfl hn hsize hst (lv_room hroom) hdg hf) hS (fun q _ h => hFc q h) hFc (fun v u t H1 locs1 ht hvm hv hB hz1 hk1 hS1 => ?_)
  subst hv
  obtain ⟨hP1, hK1, hD1⟩ := hB
  rw [ht] at hP1
  exact kk H1 locs1 (zz_same hP hD isC hC hk1 hP1) hD hS1
/-- a static call of a pure function -/
theorem zz_cS0 (S : CallFix p m c cc nL s args Wd own) (hM : zMi l y (.code y bytes maxL ret :: Wd) rm D cl [] As [] [] H.size rv) (hG : GoodIn Wd (va_wsS own index y (.code y bytes maxL ret :: Wd))) (hd : y.cls ≠ "java/lang/invoke/MethodHandle" ∧ y.cls ≠ "java/lang/invoke/VarHandle" ∧ (parseMethodDescriptor y.desc).map (fun d => d.parameters.length) = some n) (hR : (rm.cells = 0 ∧ rm.slots = 0) ∧ rm.frames + 1 ≤ R.frames ∧ 8 + (maxL + 11) + rm.locals ≤ R.locals)
    (hK : va_K D cl tys s) (hP : va_P D cl w H) (hD : va_D A w) (hS : va_S A H0 H locs) (hA : ∀ q, H0.size ≤ q → A q)
    (hst : st0 = As.reverse ++ rest) (hn : As.length = n) (hsize : ls.size = nL) (hroom : (rest.map fun v => v.category).sum ≤ 8) (hdg : decode cc pc = .ok (.invokestatic index, 3)) (hf : cells ≤ R.cells ∧ slots ≤ R.slots)
    (kk : ∀ (H1 : Heap) (locs1 : List Loc), va_P D cl w H1 → va_D A w → va_S A H0 H1 locs1 → W p l e R s m args below meth c H1 locs1 cells slots Q (F0 m (pc + 3) ls (.int rv :: rest))) : W p l e R s m args below meth c H locs cells slots Q (F0 m pc ls st0) := by
  have hFc := va_free (wc := []) hD hS hA [] rfl
  refine va_calli (va_runS (As := As) (rest := rest) S hM (va_cwS n S.2.2.2.2 hG rfl hR.1.1 hR.1.2 hd hR.2) ⟨zP_blind, fun U hU hW => ⟨rfl, by rw [hU], by rw [hU]; exact hP.sub (ws' := []) [] rfl, va_K.moved hW.alike (hK.sub [] rfl), (hD.sub (ws' := []) [] rfl rfl).weaken (fun _ _ _ _ => trivial)⟩⟩ rfl hn hsize hst (lv_room hroom) hdg hf) hS (fun q _ h => hFc q h) hFc (fun v u t H1 locs1 ht hvm hv hB hz1 hk1 hS1 => ?_)
  subst hv
  obtain ⟨hP1, hK1, hD1⟩ := hB
  rw [ht] at hP1
  exact kk H1 locs1 (zz_same hP hD [] rfl hk1 hP1) hD hS1
end ZK
/-! numbers -/
theorem zz_nar {x : Int32} (h : x = 0 ∨ x = 1) : narrow .boolean (.int x) = .int x := by rcases h with rfl | rfl <;> rfl
theorem zz_ite {c : Prop} [Decidable c] : (if c then (1 : Int32) else 0) = 0 ∨ (if c then (1 : Int32) else 0) = 1 := by by_cases h : c <;> simp [h]
theorem zz_ite2 {c : Prop} [Decidable c] : (if c then (0 : Int32) else 1) = 0 ∨ (if c then (0 : Int32) else 1) = 1 := by by_cases h : c <;> simp [h]
theorem zz_in7 (x : Int32) : vp_in (x &&& 7) 8 := pk_andIn x 3 (by decide) (by decide)
theorem zz_out {x : Int32} {lo hi : Int} (h : ∀ k : Int, lo ≤ k → k ≤ hi → x.toInt ≠ k) : x.toInt < lo ∨ hi < x.toInt := by
  by_cases h1 : x.toInt < lo
  · exact Or.inl h1
  · by_cases h2 : hi < x.toInt
    · exact Or.inr h2
    · exact absurd rfl (h x.toInt (by omega) (by omega))
theorem zz_fit {x : Int32} (h : x = 0 ∨ x = 1) : fits .boolean (.int x) = true := by rcases h with rfl | rfl <;> rfl
theorem zz_inc {i : Int32} {n : Nat} (h : (decide (i < 0) || decide (n ≤ i.toNatClampNeg)) = false) : vp_in i n := by
  simp only [Bool.or_eq_false_iff, decide_eq_false_iff_not] at h
  exact fun q => q.elim h.1 h.2
theorem zz_toInt {x y : Int32} {k : Int} (h : x.toInt = k) (hk : y.toInt = k) : x = y := Int32.toInt_inj.mp (h.trans hk.symm)
theorem zz_ite3 {c d : Prop} [Decidable c] [Decidable d] : (if c then (if d then (1 : Int32) else 0) else 1) = 0 ∨ (if c then (if d then (1 : Int32) else 0) else 1) = 1 := by by_cases h : c <;> by_cases h2 : d <;> simp [h, h2]
end
section
theorem mw_0 : (Cond.fieldLink R_M 9 "AreaCore$Memory" "words" "[I") ∈ wd := mt_1 (List.mem_of_getElem? (i := 35) (by decide +kernel)) (by decide +kernel)
theorem mw_1 : (Cond.fieldLink R_R 18 "AreaCore$Registers" "level" "I") ∈ wd := mt_1 (List.mem_of_getElem? (i := 62) (by decide +kernel)) (by decide +kernel)
theorem mw_2 : (Cond.fieldLink R_R 22 "AreaCore$Registers" "set" "I") ∈ wd := mt_1 (List.mem_of_getElem? (i := 64) (by decide +kernel)) (by decide +kernel)
theorem mw_3 : (Cond.fieldLink R_R 25 "AreaCore$Registers" "depth" "I") ∈ wd := mt_1 (List.mem_of_getElem? (i := 66) (by decide +kernel)) (by decide +kernel)
theorem mw_4 : (Cond.fieldLink R_R 28 "AreaCore$Registers" "pc" "I") ∈ wd := mt_1 (List.mem_of_getElem? (i := 53) (by decide +kernel)) (by decide +kernel)
theorem mw_5 : (Cond.fieldLink R_R 31 "AreaCore$Registers" "priority" "I") ∈ wd := mt_1 (List.mem_of_getElem? (i := 69) (by decide +kernel)) (by decide +kernel)
theorem mw_6 : (Cond.fieldLink R_R 34 "AreaCore$Registers" "enabled" "Z") ∈ wd := mt_1 (List.mem_of_getElem? (i := 72) (by decide +kernel)) (by decide +kernel)
theorem mw_7 : (Cond.fieldLink R_R 15 "AreaCore$Registers" "a" "[I") ∈ wd := mt_1 (List.mem_of_getElem? (i := 49) (by decide +kernel)) (by decide +kernel)
theorem mw_8 : (Cond.fieldLink R_R 38 "AreaCore$Registers" "free" "I") ∈ wd := mt_1 (List.mem_of_getElem? (i := 56) (by decide +kernel)) (by decide +kernel)
theorem mw_9 : (Cond.fieldLink R_R 54 "AreaCore$Registers" "link" "I") ∈ wd := mt_1 (List.mem_of_getElem? (i := 60) (by decide +kernel)) (by decide +kernel)
theorem mw_10 : (Cond.fieldLink R_R 9 "AreaCore$Registers" "d" "[I") ∈ wd := mt_1 (List.mem_of_getElem? (i := 46) (by decide +kernel)) (by decide +kernel)
theorem mw_11 : (Cond.fieldLink R_R 65 "AreaCore$Registers" "last" "I") ∈ wd := mt_1 (List.mem_of_getElem? (i := 58) (by decide +kernel)) (by decide +kernel)
theorem mw_12 : (Cond.fieldLink R_R 68 "AreaCore$Registers" "drained" "Z") ∈ wd := mt_1 (List.mem_of_getElem? (i := 75) (by decide +kernel)) (by decide +kernel)
theorem mw_13 : (Cond.fieldLink R_G 9 "AreaCore$Ranges" "lows" "[I") ∈ wd := mt_1 (List.mem_of_getElem? (i := 107) (by decide +kernel)) (by decide +kernel)
theorem mw_14 : (Cond.fieldLink R_G 15 "AreaCore$Ranges" "highs" "[I") ∈ wd := mt_1 (List.mem_of_getElem? (i := 108) (by decide +kernel)) (by decide +kernel)
theorem mw_15 : (Cond.fieldLink R_G 18 "AreaCore$Ranges" "rights" "[I") ∈ wd := mt_1 (List.mem_of_getElem? (i := 109) (by decide +kernel)) (by decide +kernel)
theorem mw_16 : (Cond.fieldLink R_T 9 "AreaCore$Interrupts" "pending" "I") ∈ wd := mt_1 (List.mem_of_getElem? (i := 129) (by decide +kernel)) (by decide +kernel)
theorem mw_17 : (Cond.fieldLink R_T 15 "AreaCore$Interrupts" "time" "I") ∈ wd := mt_1 (List.mem_of_getElem? (i := 123) (by decide +kernel)) (by decide +kernel)
theorem mw_18 : (Cond.fieldLink R_T 18 "AreaCore$Interrupts" "every" "I") ∈ wd := mt_1 (List.mem_of_getElem? (i := 125) (by decide +kernel)) (by decide +kernel)
theorem mw_19 : (Cond.fieldLink R_T 21 "AreaCore$Interrupts" "asked" "I") ∈ wd := mt_1 (List.mem_of_getElem? (i := 127) (by decide +kernel)) (by decide +kernel)
theorem mw_20 : (Cond.fieldLink R_T 32 "AreaCore$Interrupts" "taken" "I") ∈ wd := mt_1 (List.mem_of_getElem? (i := 131) (by decide +kernel)) (by decide +kernel)
theorem mw_21 : (Cond.fieldLink R_P 110 "AreaCore$Processor" "guarding" "Z") ∈ wd := mt_1 (List.mem_of_getElem? (i := 154) (by decide +kernel)) (by decide +kernel)
theorem mw_22 : (Cond.fieldLink R_P 21 "AreaCore$Processor" "registers" "LAreaCore$Registers;") ∈ wd := mt_1 (List.mem_of_getElem? (i := 146) (by decide +kernel)) (by decide +kernel)
theorem mw_23 : (Cond.fieldLink R_P 113 "AreaCore$Registers" "level" "I") ∈ wd := mt_1 (List.mem_of_getElem? (i := 63) (by decide +kernel)) (by decide +kernel)
theorem mw_24 : (Cond.fieldLink R_P 12 "AreaCore$Processor" "memory" "LAreaCore$Memory;") ∈ wd := mt_1 (List.mem_of_getElem? (i := 144) (by decide +kernel)) (by decide +kernel)
theorem mw_25 : (Cond.fieldLink R_P 35 "AreaCore$Processor" "interrupts" "LAreaCore$Interrupts;") ∈ wd := mt_1 (List.mem_of_getElem? (i := 150) (by decide +kernel)) (by decide +kernel)
theorem mw_26 : (Cond.fieldLink R_P 57 "AreaCore$Registers" "priority" "I") ∈ wd := mt_1 (List.mem_of_getElem? (i := 68) (by decide +kernel)) (by decide +kernel)
theorem mw_27 : (Cond.fieldLink R_P 94 "AreaCore$Processor" "other" "I") ∈ wd := mt_1 (List.mem_of_getElem? (i := 158) (by decide +kernel)) (by decide +kernel)
theorem mw_28 : (Cond.fieldLink R_P 67 "AreaCore$Registers" "pc" "I") ∈ wd := mt_1 (List.mem_of_getElem? (i := 52) (by decide +kernel)) (by decide +kernel)
theorem mw_29 : (Cond.fieldLink R_P 80 "AreaCore$Processor" "runs" "Z") ∈ wd := mt_1 (List.mem_of_getElem? (i := 152) (by decide +kernel)) (by decide +kernel)
theorem mw_30 : (Cond.fieldLink R_P 100 "AreaCore$Processor" "table" "I") ∈ wd := mt_1 (List.mem_of_getElem? (i := 157) (by decide +kernel)) (by decide +kernel)
theorem mw_31 : (Cond.fieldLink R_P 103 "AreaCore$Registers" "d" "[I") ∈ wd := mt_1 (List.mem_of_getElem? (i := 47) (by decide +kernel)) (by decide +kernel)
theorem mw_32 : (Cond.fieldLink R_P 107 "AreaCore$Processor" "traps" "I") ∈ wd := mt_1 (List.mem_of_getElem? (i := 160) (by decide +kernel)) (by decide +kernel)
theorem mw_33 : (Cond.fieldLink R_P 39 "AreaCore$Processor" "latestTrap" "I") ∈ wd := mt_1 (List.mem_of_getElem? (i := 162) (by decide +kernel)) (by decide +kernel)
theorem mw_34 : (Cond.fieldLink R_P 46 "AreaCore$Registers" "drained" "Z") ∈ wd := mt_1 (List.mem_of_getElem? (i := 74) (by decide +kernel)) (by decide +kernel)
theorem mw_35 : (Cond.fieldLink R_P 28 "AreaCore$Processor" "ranges" "LAreaCore$Ranges;") ∈ wd := mt_1 (List.mem_of_getElem? (i := 148) (by decide +kernel)) (by decide +kernel)
theorem mw_36 : (Cond.fieldLink R_P 124 "AreaCore$Registers" "set" "I") ∈ wd := mt_1 (List.mem_of_getElem? (i := 65) (by decide +kernel)) (by decide +kernel)
theorem mw_37 : (Cond.fieldLink R_P 172 "AreaCore$Registers" "a" "[I") ∈ wd := mt_1 (List.mem_of_getElem? (i := 51) (by decide +kernel)) (by decide +kernel)
theorem mw_38 : (Cond.constant R_P 194 (65535 : Int32)) ∈ wd := mt_3 (List.mem_of_getElem? (i := 4) (by decide +kernel)) (by decide +kernel)
theorem mw_39 : (Cond.constant R_P 195 (65536 : Int32)) ∈ wd := mt_3 (List.mem_of_getElem? (i := 5) (by decide +kernel)) (by decide +kernel)
theorem mw_40 : (Cond.fieldLink R_P 150 "AreaCore$Registers" "depth" "I") ∈ wd := mt_1 (List.mem_of_getElem? (i := 67) (by decide +kernel)) (by decide +kernel)
theorem mw_41 : (Cond.fieldLink R_P 204 "AreaCore$Registers" "link" "I") ∈ wd := mt_1 (List.mem_of_getElem? (i := 61) (by decide +kernel)) (by decide +kernel)
theorem mw_42 : (Cond.fieldLink R_P 50 "AreaCore$Registers" "enabled" "Z") ∈ wd := mt_1 (List.mem_of_getElem? (i := 71) (by decide +kernel)) (by decide +kernel)
theorem mw_43 : (Cond.fieldLink R_C 10 "AreaCore" "core" "LAreaCore$Processor;") ∈ wd := mt_1 (List.mem_of_getElem? (i := 185) (by decide +kernel)) (by decide +kernel)
theorem mw_44 : (Cond.fieldLink R_C 22 "AreaCore$Processor" "memory" "LAreaCore$Memory;") ∈ wd := mt_1 (List.mem_of_getElem? (i := 145) (by decide +kernel)) (by decide +kernel)
theorem mw_45 : (Cond.fieldLink R_C 37 "AreaCore$Processor" "runs" "Z") ∈ wd := mt_1 (List.mem_of_getElem? (i := 153) (by decide +kernel)) (by decide +kernel)
theorem mw_46 : (Cond.fieldLink R_C 50 "AreaCore$Processor" "registers" "LAreaCore$Registers;") ∈ wd := mt_1 (List.mem_of_getElem? (i := 147) (by decide +kernel)) (by decide +kernel)
theorem mw_47 : (Cond.fieldLink R_C 54 "AreaCore$Registers" "free" "I") ∈ wd := mt_1 (List.mem_of_getElem? (i := 55) (by decide +kernel)) (by decide +kernel)
theorem mw_48 : (Cond.fieldLink R_C 60 "AreaCore$Registers" "last" "I") ∈ wd := mt_1 (List.mem_of_getElem? (i := 57) (by decide +kernel)) (by decide +kernel)
theorem mw_49 : (Cond.fieldLink R_C 63 "AreaCore$Registers" "link" "I") ∈ wd := mt_1 (List.mem_of_getElem? (i := 59) (by decide +kernel)) (by decide +kernel)
theorem mw_50 : (Cond.fieldLink R_C 66 "AreaCore$Processor" "table" "I") ∈ wd := mt_1 (List.mem_of_getElem? (i := 156) (by decide +kernel)) (by decide +kernel)
theorem mw_51 : (Cond.fieldLink R_C 69 "AreaCore$Processor" "other" "I") ∈ wd := mt_1 (List.mem_of_getElem? (i := 159) (by decide +kernel)) (by decide +kernel)
theorem mw_52 : (Cond.fieldLink R_C 76 "AreaCore$Processor" "ranges" "LAreaCore$Ranges;") ∈ wd := mt_1 (List.mem_of_getElem? (i := 149) (by decide +kernel)) (by decide +kernel)
theorem mw_53 : (Cond.fieldLink R_C 86 "AreaCore$Processor" "guarding" "Z") ∈ wd := mt_1 (List.mem_of_getElem? (i := 155) (by decide +kernel)) (by decide +kernel)
theorem mw_54 : (Cond.fieldLink R_C 94 "AreaCore$Processor" "interrupts" "LAreaCore$Interrupts;") ∈ wd := mt_1 (List.mem_of_getElem? (i := 151) (by decide +kernel)) (by decide +kernel)
theorem mw_55 : (Cond.fieldLink R_C 98 "AreaCore$Interrupts" "every" "I") ∈ wd := mt_1 (List.mem_of_getElem? (i := 126) (by decide +kernel)) (by decide +kernel)
theorem mw_56 : (Cond.fieldLink R_C 101 "AreaCore$Interrupts" "asked" "I") ∈ wd := mt_1 (List.mem_of_getElem? (i := 128) (by decide +kernel)) (by decide +kernel)
theorem mw_57 : (Cond.fieldLink R_C 130 "AreaCore$Registers" "a" "[I") ∈ wd := mt_1 (List.mem_of_getElem? (i := 50) (by decide +kernel)) (by decide +kernel)
theorem mw_58 : (Cond.fieldLink R_C 126 "AreaCore$Registers" "d" "[I") ∈ wd := mt_1 (List.mem_of_getElem? (i := 48) (by decide +kernel)) (by decide +kernel)
theorem mw_59 : (Cond.fieldLink R_C 137 "AreaCore$Registers" "pc" "I") ∈ wd := mt_1 (List.mem_of_getElem? (i := 54) (by decide +kernel)) (by decide +kernel)
theorem mw_60 : (Cond.fieldLink R_C 144 "AreaCore$Registers" "priority" "I") ∈ wd := mt_1 (List.mem_of_getElem? (i := 70) (by decide +kernel)) (by decide +kernel)
theorem mw_61 : (Cond.fieldLink R_C 147 "AreaCore$Registers" "enabled" "Z") ∈ wd := mt_1 (List.mem_of_getElem? (i := 73) (by decide +kernel)) (by decide +kernel)
theorem mw_62 : (Cond.fieldLink R_C 150 "AreaCore$Interrupts" "time" "I") ∈ wd := mt_1 (List.mem_of_getElem? (i := 124) (by decide +kernel)) (by decide +kernel)
theorem mw_63 : (Cond.fieldLink R_C 153 "AreaCore$Interrupts" "pending" "I") ∈ wd := mt_1 (List.mem_of_getElem? (i := 130) (by decide +kernel)) (by decide +kernel)
theorem mw_64 : (Cond.fieldLink R_C 156 "AreaCore$Processor" "traps" "I") ∈ wd := mt_1 (List.mem_of_getElem? (i := 161) (by decide +kernel)) (by decide +kernel)
theorem mw_65 : (Cond.fieldLink R_C 159 "AreaCore$Processor" "latestTrap" "I") ∈ wd := mt_1 (List.mem_of_getElem? (i := 163) (by decide +kernel)) (by decide +kernel)
theorem mw_66 : (Cond.fieldLink R_C 162 "AreaCore$Interrupts" "taken" "I") ∈ wd := mt_1 (List.mem_of_getElem? (i := 132) (by decide +kernel)) (by decide +kernel)
theorem mw_67 : (Cond.fieldLink R_X 38 "AreaCoreModel" "thrown" "I") ∈ wd := mt_3 (List.mem_of_getElem? (i := 94) (by decide +kernel)) (by decide +kernel)
theorem mw_68 : (Cond.fieldLink R_X 19 "AreaCoreModel" "own" "[I") ∈ wd := mt_3 (List.mem_of_getElem? (i := 98) (by decide +kernel)) (by decide +kernel)
theorem mw_69 : (Cond.fieldLink R_X 7 "AreaCoreModel" "memory" "[I") ∈ wd := mt_3 (List.mem_of_getElem? (i := 95) (by decide +kernel)) (by decide +kernel)
theorem mw_70 : (Cond.fieldLink R_X 53 "AreaCoreModel" "level" "I") ∈ wd := mt_3 (List.mem_of_getElem? (i := 99) (by decide +kernel)) (by decide +kernel)
theorem mw_71 : (Cond.fieldLink R_X 56 "AreaCoreModel" "set" "I") ∈ wd := mt_3 (List.mem_of_getElem? (i := 100) (by decide +kernel)) (by decide +kernel)
theorem mw_72 : (Cond.fieldLink R_X 59 "AreaCoreModel" "depth" "I") ∈ wd := mt_3 (List.mem_of_getElem? (i := 101) (by decide +kernel)) (by decide +kernel)
theorem mw_73 : (Cond.fieldLink R_X 16 "AreaCoreModel" "a" "[I") ∈ wd := mt_3 (List.mem_of_getElem? (i := 97) (by decide +kernel)) (by decide +kernel)
theorem mw_74 : (Cond.fieldLink R_X 13 "AreaCoreModel" "d" "[I") ∈ wd := mt_3 (List.mem_of_getElem? (i := 96) (by decide +kernel)) (by decide +kernel)
theorem mw_75 : (Cond.fieldLink R_X 62 "AreaCoreModel" "priority" "I") ∈ wd := mt_3 (List.mem_of_getElem? (i := 102) (by decide +kernel)) (by decide +kernel)
theorem mw_76 : (Cond.fieldLink R_X 65 "AreaCoreModel" "enabled" "Z") ∈ wd := mt_3 (List.mem_of_getElem? (i := 103) (by decide +kernel)) (by decide +kernel)
theorem mw_77 : (Cond.fieldLink R_X 68 "AreaCoreModel" "drained" "Z") ∈ wd := mt_3 (List.mem_of_getElem? (i := 118) (by decide +kernel)) (by decide +kernel)
theorem mw_78 : (Cond.fieldLink R_X 45 "AreaCoreModel" "runs" "Z") ∈ wd := mt_3 (List.mem_of_getElem? (i := 105) (by decide +kernel)) (by decide +kernel)
theorem mw_79 : (Cond.fieldLink R_X 71 "AreaCoreModel" "trap" "I") ∈ wd := mt_3 (List.mem_of_getElem? (i := 120) (by decide +kernel)) (by decide +kernel)
theorem mw_80 : (Cond.fieldLink R_X 78 "AreaCoreModel" "third" "Z") ∈ wd := mt_3 (List.mem_of_getElem? (i := 119) (by decide +kernel)) (by decide +kernel)
theorem mw_81 : (Cond.fieldLink R_X 81 "AreaCoreModel" "table" "I") ∈ wd := mt_3 (List.mem_of_getElem? (i := 109) (by decide +kernel)) (by decide +kernel)
theorem mw_82 : (Cond.fieldLink R_X 88 "AreaCoreModel" "traps" "I") ∈ wd := mt_3 (List.mem_of_getElem? (i := 115) (by decide +kernel)) (by decide +kernel)
theorem mw_83 : (Cond.fieldLink R_X 35 "AreaCoreModel" "latest" "I") ∈ wd := mt_3 (List.mem_of_getElem? (i := 116) (by decide +kernel)) (by decide +kernel)
theorem mw_84 : (Cond.fieldLink R_X 91 "AreaCoreModel" "guarding" "Z") ∈ wd := mt_3 (List.mem_of_getElem? (i := 111) (by decide +kernel)) (by decide +kernel)
theorem mw_85 : (Cond.fieldLink R_X 26 "AreaCoreModel" "low" "[I") ∈ wd := mt_3 (List.mem_of_getElem? (i := 112) (by decide +kernel)) (by decide +kernel)
theorem mw_86 : (Cond.fieldLink R_X 29 "AreaCoreModel" "high" "[I") ∈ wd := mt_3 (List.mem_of_getElem? (i := 113) (by decide +kernel)) (by decide +kernel)
theorem mw_87 : (Cond.fieldLink R_X 32 "AreaCoreModel" "rights" "[I") ∈ wd := mt_3 (List.mem_of_getElem? (i := 114) (by decide +kernel)) (by decide +kernel)
theorem mw_88 : (Cond.constant R_X 98 (65535 : Int32)) ∈ wd := mt_4 (List.mem_of_getElem? (i := 18) (by decide +kernel)) (by decide +kernel)
theorem mw_89 : (Cond.constant R_X 103 (65536 : Int32)) ∈ wd := mt_4 (List.mem_of_getElem? (i := 23) (by decide +kernel)) (by decide +kernel)
theorem mw_90 : (Cond.fieldLink R_X 131 "AreaCoreModel" "time" "I") ∈ wd := mt_3 (List.mem_of_getElem? (i := 106) (by decide +kernel)) (by decide +kernel)
theorem mw_91 : (Cond.fieldLink R_X 134 "AreaCoreModel" "every" "I") ∈ wd := mt_3 (List.mem_of_getElem? (i := 107) (by decide +kernel)) (by decide +kernel)
theorem mw_92 : (Cond.fieldLink R_X 137 "AreaCoreModel" "pending" "I") ∈ wd := mt_3 (List.mem_of_getElem? (i := 104) (by decide +kernel)) (by decide +kernel)
theorem mw_93 : (Cond.fieldLink R_X 22 "AreaCoreModel" "timed" "I") ∈ wd := mt_3 (List.mem_of_getElem? (i := 108) (by decide +kernel)) (by decide +kernel)
theorem mw_94 : (Cond.fieldLink R_X 140 "AreaCoreModel" "other" "I") ∈ wd := mt_3 (List.mem_of_getElem? (i := 110) (by decide +kernel)) (by decide +kernel)
theorem mw_95 : (Cond.fieldLink R_X 143 "AreaCoreModel" "taken" "I") ∈ wd := mt_3 (List.mem_of_getElem? (i := 117) (by decide +kernel)) (by decide +kernel)
theorem mw_96 : (Cond.methodLink R_M 15 y_M_has) ∈ wd := mt_1 (List.mem_of_getElem? (i := 200) (by decide +kernel)) (by decide +kernel)
theorem mw_97 : (Cond.code y_M_has b_M_has 1 (some .boolean)) ∈ wd := mt_1 (List.mem_of_getElem? (i := 195) (by decide +kernel)) (by decide +kernel)
theorem mw_98 : (Cond.static y_M_has) ∈ wd := mt_1 (List.mem_of_getElem? (i := 194) (by decide +kernel)) (by decide +kernel)
theorem mw_99 : (Cond.initialized y_M_has.cls) ∈ wd := mt_1 (List.mem_of_getElem? (i := 3) (by decide +kernel)) (by decide +kernel)
theorem mw_100 : (Cond.methodLink R_M 19 y_M_areaStart) ∈ wd := mt_2 (List.mem_of_getElem? (i := 15) (by decide +kernel)) (by decide +kernel)
theorem mw_101 : (Cond.code y_M_areaStart b_M_areaStart 1 (some .int)) ∈ wd := mt_2 (List.mem_of_getElem? (i := 17) (by decide +kernel)) (by decide +kernel)
theorem mw_102 : (Cond.static y_M_areaStart) ∈ wd := mt_2 (List.mem_of_getElem? (i := 16) (by decide +kernel)) (by decide +kernel)
theorem mw_103 : (Cond.initialized y_M_areaStart.cls) ∈ wd := mt_1 (List.mem_of_getElem? (i := 3) (by decide +kernel)) (by decide +kernel)
theorem mw_104 : (Cond.methodLink R_M 23 y_M_write) ∈ wd := mt_2 (List.mem_of_getElem? (i := 116) (by decide +kernel)) (by decide +kernel)
theorem mw_105 : (Cond.code y_M_write b_M_write 3 (none)) ∈ wd := mt_1 (List.mem_of_getElem? (i := 199) (by decide +kernel)) (by decide +kernel)
theorem mw_106 : (Cond.instanceMethod y_M_write) ∈ wd := mt_1 (List.mem_of_getElem? (i := 197) (by decide +kernel)) (by decide +kernel)
theorem mw_107 : (Cond.selects R_M y_M_write y_M_write) ∈ wd := mt_1 (List.mem_of_getElem? (i := 198) (by decide +kernel)) (by decide +kernel)
theorem mw_108 : (Cond.initialized R_M) ∈ wd := mt_1 (List.mem_of_getElem? (i := 3) (by decide +kernel)) (by decide +kernel)
theorem mw_109 : (Cond.methodLink R_M 27 y_M_isArea) ∈ wd := mt_2 (List.mem_of_getElem? (i := 12) (by decide +kernel)) (by decide +kernel)
theorem mw_110 : (Cond.code y_M_isArea b_M_isArea 1 (some .boolean)) ∈ wd := mt_2 (List.mem_of_getElem? (i := 14) (by decide +kernel)) (by decide +kernel)
theorem mw_111 : (Cond.static y_M_isArea) ∈ wd := mt_2 (List.mem_of_getElem? (i := 13) (by decide +kernel)) (by decide +kernel)
theorem mw_112 : (Cond.initialized y_M_isArea.cls) ∈ wd := mt_1 (List.mem_of_getElem? (i := 3) (by decide +kernel)) (by decide +kernel)
theorem mw_113 : (Cond.methodLink R_M 30 y_M_read) ∈ wd := mt_2 (List.mem_of_getElem? (i := 18) (by decide +kernel)) (by decide +kernel)
theorem mw_114 : (Cond.code y_M_read b_M_read 2 (some .int)) ∈ wd := mt_1 (List.mem_of_getElem? (i := 235) (by decide +kernel)) (by decide +kernel)
theorem mw_115 : (Cond.instanceMethod y_M_read) ∈ wd := mt_1 (List.mem_of_getElem? (i := 233) (by decide +kernel)) (by decide +kernel)
theorem mw_116 : (Cond.selects R_M y_M_read y_M_read) ∈ wd := mt_1 (List.mem_of_getElem? (i := 234) (by decide +kernel)) (by decide +kernel)
theorem mw_117 : (Cond.methodLink R_R 41 y_M_isArea) ∈ wd := mt_2 (List.mem_of_getElem? (i := 180) (by decide +kernel)) (by decide +kernel)
theorem mw_118 : (Cond.methodLink R_R 47 y_M_areaStart) ∈ wd := mt_2 (List.mem_of_getElem? (i := 181) (by decide +kernel)) (by decide +kernel)
theorem mw_119 : (Cond.methodLink R_R 51 y_M_read) ∈ wd := mt_2 (List.mem_of_getElem? (i := 182) (by decide +kernel)) (by decide +kernel)
theorem mw_120 : (Cond.methodLink R_R 57 y_M_write) ∈ wd := mt_2 (List.mem_of_getElem? (i := 183) (by decide +kernel)) (by decide +kernel)
theorem mw_121 : (Cond.methodLink R_R 61 y_R_state) ∈ wd := mt_2 (List.mem_of_getElem? (i := 184) (by decide +kernel)) (by decide +kernel)
theorem mw_122 : (Cond.code y_R_state b_R_state 1 (some .int)) ∈ wd := mt_2 (List.mem_of_getElem? (i := 3) (by decide +kernel)) (by decide +kernel)
theorem mw_123 : (Cond.instanceMethod y_R_state) ∈ wd := mt_2 (List.mem_of_getElem? (i := 1) (by decide +kernel)) (by decide +kernel)
theorem mw_124 : (Cond.selects R_R y_R_state y_R_state) ∈ wd := mt_2 (List.mem_of_getElem? (i := 2) (by decide +kernel)) (by decide +kernel)
theorem mw_125 : (Cond.initialized R_R) ∈ wd := mt_1 (List.mem_of_getElem? (i := 4) (by decide +kernel)) (by decide +kernel)
theorem mw_126 : (Cond.methodLink R_R 71 y_R_takeState) ∈ wd := mt_3 (List.mem_of_getElem? (i := 29) (by decide +kernel)) (by decide +kernel)
theorem mw_127 : (Cond.code y_R_takeState b_R_takeState 2 (none)) ∈ wd := mt_3 (List.mem_of_getElem? (i := 32) (by decide +kernel)) (by decide +kernel)
theorem mw_128 : (Cond.instanceMethod y_R_takeState) ∈ wd := mt_3 (List.mem_of_getElem? (i := 31) (by decide +kernel)) (by decide +kernel)
theorem mw_129 : (Cond.selects R_R y_R_takeState y_R_takeState) ∈ wd := mt_s (by decide +kernel) (by decide +kernel)
theorem mw_130 : (Cond.methodLink R_G 21 y_G_covers) ∈ wd := mt_2 (List.mem_of_getElem? (i := 206) (by decide +kernel)) (by decide +kernel)
theorem mw_131 : (Cond.code y_G_covers b_G_covers 3 (some .boolean)) ∈ wd := mt_2 (List.mem_of_getElem? (i := 209) (by decide +kernel)) (by decide +kernel)
theorem mw_132 : (Cond.instanceMethod y_G_covers) ∈ wd := mt_2 (List.mem_of_getElem? (i := 208) (by decide +kernel)) (by decide +kernel)
theorem mw_133 : (Cond.selects R_G y_G_covers y_G_covers) ∈ wd := mt_s (by decide +kernel) (by decide +kernel)
theorem mw_134 : (Cond.initialized R_G) ∈ wd := mt_1 (List.mem_of_getElem? (i := 5) (by decide +kernel)) (by decide +kernel)
theorem mw_135 : (Cond.methodLink R_T 24 y_T_ask) ∈ wd := mt_2 (List.mem_of_getElem? (i := 166) (by decide +kernel)) (by decide +kernel)
theorem mw_136 : (Cond.code y_T_ask b_T_ask 2 (none)) ∈ wd := mt_1 (List.mem_of_getElem? (i := 223) (by decide +kernel)) (by decide +kernel)
theorem mw_137 : (Cond.instanceMethod y_T_ask) ∈ wd := mt_1 (List.mem_of_getElem? (i := 221) (by decide +kernel)) (by decide +kernel)
theorem mw_138 : (Cond.selects R_T y_T_ask y_T_ask) ∈ wd := mt_1 (List.mem_of_getElem? (i := 222) (by decide +kernel)) (by decide +kernel)
theorem mw_139 : (Cond.initialized R_T) ∈ wd := mt_1 (List.mem_of_getElem? (i := 6) (by decide +kernel)) (by decide +kernel)
theorem mw_140 : (Cond.methodLink R_T 28 y_T_isPending) ∈ wd := mt_2 (List.mem_of_getElem? (i := 171) (by decide +kernel)) (by decide +kernel)
theorem mw_141 : (Cond.code y_T_isPending b_T_isPending 2 (some .boolean)) ∈ wd := mt_1 (List.mem_of_getElem? (i := 219) (by decide +kernel)) (by decide +kernel)
theorem mw_142 : (Cond.instanceMethod y_T_isPending) ∈ wd := mt_1 (List.mem_of_getElem? (i := 217) (by decide +kernel)) (by decide +kernel)
theorem mw_143 : (Cond.selects R_T y_T_isPending y_T_isPending) ∈ wd := mt_1 (List.mem_of_getElem? (i := 218) (by decide +kernel)) (by decide +kernel)
theorem mw_144 : (Cond.methodLink R_P 87 y_R_keep) ∈ wd := mt_2 (List.mem_of_getElem? (i := 176) (by decide +kernel)) (by decide +kernel)
theorem mw_145 : (Cond.code y_R_keep b_R_keep 7 (some .boolean)) ∈ wd := mt_2 (List.mem_of_getElem? (i := 179) (by decide +kernel)) (by decide +kernel)
theorem mw_146 : (Cond.instanceMethod y_R_keep) ∈ wd := mt_2 (List.mem_of_getElem? (i := 177) (by decide +kernel)) (by decide +kernel)
theorem mw_147 : (Cond.selects R_R y_R_keep y_R_keep) ∈ wd := mt_2 (List.mem_of_getElem? (i := 178) (by decide +kernel)) (by decide +kernel)
theorem mw_148 : (Cond.methodLink R_P 91 y_T_take) ∈ wd := mt_2 (List.mem_of_getElem? (i := 185) (by decide +kernel)) (by decide +kernel)
theorem mw_149 : (Cond.code y_T_take b_T_take 2 (none)) ∈ wd := mt_2 (List.mem_of_getElem? (i := 188) (by decide +kernel)) (by decide +kernel)
theorem mw_150 : (Cond.instanceMethod y_T_take) ∈ wd := mt_2 (List.mem_of_getElem? (i := 186) (by decide +kernel)) (by decide +kernel)
theorem mw_151 : (Cond.selects R_T y_T_take y_T_take) ∈ wd := mt_2 (List.mem_of_getElem? (i := 187) (by decide +kernel)) (by decide +kernel)
theorem mw_152 : (Cond.methodLink R_P 97 y_R_enterHandler) ∈ wd := mt_2 (List.mem_of_getElem? (i := 189) (by decide +kernel)) (by decide +kernel)
theorem mw_153 : (Cond.code y_R_enterHandler b_R_enterHandler 3 (none)) ∈ wd := mt_2 (List.mem_of_getElem? (i := 192) (by decide +kernel)) (by decide +kernel)
theorem mw_154 : (Cond.instanceMethod y_R_enterHandler) ∈ wd := mt_2 (List.mem_of_getElem? (i := 190) (by decide +kernel)) (by decide +kernel)
theorem mw_155 : (Cond.selects R_R y_R_enterHandler y_R_enterHandler) ∈ wd := mt_2 (List.mem_of_getElem? (i := 191) (by decide +kernel)) (by decide +kernel)
theorem mw_156 : (Cond.methodLink R_P 83 y_P_takeTrap) ∈ wd := mt_3 (List.mem_of_getElem? (i := 60) (by decide +kernel)) (by decide +kernel)
theorem mw_157 : (Cond.code y_P_takeTrap b_P_takeTrap 5 (none)) ∈ wd := mt_3 (List.mem_of_getElem? (i := 63) (by decide +kernel)) (by decide +kernel)
theorem mw_158 : (Cond.instanceMethod y_P_takeTrap) ∈ wd := mt_3 (List.mem_of_getElem? (i := 62) (by decide +kernel)) (by decide +kernel)
theorem mw_159 : (Cond.selects R_P y_P_takeTrap y_P_takeTrap) ∈ wd := mt_s (by decide +kernel) (by decide +kernel)
theorem mw_160 : (Cond.initialized R_P) ∈ wd := mt_1 (List.mem_of_getElem? (i := 2) (by decide +kernel)) (by decide +kernel)
theorem mw_161 : (Cond.methodLink R_P 116 y_M_has) ∈ wd := mt_2 (List.mem_of_getElem? (i := 197) (by decide +kernel)) (by decide +kernel)
theorem mw_162 : (Cond.methodLink R_P 120 y_P_isGuarded) ∈ wd := mt_2 (List.mem_of_getElem? (i := 198) (by decide +kernel)) (by decide +kernel)
theorem mw_163 : (Cond.code y_P_isGuarded b_P_isGuarded 1 (some .boolean)) ∈ wd := mt_2 (List.mem_of_getElem? (i := 201) (by decide +kernel)) (by decide +kernel)
theorem mw_164 : (Cond.instanceMethod y_P_isGuarded) ∈ wd := mt_2 (List.mem_of_getElem? (i := 200) (by decide +kernel)) (by decide +kernel)
theorem mw_165 : (Cond.selects R_P y_P_isGuarded y_P_isGuarded) ∈ wd := mt_s (by decide +kernel) (by decide +kernel)
theorem mw_166 : (Cond.methodLink R_P 127 y_G_letsRun) ∈ wd := mt_2 (List.mem_of_getElem? (i := 202) (by decide +kernel)) (by decide +kernel)
theorem mw_167 : (Cond.code y_G_letsRun b_G_letsRun 3 (some .boolean)) ∈ wd := mt_2 (List.mem_of_getElem? (i := 205) (by decide +kernel)) (by decide +kernel)
theorem mw_168 : (Cond.instanceMethod y_G_letsRun) ∈ wd := mt_2 (List.mem_of_getElem? (i := 203) (by decide +kernel)) (by decide +kernel)
theorem mw_169 : (Cond.selects R_G y_G_letsRun y_G_letsRun) ∈ wd := mt_2 (List.mem_of_getElem? (i := 204) (by decide +kernel)) (by decide +kernel)
theorem mw_170 : (Cond.methodLink R_P 184 y_G_letsUse) ∈ wd := mt_2 (List.mem_of_getElem? (i := 232) (by decide +kernel)) (by decide +kernel)
theorem mw_171 : (Cond.code y_G_letsUse b_G_letsUse 6 (some .boolean)) ∈ wd := mt_2 (List.mem_of_getElem? (i := 235) (by decide +kernel)) (by decide +kernel)
theorem mw_172 : (Cond.instanceMethod y_G_letsUse) ∈ wd := mt_2 (List.mem_of_getElem? (i := 233) (by decide +kernel)) (by decide +kernel)
theorem mw_173 : (Cond.selects R_G y_G_letsUse y_G_letsUse) ∈ wd := mt_2 (List.mem_of_getElem? (i := 234) (by decide +kernel)) (by decide +kernel)
theorem mw_174 : (Cond.methodLink R_P 175 y_P_fieldA) ∈ wd := mt_2 (List.mem_of_getElem? (i := 236) (by decide +kernel)) (by decide +kernel)
theorem mw_175 : (Cond.code y_P_fieldA b_P_fieldA 1 (some .int)) ∈ wd := mt_2 (List.mem_of_getElem? (i := 238) (by decide +kernel)) (by decide +kernel)
theorem mw_176 : (Cond.static y_P_fieldA) ∈ wd := mt_2 (List.mem_of_getElem? (i := 237) (by decide +kernel)) (by decide +kernel)
theorem mw_177 : (Cond.initialized y_P_fieldA.cls) ∈ wd := mt_1 (List.mem_of_getElem? (i := 2) (by decide +kernel)) (by decide +kernel)
theorem mw_178 : (Cond.methodLink R_P 178 y_P_fieldB) ∈ wd := mt_2 (List.mem_of_getElem? (i := 225) (by decide +kernel)) (by decide +kernel)
theorem mw_179 : (Cond.code y_P_fieldB b_P_fieldB 1 (some .int)) ∈ wd := mt_2 (List.mem_of_getElem? (i := 227) (by decide +kernel)) (by decide +kernel)
theorem mw_180 : (Cond.static y_P_fieldB) ∈ wd := mt_2 (List.mem_of_getElem? (i := 226) (by decide +kernel)) (by decide +kernel)
theorem mw_181 : (Cond.initialized y_P_fieldB.cls) ∈ wd := mt_1 (List.mem_of_getElem? (i := 2) (by decide +kernel)) (by decide +kernel)
theorem mw_182 : (Cond.methodLink R_P 181 y_P_fieldC) ∈ wd := mt_3 (List.mem_of_getElem? (i := 53) (by decide +kernel)) (by decide +kernel)
theorem mw_183 : (Cond.code y_P_fieldC b_P_fieldC 1 (some .int)) ∈ wd := mt_3 (List.mem_of_getElem? (i := 55) (by decide +kernel)) (by decide +kernel)
theorem mw_184 : (Cond.static y_P_fieldC) ∈ wd := mt_3 (List.mem_of_getElem? (i := 54) (by decide +kernel)) (by decide +kernel)
theorem mw_185 : (Cond.initialized y_P_fieldC.cls) ∈ wd := mt_1 (List.mem_of_getElem? (i := 2) (by decide +kernel)) (by decide +kernel)
theorem mw_186 : (Cond.methodLink R_P 131 y_P_amount) ∈ wd := mt_2 (List.mem_of_getElem? (i := 215) (by decide +kernel)) (by decide +kernel)
theorem mw_187 : (Cond.code y_P_amount b_P_amount 1 (some .int)) ∈ wd := mt_2 (List.mem_of_getElem? (i := 217) (by decide +kernel)) (by decide +kernel)
theorem mw_188 : (Cond.static y_P_amount) ∈ wd := mt_2 (List.mem_of_getElem? (i := 216) (by decide +kernel)) (by decide +kernel)
theorem mw_189 : (Cond.initialized y_P_amount.cls) ∈ wd := mt_1 (List.mem_of_getElem? (i := 2) (by decide +kernel)) (by decide +kernel)
theorem mw_190 : (Cond.methodLink R_P 188 y_P_refuseWord) ∈ wd := mt_2 (List.mem_of_getElem? (i := 228) (by decide +kernel)) (by decide +kernel)
theorem mw_191 : (Cond.code y_P_refuseWord b_P_refuseWord 3 (some .int)) ∈ wd := mt_2 (List.mem_of_getElem? (i := 231) (by decide +kernel)) (by decide +kernel)
theorem mw_192 : (Cond.instanceMethod y_P_refuseWord) ∈ wd := mt_2 (List.mem_of_getElem? (i := 230) (by decide +kernel)) (by decide +kernel)
theorem mw_193 : (Cond.selects R_P y_P_refuseWord y_P_refuseWord) ∈ wd := mt_s (by decide +kernel) (by decide +kernel)
theorem mw_194 : (Cond.methodLink R_P 70 y_M_read) ∈ wd := mt_2 (List.mem_of_getElem? (i := 210) (by decide +kernel)) (by decide +kernel)
theorem mw_195 : (Cond.methodLink R_P 191 y_M_write) ∈ wd := mt_2 (List.mem_of_getElem? (i := 239) (by decide +kernel)) (by decide +kernel)
theorem mw_196 : (Cond.methodLink R_P 196 y_Z_floorMod) ∈ wd := mt_3 (List.mem_of_getElem? (i := 6) (by decide +kernel)) (by decide +kernel)
theorem mw_197 : (Cond.code y_Z_floorMod b_Z_floorMod 3 (some .int)) ∈ wd := mt_3 (List.mem_of_getElem? (i := 8) (by decide +kernel)) (by decide +kernel)
theorem mw_198 : (Cond.static y_Z_floorMod) ∈ wd := mt_3 (List.mem_of_getElem? (i := 7) (by decide +kernel)) (by decide +kernel)
theorem mw_199 : (Cond.initialized y_Z_floorMod.cls) ∈ wd := mt_1 (List.mem_of_getElem? (i := 13) (by decide +kernel)) (by decide +kernel)
theorem mw_200 : (Cond.methodLink R_P 201 y_R_refuseBack) ∈ wd := mt_3 (List.mem_of_getElem? (i := 21) (by decide +kernel)) (by decide +kernel)
theorem mw_201 : (Cond.code y_R_refuseBack b_R_refuseBack 3 (some .int)) ∈ wd := mt_3 (List.mem_of_getElem? (i := 24) (by decide +kernel)) (by decide +kernel)
theorem mw_202 : (Cond.instanceMethod y_R_refuseBack) ∈ wd := mt_3 (List.mem_of_getElem? (i := 22) (by decide +kernel)) (by decide +kernel)
theorem mw_203 : (Cond.selects R_R y_R_refuseBack y_R_refuseBack) ∈ wd := mt_3 (List.mem_of_getElem? (i := 23) (by decide +kernel)) (by decide +kernel)
theorem mw_204 : (Cond.methodLink R_P 207 y_R_bringBack) ∈ wd := mt_3 (List.mem_of_getElem? (i := 25) (by decide +kernel)) (by decide +kernel)
theorem mw_205 : (Cond.code y_R_bringBack b_R_bringBack 7 (none)) ∈ wd := mt_3 (List.mem_of_getElem? (i := 28) (by decide +kernel)) (by decide +kernel)
theorem mw_206 : (Cond.instanceMethod y_R_bringBack) ∈ wd := mt_3 (List.mem_of_getElem? (i := 26) (by decide +kernel)) (by decide +kernel)
theorem mw_207 : (Cond.selects R_R y_R_bringBack y_R_bringBack) ∈ wd := mt_3 (List.mem_of_getElem? (i := 27) (by decide +kernel)) (by decide +kernel)
theorem mw_208 : (Cond.methodLink R_P 134 y_P_needsTopLevel) ∈ wd := mt_2 (List.mem_of_getElem? (i := 218) (by decide +kernel)) (by decide +kernel)
theorem mw_209 : (Cond.code y_P_needsTopLevel b_P_needsTopLevel 1 (some .boolean)) ∈ wd := mt_2 (List.mem_of_getElem? (i := 220) (by decide +kernel)) (by decide +kernel)
theorem mw_210 : (Cond.static y_P_needsTopLevel) ∈ wd := mt_2 (List.mem_of_getElem? (i := 219) (by decide +kernel)) (by decide +kernel)
theorem mw_211 : (Cond.initialized y_P_needsTopLevel.cls) ∈ wd := mt_1 (List.mem_of_getElem? (i := 2) (by decide +kernel)) (by decide +kernel)
theorem mw_212 : (Cond.methodLink R_P 169 y_P_compute) ∈ wd := mt_3 (List.mem_of_getElem? (i := 49) (by decide +kernel)) (by decide +kernel)
theorem mw_213 : (Cond.code y_P_compute b_P_compute 9 (some .int)) ∈ wd := mt_3 (List.mem_of_getElem? (i := 52) (by decide +kernel)) (by decide +kernel)
theorem mw_214 : (Cond.instanceMethod y_P_compute) ∈ wd := mt_3 (List.mem_of_getElem? (i := 51) (by decide +kernel)) (by decide +kernel)
theorem mw_215 : (Cond.selects R_P y_P_compute y_P_compute) ∈ wd := mt_s (by decide +kernel) (by decide +kernel)
theorem mw_216 : (Cond.methodLink R_P 137 y_P_moveWord) ∈ wd := mt_2 (List.mem_of_getElem? (i := 221) (by decide +kernel)) (by decide +kernel)
theorem mw_217 : (Cond.code y_P_moveWord b_P_moveWord 9 (some .int)) ∈ wd := mt_2 (List.mem_of_getElem? (i := 224) (by decide +kernel)) (by decide +kernel)
theorem mw_218 : (Cond.instanceMethod y_P_moveWord) ∈ wd := mt_2 (List.mem_of_getElem? (i := 223) (by decide +kernel)) (by decide +kernel)
theorem mw_219 : (Cond.selects R_P y_P_moveWord y_P_moveWord) ∈ wd := mt_s (by decide +kernel) (by decide +kernel)
theorem mw_220 : (Cond.methodLink R_P 141 y_P_readRing) ∈ wd := mt_3 (List.mem_of_getElem? (i := 0) (by decide +kernel)) (by decide +kernel)
theorem mw_221 : (Cond.code y_P_readRing b_P_readRing 8 (some .int)) ∈ wd := mt_3 (List.mem_of_getElem? (i := 3) (by decide +kernel)) (by decide +kernel)
theorem mw_222 : (Cond.instanceMethod y_P_readRing) ∈ wd := mt_3 (List.mem_of_getElem? (i := 2) (by decide +kernel)) (by decide +kernel)
theorem mw_223 : (Cond.selects R_P y_P_readRing y_P_readRing) ∈ wd := mt_s (by decide +kernel) (by decide +kernel)
theorem mw_224 : (Cond.methodLink R_P 144 y_P_jump) ∈ wd := mt_3 (List.mem_of_getElem? (i := 9) (by decide +kernel)) (by decide +kernel)
theorem mw_225 : (Cond.code y_P_jump b_P_jump 6 (some .int)) ∈ wd := mt_3 (List.mem_of_getElem? (i := 12) (by decide +kernel)) (by decide +kernel)
theorem mw_226 : (Cond.instanceMethod y_P_jump) ∈ wd := mt_3 (List.mem_of_getElem? (i := 11) (by decide +kernel)) (by decide +kernel)
theorem mw_227 : (Cond.selects R_P y_P_jump y_P_jump) ∈ wd := mt_s (by decide +kernel) (by decide +kernel)
theorem mw_228 : (Cond.methodLink R_P 147 y_P_callDown) ∈ wd := mt_3 (List.mem_of_getElem? (i := 13) (by decide +kernel)) (by decide +kernel)
theorem mw_229 : (Cond.code y_P_callDown b_P_callDown 2 (some .int)) ∈ wd := mt_3 (List.mem_of_getElem? (i := 16) (by decide +kernel)) (by decide +kernel)
theorem mw_230 : (Cond.instanceMethod y_P_callDown) ∈ wd := mt_3 (List.mem_of_getElem? (i := 15) (by decide +kernel)) (by decide +kernel)
theorem mw_231 : (Cond.selects R_P y_P_callDown y_P_callDown) ∈ wd := mt_s (by decide +kernel) (by decide +kernel)
theorem mw_232 : (Cond.methodLink R_P 153 y_P_goBack) ∈ wd := mt_3 (List.mem_of_getElem? (i := 17) (by decide +kernel)) (by decide +kernel)
theorem mw_233 : (Cond.code y_P_goBack b_P_goBack 3 (some .int)) ∈ wd := mt_3 (List.mem_of_getElem? (i := 20) (by decide +kernel)) (by decide +kernel)
theorem mw_234 : (Cond.instanceMethod y_P_goBack) ∈ wd := mt_3 (List.mem_of_getElem? (i := 19) (by decide +kernel)) (by decide +kernel)
theorem mw_235 : (Cond.selects R_P y_P_goBack y_P_goBack) ∈ wd := mt_s (by decide +kernel) (by decide +kernel)
theorem mw_236 : (Cond.methodLink R_P 157 y_P_keepLower) ∈ wd := mt_3 (List.mem_of_getElem? (i := 33) (by decide +kernel)) (by decide +kernel)
theorem mw_237 : (Cond.code y_P_keepLower b_P_keepLower 1 (some .int)) ∈ wd := mt_3 (List.mem_of_getElem? (i := 36) (by decide +kernel)) (by decide +kernel)
theorem mw_238 : (Cond.instanceMethod y_P_keepLower) ∈ wd := mt_3 (List.mem_of_getElem? (i := 35) (by decide +kernel)) (by decide +kernel)
theorem mw_239 : (Cond.selects R_P y_P_keepLower y_P_keepLower) ∈ wd := mt_s (by decide +kernel) (by decide +kernel)
theorem mw_240 : (Cond.methodLink R_P 160 y_P_bringLowerBack) ∈ wd := mt_3 (List.mem_of_getElem? (i := 37) (by decide +kernel)) (by decide +kernel)
theorem mw_241 : (Cond.code y_P_bringLowerBack b_P_bringLowerBack 2 (some .int)) ∈ wd := mt_3 (List.mem_of_getElem? (i := 40) (by decide +kernel)) (by decide +kernel)
theorem mw_242 : (Cond.instanceMethod y_P_bringLowerBack) ∈ wd := mt_3 (List.mem_of_getElem? (i := 39) (by decide +kernel)) (by decide +kernel)
theorem mw_243 : (Cond.selects R_P y_P_bringLowerBack y_P_bringLowerBack) ∈ wd := mt_s (by decide +kernel) (by decide +kernel)
theorem mw_244 : (Cond.methodLink R_P 163 y_P_openHandler) ∈ wd := mt_3 (List.mem_of_getElem? (i := 41) (by decide +kernel)) (by decide +kernel)
theorem mw_245 : (Cond.code y_P_openHandler b_P_openHandler 2 (some .int)) ∈ wd := mt_3 (List.mem_of_getElem? (i := 44) (by decide +kernel)) (by decide +kernel)
theorem mw_246 : (Cond.instanceMethod y_P_openHandler) ∈ wd := mt_3 (List.mem_of_getElem? (i := 43) (by decide +kernel)) (by decide +kernel)
theorem mw_247 : (Cond.selects R_P y_P_openHandler y_P_openHandler) ∈ wd := mt_s (by decide +kernel) (by decide +kernel)
theorem mw_248 : (Cond.methodLink R_P 166 y_P_changeLevel) ∈ wd := mt_3 (List.mem_of_getElem? (i := 45) (by decide +kernel)) (by decide +kernel)
theorem mw_249 : (Cond.code y_P_changeLevel b_P_changeLevel 2 (some .int)) ∈ wd := mt_3 (List.mem_of_getElem? (i := 48) (by decide +kernel)) (by decide +kernel)
theorem mw_250 : (Cond.instanceMethod y_P_changeLevel) ∈ wd := mt_3 (List.mem_of_getElem? (i := 47) (by decide +kernel)) (by decide +kernel)
theorem mw_251 : (Cond.selects R_P y_P_changeLevel y_P_changeLevel) ∈ wd := mt_s (by decide +kernel) (by decide +kernel)
theorem mw_252 : (Cond.methodLink R_P 43 y_T_tick) ∈ wd := mt_2 (List.mem_of_getElem? (i := 162) (by decide +kernel)) (by decide +kernel)
theorem mw_253 : (Cond.code y_T_tick b_T_tick 1 (none)) ∈ wd := mt_2 (List.mem_of_getElem? (i := 165) (by decide +kernel)) (by decide +kernel)
theorem mw_254 : (Cond.instanceMethod y_T_tick) ∈ wd := mt_2 (List.mem_of_getElem? (i := 163) (by decide +kernel)) (by decide +kernel)
theorem mw_255 : (Cond.selects R_T y_T_tick y_T_tick) ∈ wd := mt_2 (List.mem_of_getElem? (i := 164) (by decide +kernel)) (by decide +kernel)
theorem mw_256 : (Cond.methodLink R_P 53 y_T_greatest) ∈ wd := mt_2 (List.mem_of_getElem? (i := 167) (by decide +kernel)) (by decide +kernel)
theorem mw_257 : (Cond.code y_T_greatest b_T_greatest 2 (some .int)) ∈ wd := mt_2 (List.mem_of_getElem? (i := 170) (by decide +kernel)) (by decide +kernel)
theorem mw_258 : (Cond.instanceMethod y_T_greatest) ∈ wd := mt_2 (List.mem_of_getElem? (i := 168) (by decide +kernel)) (by decide +kernel)
theorem mw_259 : (Cond.selects R_T y_T_greatest y_T_greatest) ∈ wd := mt_2 (List.mem_of_getElem? (i := 169) (by decide +kernel)) (by decide +kernel)
theorem mw_260 : (Cond.methodLink R_P 64 y_P_refuseFetch) ∈ wd := mt_2 (List.mem_of_getElem? (i := 193) (by decide +kernel)) (by decide +kernel)
theorem mw_261 : (Cond.code y_P_refuseFetch b_P_refuseFetch 2 (some .int)) ∈ wd := mt_2 (List.mem_of_getElem? (i := 196) (by decide +kernel)) (by decide +kernel)
theorem mw_262 : (Cond.instanceMethod y_P_refuseFetch) ∈ wd := mt_2 (List.mem_of_getElem? (i := 195) (by decide +kernel)) (by decide +kernel)
theorem mw_263 : (Cond.selects R_P y_P_refuseFetch y_P_refuseFetch) ∈ wd := mt_s (by decide +kernel) (by decide +kernel)
theorem mw_264 : (Cond.methodLink R_P 77 y_P_finish) ∈ wd := mt_3 (List.mem_of_getElem? (i := 56) (by decide +kernel)) (by decide +kernel)
theorem mw_265 : (Cond.code y_P_finish b_P_finish 2 (none)) ∈ wd := mt_3 (List.mem_of_getElem? (i := 59) (by decide +kernel)) (by decide +kernel)
theorem mw_266 : (Cond.instanceMethod y_P_finish) ∈ wd := mt_3 (List.mem_of_getElem? (i := 58) (by decide +kernel)) (by decide +kernel)
theorem mw_267 : (Cond.selects R_P y_P_finish y_P_finish) ∈ wd := mt_s (by decide +kernel) (by decide +kernel)
theorem mw_268 : (Cond.methodLink R_P 74 y_P_perform) ∈ wd := mt_2 (List.mem_of_getElem? (i := 211) (by decide +kernel)) (by decide +kernel)
theorem mw_269 : (Cond.code y_P_perform b_P_perform 4 (some .int)) ∈ wd := mt_2 (List.mem_of_getElem? (i := 214) (by decide +kernel)) (by decide +kernel)
theorem mw_270 : (Cond.instanceMethod y_P_perform) ∈ wd := mt_2 (List.mem_of_getElem? (i := 213) (by decide +kernel)) (by decide +kernel)
theorem mw_271 : (Cond.selects R_P y_P_perform y_P_perform) ∈ wd := mt_s (by decide +kernel) (by decide +kernel)
theorem mw_272 : (Cond.methodLink R_P 60 y_P_takeInterrupt) ∈ wd := mt_2 (List.mem_of_getElem? (i := 172) (by decide +kernel)) (by decide +kernel)
theorem mw_273 : (Cond.code y_P_takeInterrupt b_P_takeInterrupt 2 (none)) ∈ wd := mt_2 (List.mem_of_getElem? (i := 175) (by decide +kernel)) (by decide +kernel)
theorem mw_274 : (Cond.instanceMethod y_P_takeInterrupt) ∈ wd := mt_2 (List.mem_of_getElem? (i := 174) (by decide +kernel)) (by decide +kernel)
theorem mw_275 : (Cond.selects R_P y_P_takeInterrupt y_P_takeInterrupt) ∈ wd := mt_s (by decide +kernel) (by decide +kernel)
theorem mw_276 : (Cond.methodLink R_C 16 y_M_has) ∈ wd := mt_1 (List.mem_of_getElem? (i := 193) (by decide +kernel)) (by decide +kernel)
theorem mw_277 : (Cond.methodLink R_C 26 y_M_write) ∈ wd := mt_1 (List.mem_of_getElem? (i := 196) (by decide +kernel)) (by decide +kernel)
theorem mw_278 : (Cond.methodLink R_C 46 y_M_chainAreas) ∈ wd := mt_2 (List.mem_of_getElem? (i := 112) (by decide +kernel)) (by decide +kernel)
theorem mw_279 : (Cond.code y_M_chainAreas b_M_chainAreas 3 (none)) ∈ wd := mt_2 (List.mem_of_getElem? (i := 115) (by decide +kernel)) (by decide +kernel)
theorem mw_280 : (Cond.instanceMethod y_M_chainAreas) ∈ wd := mt_2 (List.mem_of_getElem? (i := 113) (by decide +kernel)) (by decide +kernel)
theorem mw_281 : (Cond.selects R_M y_M_chainAreas y_M_chainAreas) ∈ wd := mt_2 (List.mem_of_getElem? (i := 114) (by decide +kernel)) (by decide +kernel)
theorem mw_282 : (Cond.methodLink R_C 80 y_G_change) ∈ wd := mt_2 (List.mem_of_getElem? (i := 126) (by decide +kernel)) (by decide +kernel)
theorem mw_283 : (Cond.code y_G_change b_G_change 5 (none)) ∈ wd := mt_2 (List.mem_of_getElem? (i := 129) (by decide +kernel)) (by decide +kernel)
theorem mw_284 : (Cond.instanceMethod y_G_change) ∈ wd := mt_2 (List.mem_of_getElem? (i := 127) (by decide +kernel)) (by decide +kernel)
theorem mw_285 : (Cond.selects R_G y_G_change y_G_change) ∈ wd := mt_2 (List.mem_of_getElem? (i := 128) (by decide +kernel)) (by decide +kernel)
theorem mw_286 : (Cond.methodLink R_C 89 y_T_has) ∈ wd := mt_1 (List.mem_of_getElem? (i := 213) (by decide +kernel)) (by decide +kernel)
theorem mw_287 : (Cond.code y_T_has b_T_has 1 (some .boolean)) ∈ wd := mt_1 (List.mem_of_getElem? (i := 215) (by decide +kernel)) (by decide +kernel)
theorem mw_288 : (Cond.static y_T_has) ∈ wd := mt_1 (List.mem_of_getElem? (i := 214) (by decide +kernel)) (by decide +kernel)
theorem mw_289 : (Cond.initialized y_T_has.cls) ∈ wd := mt_1 (List.mem_of_getElem? (i := 6) (by decide +kernel)) (by decide +kernel)
theorem mw_290 : (Cond.methodLink R_C 104 y_T_isPending) ∈ wd := mt_1 (List.mem_of_getElem? (i := 216) (by decide +kernel)) (by decide +kernel)
theorem mw_291 : (Cond.methodLink R_C 107 y_T_ask) ∈ wd := mt_1 (List.mem_of_getElem? (i := 220) (by decide +kernel)) (by decide +kernel)
theorem mw_292 : (Cond.methodLink R_C 112 y_R_begin) ∈ wd := mt_2 (List.mem_of_getElem? (i := 146) (by decide +kernel)) (by decide +kernel)
theorem mw_293 : (Cond.code y_R_begin b_R_begin 4 (none)) ∈ wd := mt_2 (List.mem_of_getElem? (i := 149) (by decide +kernel)) (by decide +kernel)
theorem mw_294 : (Cond.instanceMethod y_R_begin) ∈ wd := mt_2 (List.mem_of_getElem? (i := 147) (by decide +kernel)) (by decide +kernel)
theorem mw_295 : (Cond.selects R_R y_R_begin y_R_begin) ∈ wd := mt_2 (List.mem_of_getElem? (i := 148) (by decide +kernel)) (by decide +kernel)
theorem mw_296 : (Cond.methodLink R_C 118 y_P_step) ∈ wd := mt_2 (List.mem_of_getElem? (i := 158) (by decide +kernel)) (by decide +kernel)
theorem mw_297 : (Cond.code y_P_step b_P_step 3 (none)) ∈ wd := mt_2 (List.mem_of_getElem? (i := 161) (by decide +kernel)) (by decide +kernel)
theorem mw_298 : (Cond.instanceMethod y_P_step) ∈ wd := mt_2 (List.mem_of_getElem? (i := 159) (by decide +kernel)) (by decide +kernel)
theorem mw_299 : (Cond.selects R_P y_P_step y_P_step) ∈ wd := mt_2 (List.mem_of_getElem? (i := 160) (by decide +kernel)) (by decide +kernel)
theorem mw_300 : (Cond.methodLink R_C 133 y_M_read) ∈ wd := mt_1 (List.mem_of_getElem? (i := 232) (by decide +kernel)) (by decide +kernel)
theorem mw_301 : (Cond.methodLink R_C 140 y_R_state) ∈ wd := mt_2 (List.mem_of_getElem? (i := 0) (by decide +kernel)) (by decide +kernel)
theorem mw_302 : (Cond.methodLink R_C 165 y_M_countAreas) ∈ wd := mt_2 (List.mem_of_getElem? (i := 8) (by decide +kernel)) (by decide +kernel)
theorem mw_303 : (Cond.code y_M_countAreas b_M_countAreas 4 (some .int)) ∈ wd := mt_2 (List.mem_of_getElem? (i := 11) (by decide +kernel)) (by decide +kernel)
theorem mw_304 : (Cond.instanceMethod y_M_countAreas) ∈ wd := mt_2 (List.mem_of_getElem? (i := 9) (by decide +kernel)) (by decide +kernel)
theorem mw_305 : (Cond.selects R_M y_M_countAreas y_M_countAreas) ∈ wd := mt_2 (List.mem_of_getElem? (i := 10) (by decide +kernel)) (by decide +kernel)
theorem mw_306 : (Cond.methodLink R_X 41 y_X_isArea) ∈ wd := mt_3 (List.mem_of_getElem? (i := 235) (by decide +kernel)) (by decide +kernel)
theorem mw_307 : (Cond.code y_X_isArea b_X_isArea 1 (some .boolean)) ∈ wd := mt_3 (List.mem_of_getElem? (i := 237) (by decide +kernel)) (by decide +kernel)
theorem mw_308 : (Cond.static y_X_isArea) ∈ wd := mt_3 (List.mem_of_getElem? (i := 236) (by decide +kernel)) (by decide +kernel)
theorem mw_309 : (Cond.initialized y_X_isArea.cls) ∈ wd := mt_1 (List.mem_of_getElem? (i := 7) (by decide +kernel)) (by decide +kernel)
theorem mw_310 : (Cond.methodLink R_X 49 y_X_wordsOf) ∈ wd := mt_3 (List.mem_of_getElem? (i := 188) (by decide +kernel)) (by decide +kernel)
theorem mw_311 : (Cond.code y_X_wordsOf b_X_wordsOf 1 (some .int)) ∈ wd := mt_3 (List.mem_of_getElem? (i := 190) (by decide +kernel)) (by decide +kernel)
theorem mw_312 : (Cond.static y_X_wordsOf) ∈ wd := mt_3 (List.mem_of_getElem? (i := 189) (by decide +kernel)) (by decide +kernel)
theorem mw_313 : (Cond.initialized y_X_wordsOf.cls) ∈ wd := mt_1 (List.mem_of_getElem? (i := 7) (by decide +kernel)) (by decide +kernel)
theorem mw_314 : (Cond.methodLink R_X 74 y_X_keep) ∈ wd := mt_3 (List.mem_of_getElem? (i := 231) (by decide +kernel)) (by decide +kernel)
theorem mw_315 : (Cond.code y_X_keep b_X_keep 6 (some .boolean)) ∈ wd := mt_3 (List.mem_of_getElem? (i := 234) (by decide +kernel)) (by decide +kernel)
theorem mw_316 : (Cond.instanceMethod y_X_keep) ∈ wd := mt_3 (List.mem_of_getElem? (i := 233) (by decide +kernel)) (by decide +kernel)
theorem mw_317 : (Cond.selects R_X y_X_keep y_X_keep) ∈ wd := mt_s (by decide +kernel) (by decide +kernel)
theorem mw_318 : (Cond.initialized R_X) ∈ wd := mt_1 (List.mem_of_getElem? (i := 7) (by decide +kernel)) (by decide +kernel)
theorem mw_319 : (Cond.methodLink R_X 84 y_X_enter) ∈ wd := mt_3 (List.mem_of_getElem? (i := 227) (by decide +kernel)) (by decide +kernel)
theorem mw_320 : (Cond.code y_X_enter b_X_enter 3 (some .boolean)) ∈ wd := mt_3 (List.mem_of_getElem? (i := 230) (by decide +kernel)) (by decide +kernel)
theorem mw_321 : (Cond.instanceMethod y_X_enter) ∈ wd := mt_3 (List.mem_of_getElem? (i := 229) (by decide +kernel)) (by decide +kernel)
theorem mw_322 : (Cond.selects R_X y_X_enter y_X_enter) ∈ wd := mt_s (by decide +kernel) (by decide +kernel)
theorem mw_323 : (Cond.methodLink R_X 94 y_X_guarded) ∈ wd := mt_4 (List.mem_of_getElem? (i := 2) (by decide +kernel)) (by decide +kernel)
theorem mw_324 : (Cond.code y_X_guarded b_X_guarded 1 (some .boolean)) ∈ wd := mt_4 (List.mem_of_getElem? (i := 5) (by decide +kernel)) (by decide +kernel)
theorem mw_325 : (Cond.instanceMethod y_X_guarded) ∈ wd := mt_4 (List.mem_of_getElem? (i := 4) (by decide +kernel)) (by decide +kernel)
theorem mw_326 : (Cond.selects R_X y_X_guarded y_X_guarded) ∈ wd := mt_s (by decide +kernel) (by decide +kernel)
theorem mw_327 : (Cond.methodLink R_X 99 y_X_may) ∈ wd := mt_4 (List.mem_of_getElem? (i := 19) (by decide +kernel)) (by decide +kernel)
theorem mw_328 : (Cond.code y_X_may b_X_may 6 (some .boolean)) ∈ wd := mt_4 (List.mem_of_getElem? (i := 22) (by decide +kernel)) (by decide +kernel)
theorem mw_329 : (Cond.instanceMethod y_X_may) ∈ wd := mt_4 (List.mem_of_getElem? (i := 21) (by decide +kernel)) (by decide +kernel)
theorem mw_330 : (Cond.selects R_X y_X_may y_X_may) ∈ wd := mt_s (by decide +kernel) (by decide +kernel)
theorem mw_331 : (Cond.methodLink R_X 104 y_X_canBring) ∈ wd := mt_4 (List.mem_of_getElem? (i := 31) (by decide +kernel)) (by decide +kernel)
theorem mw_332 : (Cond.code y_X_canBring b_X_canBring 3 (some .boolean)) ∈ wd := mt_4 (List.mem_of_getElem? (i := 34) (by decide +kernel)) (by decide +kernel)
theorem mw_333 : (Cond.instanceMethod y_X_canBring) ∈ wd := mt_4 (List.mem_of_getElem? (i := 33) (by decide +kernel)) (by decide +kernel)
theorem mw_334 : (Cond.selects R_X y_X_canBring y_X_canBring) ∈ wd := mt_s (by decide +kernel) (by decide +kernel)
theorem mw_335 : (Cond.methodLink R_X 107 y_X_bring) ∈ wd := mt_4 (List.mem_of_getElem? (i := 35) (by decide +kernel)) (by decide +kernel)
theorem mw_336 : (Cond.code y_X_bring b_X_bring 6 (none)) ∈ wd := mt_4 (List.mem_of_getElem? (i := 38) (by decide +kernel)) (by decide +kernel)
theorem mw_337 : (Cond.instanceMethod y_X_bring) ∈ wd := mt_4 (List.mem_of_getElem? (i := 37) (by decide +kernel)) (by decide +kernel)
theorem mw_338 : (Cond.selects R_X y_X_bring y_X_bring) ∈ wd := mt_s (by decide +kernel) (by decide +kernel)
theorem mw_339 : (Cond.methodLink R_X 127 y_X_system) ∈ wd := mt_4 (List.mem_of_getElem? (i := 39) (by decide +kernel)) (by decide +kernel)
theorem mw_340 : (Cond.code y_X_system b_X_system 3 (none)) ∈ wd := mt_4 (List.mem_of_getElem? (i := 42) (by decide +kernel)) (by decide +kernel)
theorem mw_341 : (Cond.instanceMethod y_X_system) ∈ wd := mt_4 (List.mem_of_getElem? (i := 41) (by decide +kernel)) (by decide +kernel)
theorem mw_342 : (Cond.selects R_X y_X_system y_X_system) ∈ wd := mt_s (by decide +kernel) (by decide +kernel)
theorem mw_343 : (Cond.methodLink R_X 111 y_X_reckon) ∈ wd := mt_4 (List.mem_of_getElem? (i := 10) (by decide +kernel)) (by decide +kernel)
theorem mw_344 : (Cond.code y_X_reckon b_X_reckon 8 (none)) ∈ wd := mt_4 (List.mem_of_getElem? (i := 13) (by decide +kernel)) (by decide +kernel)
theorem mw_345 : (Cond.instanceMethod y_X_reckon) ∈ wd := mt_4 (List.mem_of_getElem? (i := 12) (by decide +kernel)) (by decide +kernel)
theorem mw_346 : (Cond.selects R_X y_X_reckon y_X_reckon) ∈ wd := mt_s (by decide +kernel) (by decide +kernel)
theorem mw_347 : (Cond.methodLink R_X 115 y_X_move) ∈ wd := mt_4 (List.mem_of_getElem? (i := 14) (by decide +kernel)) (by decide +kernel)
theorem mw_348 : (Cond.code y_X_move b_X_move 11 (none)) ∈ wd := mt_4 (List.mem_of_getElem? (i := 17) (by decide +kernel)) (by decide +kernel)
theorem mw_349 : (Cond.instanceMethod y_X_move) ∈ wd := mt_4 (List.mem_of_getElem? (i := 16) (by decide +kernel)) (by decide +kernel)
theorem mw_350 : (Cond.selects R_X y_X_move y_X_move) ∈ wd := mt_s (by decide +kernel) (by decide +kernel)
theorem mw_351 : (Cond.methodLink R_X 119 y_X_jump) ∈ wd := mt_4 (List.mem_of_getElem? (i := 24) (by decide +kernel)) (by decide +kernel)
theorem mw_352 : (Cond.code y_X_jump b_X_jump 6 (some .int)) ∈ wd := mt_4 (List.mem_of_getElem? (i := 26) (by decide +kernel)) (by decide +kernel)
theorem mw_353 : (Cond.static y_X_jump) ∈ wd := mt_4 (List.mem_of_getElem? (i := 25) (by decide +kernel)) (by decide +kernel)
theorem mw_354 : (Cond.initialized y_X_jump.cls) ∈ wd := mt_1 (List.mem_of_getElem? (i := 7) (by decide +kernel)) (by decide +kernel)
theorem mw_355 : (Cond.methodLink R_X 123 y_X_context) ∈ wd := mt_4 (List.mem_of_getElem? (i := 27) (by decide +kernel)) (by decide +kernel)
theorem mw_356 : (Cond.code y_X_context b_X_context 5 (some .int)) ∈ wd := mt_4 (List.mem_of_getElem? (i := 30) (by decide +kernel)) (by decide +kernel)
theorem mw_357 : (Cond.instanceMethod y_X_context) ∈ wd := mt_4 (List.mem_of_getElem? (i := 29) (by decide +kernel)) (by decide +kernel)
theorem mw_358 : (Cond.selects R_X y_X_context y_X_context) ∈ wd := mt_s (by decide +kernel) (by decide +kernel)
theorem mw_359 : (Cond.methodLink R_X 146 y_X_take) ∈ wd := mt_3 (List.mem_of_getElem? (i := 238) (by decide +kernel)) (by decide +kernel)
theorem mw_360 : (Cond.code y_X_take b_X_take 3 (none)) ∈ wd := mt_4 (List.mem_of_getElem? (i := 1) (by decide +kernel)) (by decide +kernel)
theorem mw_361 : (Cond.instanceMethod y_X_take) ∈ wd := mt_4 (List.mem_of_getElem? (i := 0) (by decide +kernel)) (by decide +kernel)
theorem mw_362 : (Cond.selects R_X y_X_take y_X_take) ∈ wd := mt_s (by decide +kernel) (by decide +kernel)
theorem mw_363 : (Cond.methodLink R_X 149 y_X_instruction) ∈ wd := mt_4 (List.mem_of_getElem? (i := 6) (by decide +kernel)) (by decide +kernel)
theorem mw_364 : (Cond.code y_X_instruction b_X_instruction 9 (none)) ∈ wd := mt_4 (List.mem_of_getElem? (i := 9) (by decide +kernel)) (by decide +kernel)
theorem mw_365 : (Cond.instanceMethod y_X_instruction) ∈ wd := mt_4 (List.mem_of_getElem? (i := 8) (by decide +kernel)) (by decide +kernel)
theorem mw_366 : (Cond.selects R_X y_X_instruction y_X_instruction) ∈ wd := mt_s (by decide +kernel) (by decide +kernel)
theorem mw_367 : (Cond.methodLink R_X 153 y_X_step) ∈ wd := mt_3 (List.mem_of_getElem? (i := 223) (by decide +kernel)) (by decide +kernel)
theorem mw_368 : (Cond.code y_X_step b_X_step 3 (none)) ∈ wd := mt_3 (List.mem_of_getElem? (i := 226) (by decide +kernel)) (by decide +kernel)
theorem mw_369 : (Cond.instanceMethod y_X_step) ∈ wd := mt_3 (List.mem_of_getElem? (i := 225) (by decide +kernel)) (by decide +kernel)
theorem mw_370 : (Cond.selects R_X y_X_step y_X_step) ∈ wd := mt_s (by decide +kernel) (by decide +kernel)
theorem g_M_read_M_has_15 : GoodIn wd (va_wsS R_M 15 y_M_has (.code y_M_has b_M_has 1 (some .boolean) :: wd)) := zz_goodS wd_good mw_96 mw_98 mw_99 mw_97
theorem g_M_write_M_has_15 : GoodIn wd (va_wsS R_M 15 y_M_has (.code y_M_has b_M_has 1 (some .boolean) :: wd)) := zz_goodS wd_good mw_96 mw_98 mw_99 mw_97
theorem g_M_chainAreas_M_areaStart_19 : GoodIn wd (va_wsS R_M 19 y_M_areaStart (.code y_M_areaStart b_M_areaStart 1 (some .int) :: wd)) := zz_goodS wd_good mw_100 mw_102 mw_103 mw_101
theorem g_M_chainAreas_M_write_23 : GoodIn wd (wsV R_M 23 R_M y_M_write (.code y_M_write b_M_write 3 (none) :: wd)) := zz_goodV wd_good mw_104 mw_106 mw_107 mw_108 mw_105
theorem g_M_countAreas_M_isArea_27 : GoodIn wd (va_wsS R_M 27 y_M_isArea (.code y_M_isArea b_M_isArea 1 (some .boolean) :: wd)) := zz_goodS wd_good mw_109 mw_111 mw_112 mw_110
theorem g_M_countAreas_M_areaStart_19 : GoodIn wd (va_wsS R_M 19 y_M_areaStart (.code y_M_areaStart b_M_areaStart 1 (some .int) :: wd)) := zz_goodS wd_good mw_100 mw_102 mw_103 mw_101
theorem g_M_countAreas_M_read_30 : GoodIn wd (wsV R_M 30 R_M y_M_read (.code y_M_read b_M_read 2 (some .int) :: wd)) := zz_goodV wd_good mw_113 mw_115 mw_116 mw_108 mw_114
theorem g_R_keep_M_isArea_41 : GoodIn wd (va_wsS R_R 41 y_M_isArea (.code y_M_isArea b_M_isArea 1 (some .boolean) :: wd)) := zz_goodS wd_good mw_117 mw_111 mw_112 mw_110
theorem g_R_keep_M_areaStart_47 : GoodIn wd (va_wsS R_R 47 y_M_areaStart (.code y_M_areaStart b_M_areaStart 1 (some .int) :: wd)) := zz_goodS wd_good mw_118 mw_102 mw_103 mw_101
theorem g_R_keep_M_read_51 : GoodIn wd (wsV R_R 51 R_M y_M_read (.code y_M_read b_M_read 2 (some .int) :: wd)) := zz_goodV wd_good mw_119 mw_115 mw_116 mw_108 mw_114
theorem g_R_keep_M_write_57 : GoodIn wd (wsV R_R 57 R_M y_M_write (.code y_M_write b_M_write 3 (none) :: wd)) := zz_goodV wd_good mw_120 mw_106 mw_107 mw_108 mw_105
theorem g_R_keep_R_state_61 : GoodIn wd (wsV R_R 61 R_R y_R_state (.code y_R_state b_R_state 1 (some .int) :: wd)) := zz_goodV wd_good mw_121 mw_123 mw_124 mw_125 mw_122
theorem g_R_refuseBack_M_isArea_41 : GoodIn wd (va_wsS R_R 41 y_M_isArea (.code y_M_isArea b_M_isArea 1 (some .boolean) :: wd)) := zz_goodS wd_good mw_117 mw_111 mw_112 mw_110
theorem g_R_bringBack_M_areaStart_47 : GoodIn wd (va_wsS R_R 47 y_M_areaStart (.code y_M_areaStart b_M_areaStart 1 (some .int) :: wd)) := zz_goodS wd_good mw_118 mw_102 mw_103 mw_101
theorem g_R_bringBack_M_read_51 : GoodIn wd (wsV R_R 51 R_M y_M_read (.code y_M_read b_M_read 2 (some .int) :: wd)) := zz_goodV wd_good mw_119 mw_115 mw_116 mw_108 mw_114
theorem g_R_bringBack_R_takeState_71 : GoodIn wd (wsV R_R 71 R_R y_R_takeState (.code y_R_takeState b_R_takeState 2 (none) :: wd)) := zz_goodV wd_good mw_126 mw_128 mw_129 mw_125 mw_127
theorem g_R_bringBack_M_write_57 : GoodIn wd (wsV R_R 57 R_M y_M_write (.code y_M_write b_M_write 3 (none) :: wd)) := zz_goodV wd_good mw_120 mw_106 mw_107 mw_108 mw_105
theorem g_G_letsRun_G_covers_21 : GoodIn wd (wsV R_G 21 R_G y_G_covers (.code y_G_covers b_G_covers 3 (some .boolean) :: wd)) := zz_goodV wd_good mw_130 mw_132 mw_133 mw_134 mw_131
theorem g_G_letsUse_G_covers_21 : GoodIn wd (wsV R_G 21 R_G y_G_covers (.code y_G_covers b_G_covers 3 (some .boolean) :: wd)) := zz_goodV wd_good mw_130 mw_132 mw_133 mw_134 mw_131
theorem g_T_tick_T_ask_24 : GoodIn wd (wsV R_T 24 R_T y_T_ask (.code y_T_ask b_T_ask 2 (none) :: wd)) := zz_goodV wd_good mw_135 mw_137 mw_138 mw_139 mw_136
theorem g_T_greatest_T_isPending_28 : GoodIn wd (wsV R_T 28 R_T y_T_isPending (.code y_T_isPending b_T_isPending 2 (some .boolean) :: wd)) := zz_goodV wd_good mw_140 mw_142 mw_143 mw_139 mw_141
theorem g_P_takeInterrupt_R_keep_87 : GoodIn wd (wsV R_P 87 R_R y_R_keep (.code y_R_keep b_R_keep 7 (some .boolean) :: wd)) := zz_goodV wd_good mw_144 mw_146 mw_147 mw_125 mw_145
theorem g_P_takeInterrupt_T_take_91 : GoodIn wd (wsV R_P 91 R_T y_T_take (.code y_T_take b_T_take 2 (none) :: wd)) := zz_goodV wd_good mw_148 mw_150 mw_151 mw_139 mw_149
theorem g_P_takeInterrupt_R_enterHandler_97 : GoodIn wd (wsV R_P 97 R_R y_R_enterHandler (.code y_R_enterHandler b_R_enterHandler 3 (none) :: wd)) := zz_goodV wd_good mw_152 mw_154 mw_155 mw_125 mw_153
theorem g_P_takeTrap_R_keep_87 : GoodIn wd (wsV R_P 87 R_R y_R_keep (.code y_R_keep b_R_keep 7 (some .boolean) :: wd)) := zz_goodV wd_good mw_144 mw_146 mw_147 mw_125 mw_145
theorem g_P_takeTrap_R_enterHandler_97 : GoodIn wd (wsV R_P 97 R_R y_R_enterHandler (.code y_R_enterHandler b_R_enterHandler 3 (none) :: wd)) := zz_goodV wd_good mw_152 mw_154 mw_155 mw_125 mw_153
theorem g_P_finish_P_takeTrap_83 : GoodIn wd (wsV R_P 83 R_P y_P_takeTrap (.code y_P_takeTrap b_P_takeTrap 5 (none) :: wd)) := zz_goodV wd_good mw_156 mw_158 mw_159 mw_160 mw_157
theorem g_P_refuseFetch_M_has_116 : GoodIn wd (va_wsS R_P 116 y_M_has (.code y_M_has b_M_has 1 (some .boolean) :: wd)) := zz_goodS wd_good mw_161 mw_98 mw_99 mw_97
theorem g_P_refuseFetch_P_isGuarded_120 : GoodIn wd (wsV R_P 120 R_P y_P_isGuarded (.code y_P_isGuarded b_P_isGuarded 1 (some .boolean) :: wd)) := zz_goodV wd_good mw_162 mw_164 mw_165 mw_160 mw_163
theorem g_P_refuseFetch_G_letsRun_127 : GoodIn wd (wsV R_P 127 R_G y_G_letsRun (.code y_G_letsRun b_G_letsRun 3 (some .boolean) :: wd)) := zz_goodV wd_good mw_166 mw_168 mw_169 mw_134 mw_167
theorem g_P_refuseWord_M_has_116 : GoodIn wd (va_wsS R_P 116 y_M_has (.code y_M_has b_M_has 1 (some .boolean) :: wd)) := zz_goodS wd_good mw_161 mw_98 mw_99 mw_97
theorem g_P_refuseWord_P_isGuarded_120 : GoodIn wd (wsV R_P 120 R_P y_P_isGuarded (.code y_P_isGuarded b_P_isGuarded 1 (some .boolean) :: wd)) := zz_goodV wd_good mw_162 mw_164 mw_165 mw_160 mw_163
theorem g_P_refuseWord_G_letsUse_184 : GoodIn wd (wsV R_P 184 R_G y_G_letsUse (.code y_G_letsUse b_G_letsUse 6 (some .boolean) :: wd)) := zz_goodV wd_good mw_170 mw_172 mw_173 mw_134 mw_171
theorem g_P_compute_P_fieldA_175 : GoodIn wd (va_wsS R_P 175 y_P_fieldA (.code y_P_fieldA b_P_fieldA 1 (some .int) :: wd)) := zz_goodS wd_good mw_174 mw_176 mw_177 mw_175
theorem g_P_compute_P_fieldB_178 : GoodIn wd (va_wsS R_P 178 y_P_fieldB (.code y_P_fieldB b_P_fieldB 1 (some .int) :: wd)) := zz_goodS wd_good mw_178 mw_180 mw_181 mw_179
theorem g_P_compute_P_fieldC_181 : GoodIn wd (va_wsS R_P 181 y_P_fieldC (.code y_P_fieldC b_P_fieldC 1 (some .int) :: wd)) := zz_goodS wd_good mw_182 mw_184 mw_185 mw_183
theorem g_P_compute_P_amount_131 : GoodIn wd (va_wsS R_P 131 y_P_amount (.code y_P_amount b_P_amount 1 (some .int) :: wd)) := zz_goodS wd_good mw_186 mw_188 mw_189 mw_187
theorem g_P_moveWord_P_fieldB_178 : GoodIn wd (va_wsS R_P 178 y_P_fieldB (.code y_P_fieldB b_P_fieldB 1 (some .int) :: wd)) := zz_goodS wd_good mw_178 mw_180 mw_181 mw_179
theorem g_P_moveWord_P_amount_131 : GoodIn wd (va_wsS R_P 131 y_P_amount (.code y_P_amount b_P_amount 1 (some .int) :: wd)) := zz_goodS wd_good mw_186 mw_188 mw_189 mw_187
theorem g_P_moveWord_P_refuseWord_188 : GoodIn wd (wsV R_P 188 R_P y_P_refuseWord (.code y_P_refuseWord b_P_refuseWord 3 (some .int) :: wd)) := zz_goodV wd_good mw_190 mw_192 mw_193 mw_160 mw_191
theorem g_P_moveWord_P_fieldA_175 : GoodIn wd (va_wsS R_P 175 y_P_fieldA (.code y_P_fieldA b_P_fieldA 1 (some .int) :: wd)) := zz_goodS wd_good mw_174 mw_176 mw_177 mw_175
theorem g_P_moveWord_M_read_70 : GoodIn wd (wsV R_P 70 R_M y_M_read (.code y_M_read b_M_read 2 (some .int) :: wd)) := zz_goodV wd_good mw_194 mw_115 mw_116 mw_108 mw_114
theorem g_P_moveWord_M_write_191 : GoodIn wd (wsV R_P 191 R_M y_M_write (.code y_M_write b_M_write 3 (none) :: wd)) := zz_goodV wd_good mw_195 mw_106 mw_107 mw_108 mw_105
theorem g_P_readRing_P_fieldB_178 : GoodIn wd (va_wsS R_P 178 y_P_fieldB (.code y_P_fieldB b_P_fieldB 1 (some .int) :: wd)) := zz_goodS wd_good mw_178 mw_180 mw_181 mw_179
theorem g_P_readRing_P_refuseWord_188 : GoodIn wd (wsV R_P 188 R_P y_P_refuseWord (.code y_P_refuseWord b_P_refuseWord 3 (some .int) :: wd)) := zz_goodV wd_good mw_190 mw_192 mw_193 mw_160 mw_191
theorem g_P_readRing_P_fieldA_175 : GoodIn wd (va_wsS R_P 175 y_P_fieldA (.code y_P_fieldA b_P_fieldA 1 (some .int) :: wd)) := zz_goodS wd_good mw_174 mw_176 mw_177 mw_175
theorem g_P_readRing_M_read_70 : GoodIn wd (wsV R_P 70 R_M y_M_read (.code y_M_read b_M_read 2 (some .int) :: wd)) := zz_goodV wd_good mw_194 mw_115 mw_116 mw_108 mw_114
theorem g_P_readRing_P_amount_131 : GoodIn wd (va_wsS R_P 131 y_P_amount (.code y_P_amount b_P_amount 1 (some .int) :: wd)) := zz_goodS wd_good mw_186 mw_188 mw_189 mw_187
theorem g_P_readRing_Z_floorMod_196 : GoodIn wd (va_wsS R_P 196 y_Z_floorMod (.code y_Z_floorMod b_Z_floorMod 3 (some .int) :: wd)) := zz_goodS wd_good mw_196 mw_198 mw_199 mw_197
theorem g_P_jump_P_fieldA_175 : GoodIn wd (va_wsS R_P 175 y_P_fieldA (.code y_P_fieldA b_P_fieldA 1 (some .int) :: wd)) := zz_goodS wd_good mw_174 mw_176 mw_177 mw_175
theorem g_P_jump_P_fieldB_178 : GoodIn wd (va_wsS R_P 178 y_P_fieldB (.code y_P_fieldB b_P_fieldB 1 (some .int) :: wd)) := zz_goodS wd_good mw_178 mw_180 mw_181 mw_179
theorem g_P_jump_P_amount_131 : GoodIn wd (va_wsS R_P 131 y_P_amount (.code y_P_amount b_P_amount 1 (some .int) :: wd)) := zz_goodS wd_good mw_186 mw_188 mw_189 mw_187
theorem g_P_callDown_R_keep_87 : GoodIn wd (wsV R_P 87 R_R y_R_keep (.code y_R_keep b_R_keep 7 (some .boolean) :: wd)) := zz_goodV wd_good mw_144 mw_146 mw_147 mw_125 mw_145
theorem g_P_goBack_R_refuseBack_201 : GoodIn wd (wsV R_P 201 R_R y_R_refuseBack (.code y_R_refuseBack b_R_refuseBack 3 (some .int) :: wd)) := zz_goodV wd_good mw_200 mw_202 mw_203 mw_125 mw_201
theorem g_P_goBack_R_bringBack_207 : GoodIn wd (wsV R_P 207 R_R y_R_bringBack (.code y_R_bringBack b_R_bringBack 7 (none) :: wd)) := zz_goodV wd_good mw_204 mw_206 mw_207 mw_125 mw_205
theorem g_P_keepLower_R_keep_87 : GoodIn wd (wsV R_P 87 R_R y_R_keep (.code y_R_keep b_R_keep 7 (some .boolean) :: wd)) := zz_goodV wd_good mw_144 mw_146 mw_147 mw_125 mw_145
theorem g_P_bringLowerBack_R_refuseBack_201 : GoodIn wd (wsV R_P 201 R_R y_R_refuseBack (.code y_R_refuseBack b_R_refuseBack 3 (some .int) :: wd)) := zz_goodV wd_good mw_200 mw_202 mw_203 mw_125 mw_201
theorem g_P_bringLowerBack_R_bringBack_207 : GoodIn wd (wsV R_P 207 R_R y_R_bringBack (.code y_R_bringBack b_R_bringBack 7 (none) :: wd)) := zz_goodV wd_good mw_204 mw_206 mw_207 mw_125 mw_205
theorem g_P_openHandler_R_keep_87 : GoodIn wd (wsV R_P 87 R_R y_R_keep (.code y_R_keep b_R_keep 7 (some .boolean) :: wd)) := zz_goodV wd_good mw_144 mw_146 mw_147 mw_125 mw_145
theorem g_P_perform_P_amount_131 : GoodIn wd (va_wsS R_P 131 y_P_amount (.code y_P_amount b_P_amount 1 (some .int) :: wd)) := zz_goodS wd_good mw_186 mw_188 mw_189 mw_187
theorem g_P_perform_P_needsTopLevel_134 : GoodIn wd (va_wsS R_P 134 y_P_needsTopLevel (.code y_P_needsTopLevel b_P_needsTopLevel 1 (some .boolean) :: wd)) := zz_goodS wd_good mw_208 mw_210 mw_211 mw_209
theorem g_P_perform_P_compute_169 : GoodIn wd (wsV R_P 169 R_P y_P_compute (.code y_P_compute b_P_compute 9 (some .int) :: wd)) := zz_goodV wd_good mw_212 mw_214 mw_215 mw_160 mw_213
theorem g_P_perform_P_moveWord_137 : GoodIn wd (wsV R_P 137 R_P y_P_moveWord (.code y_P_moveWord b_P_moveWord 9 (some .int) :: wd)) := zz_goodV wd_good mw_216 mw_218 mw_219 mw_160 mw_217
theorem g_P_perform_P_readRing_141 : GoodIn wd (wsV R_P 141 R_P y_P_readRing (.code y_P_readRing b_P_readRing 8 (some .int) :: wd)) := zz_goodV wd_good mw_220 mw_222 mw_223 mw_160 mw_221
theorem g_P_perform_P_jump_144 : GoodIn wd (wsV R_P 144 R_P y_P_jump (.code y_P_jump b_P_jump 6 (some .int) :: wd)) := zz_goodV wd_good mw_224 mw_226 mw_227 mw_160 mw_225
theorem g_P_perform_P_callDown_147 : GoodIn wd (wsV R_P 147 R_P y_P_callDown (.code y_P_callDown b_P_callDown 2 (some .int) :: wd)) := zz_goodV wd_good mw_228 mw_230 mw_231 mw_160 mw_229
theorem g_P_perform_P_goBack_153 : GoodIn wd (wsV R_P 153 R_P y_P_goBack (.code y_P_goBack b_P_goBack 3 (some .int) :: wd)) := zz_goodV wd_good mw_232 mw_234 mw_235 mw_160 mw_233
theorem g_P_perform_P_keepLower_157 : GoodIn wd (wsV R_P 157 R_P y_P_keepLower (.code y_P_keepLower b_P_keepLower 1 (some .int) :: wd)) := zz_goodV wd_good mw_236 mw_238 mw_239 mw_160 mw_237
theorem g_P_perform_P_bringLowerBack_160 : GoodIn wd (wsV R_P 160 R_P y_P_bringLowerBack (.code y_P_bringLowerBack b_P_bringLowerBack 2 (some .int) :: wd)) := zz_goodV wd_good mw_240 mw_242 mw_243 mw_160 mw_241
theorem g_P_perform_P_openHandler_163 : GoodIn wd (wsV R_P 163 R_P y_P_openHandler (.code y_P_openHandler b_P_openHandler 2 (some .int) :: wd)) := zz_goodV wd_good mw_244 mw_246 mw_247 mw_160 mw_245
theorem g_P_perform_P_changeLevel_166 : GoodIn wd (wsV R_P 166 R_P y_P_changeLevel (.code y_P_changeLevel b_P_changeLevel 2 (some .int) :: wd)) := zz_goodV wd_good mw_248 mw_250 mw_251 mw_160 mw_249
theorem g_P_step_T_tick_43 : GoodIn wd (wsV R_P 43 R_T y_T_tick (.code y_T_tick b_T_tick 1 (none) :: wd)) := zz_goodV wd_good mw_252 mw_254 mw_255 mw_139 mw_253
theorem g_P_step_T_greatest_53 : GoodIn wd (wsV R_P 53 R_T y_T_greatest (.code y_T_greatest b_T_greatest 2 (some .int) :: wd)) := zz_goodV wd_good mw_256 mw_258 mw_259 mw_139 mw_257
theorem g_P_step_P_refuseFetch_64 : GoodIn wd (wsV R_P 64 R_P y_P_refuseFetch (.code y_P_refuseFetch b_P_refuseFetch 2 (some .int) :: wd)) := zz_goodV wd_good mw_260 mw_262 mw_263 mw_160 mw_261
theorem g_P_step_P_finish_77 : GoodIn wd (wsV R_P 77 R_P y_P_finish (.code y_P_finish b_P_finish 2 (none) :: wd)) := zz_goodV wd_good mw_264 mw_266 mw_267 mw_160 mw_265
theorem g_P_step_M_read_70 : GoodIn wd (wsV R_P 70 R_M y_M_read (.code y_M_read b_M_read 2 (some .int) :: wd)) := zz_goodV wd_good mw_194 mw_115 mw_116 mw_108 mw_114
theorem g_P_step_P_perform_74 : GoodIn wd (wsV R_P 74 R_P y_P_perform (.code y_P_perform b_P_perform 4 (some .int) :: wd)) := zz_goodV wd_good mw_268 mw_270 mw_271 mw_160 mw_269
theorem g_P_step_P_takeInterrupt_60 : GoodIn wd (wsV R_P 60 R_P y_P_takeInterrupt (.code y_P_takeInterrupt b_P_takeInterrupt 2 (none) :: wd)) := zz_goodV wd_good mw_272 mw_274 mw_275 mw_160 mw_273
theorem g_P_step_P_takeTrap_83 : GoodIn wd (wsV R_P 83 R_P y_P_takeTrap (.code y_P_takeTrap b_P_takeTrap 5 (none) :: wd)) := zz_goodV wd_good mw_156 mw_158 mw_159 mw_160 mw_157
theorem g_C_put_M_has_16 : GoodIn wd (va_wsS R_C 16 y_M_has (.code y_M_has b_M_has 1 (some .boolean) :: wd)) := zz_goodS wd_good mw_276 mw_98 mw_99 mw_97
theorem g_C_put_M_write_26 : GoodIn wd (wsV R_C 26 R_M y_M_write (.code y_M_write b_M_write 3 (none) :: wd)) := zz_goodV wd_good mw_277 mw_106 mw_107 mw_108 mw_105
theorem g_C_pool_M_chainAreas_46 : GoodIn wd (wsV R_C 46 R_M y_M_chainAreas (.code y_M_chainAreas b_M_chainAreas 3 (none) :: wd)) := zz_goodV wd_good mw_278 mw_280 mw_281 mw_108 mw_279
theorem g_C_range_G_change_80 : GoodIn wd (wsV R_C 80 R_G y_G_change (.code y_G_change b_G_change 5 (none) :: wd)) := zz_goodV wd_good mw_282 mw_284 mw_285 mw_134 mw_283
theorem g_C_timer_T_has_89 : GoodIn wd (va_wsS R_C 89 y_T_has (.code y_T_has b_T_has 1 (some .boolean) :: wd)) := zz_goodS wd_good mw_286 mw_288 mw_289 mw_287
theorem g_C_request_T_has_89 : GoodIn wd (va_wsS R_C 89 y_T_has (.code y_T_has b_T_has 1 (some .boolean) :: wd)) := zz_goodS wd_good mw_286 mw_288 mw_289 mw_287
theorem g_C_request_T_isPending_104 : GoodIn wd (wsV R_C 104 R_T y_T_isPending (.code y_T_isPending b_T_isPending 2 (some .boolean) :: wd)) := zz_goodV wd_good mw_290 mw_142 mw_143 mw_139 mw_141
theorem g_C_request_T_ask_107 : GoodIn wd (wsV R_C 107 R_T y_T_ask (.code y_T_ask b_T_ask 2 (none) :: wd)) := zz_goodV wd_good mw_291 mw_137 mw_138 mw_139 mw_136
theorem g_C_start_R_begin_112 : GoodIn wd (wsV R_C 112 R_R y_R_begin (.code y_R_begin b_R_begin 4 (none) :: wd)) := zz_goodV wd_good mw_292 mw_294 mw_295 mw_125 mw_293
theorem g_C_run_P_step_118 : GoodIn wd (wsV R_C 118 R_P y_P_step (.code y_P_step b_P_step 3 (none) :: wd)) := zz_goodV wd_good mw_296 mw_298 mw_299 mw_160 mw_297
theorem g_C_word_M_read_133 : GoodIn wd (wsV R_C 133 R_M y_M_read (.code y_M_read b_M_read 2 (some .int) :: wd)) := zz_goodV wd_good mw_300 mw_115 mw_116 mw_108 mw_114
theorem g_C_look_R_state_140 : GoodIn wd (wsV R_C 140 R_R y_R_state (.code y_R_state b_R_state 1 (some .int) :: wd)) := zz_goodV wd_good mw_301 mw_123 mw_124 mw_125 mw_122
theorem g_C_list_M_countAreas_165 : GoodIn wd (wsV R_C 165 R_M y_M_countAreas (.code y_M_countAreas b_M_countAreas 4 (some .int) :: wd)) := zz_goodV wd_good mw_302 mw_304 mw_305 mw_108 mw_303
theorem g_X_keep_X_isArea_41 : GoodIn wd (va_wsS R_X 41 y_X_isArea (.code y_X_isArea b_X_isArea 1 (some .boolean) :: wd)) := zz_goodS wd_good mw_306 mw_308 mw_309 mw_307
theorem g_X_keep_X_wordsOf_49 : GoodIn wd (va_wsS R_X 49 y_X_wordsOf (.code y_X_wordsOf b_X_wordsOf 1 (some .int) :: wd)) := zz_goodS wd_good mw_310 mw_312 mw_313 mw_311
theorem g_X_canBring_X_isArea_41 : GoodIn wd (va_wsS R_X 41 y_X_isArea (.code y_X_isArea b_X_isArea 1 (some .boolean) :: wd)) := zz_goodS wd_good mw_306 mw_308 mw_309 mw_307
theorem g_X_bring_X_wordsOf_49 : GoodIn wd (va_wsS R_X 49 y_X_wordsOf (.code y_X_wordsOf b_X_wordsOf 1 (some .int) :: wd)) := zz_goodS wd_good mw_310 mw_312 mw_313 mw_311
theorem g_X_enter_X_keep_74 : GoodIn wd (wsV R_X 74 R_X y_X_keep (.code y_X_keep b_X_keep 6 (some .boolean) :: wd)) := zz_goodV wd_good mw_314 mw_316 mw_317 mw_318 mw_315
theorem g_X_take_X_enter_84 : GoodIn wd (wsV R_X 84 R_X y_X_enter (.code y_X_enter b_X_enter 3 (some .boolean) :: wd)) := zz_goodV wd_good mw_319 mw_321 mw_322 mw_318 mw_320
theorem g_X_may_X_guarded_94 : GoodIn wd (wsV R_X 94 R_X y_X_guarded (.code y_X_guarded b_X_guarded 1 (some .boolean) :: wd)) := zz_goodV wd_good mw_323 mw_325 mw_326 mw_318 mw_324
theorem g_X_move_X_may_99 : GoodIn wd (wsV R_X 99 R_X y_X_may (.code y_X_may b_X_may 6 (some .boolean) :: wd)) := zz_goodV wd_good mw_327 mw_329 mw_330 mw_318 mw_328
theorem g_X_context_X_keep_74 : GoodIn wd (wsV R_X 74 R_X y_X_keep (.code y_X_keep b_X_keep 6 (some .boolean) :: wd)) := zz_goodV wd_good mw_314 mw_316 mw_317 mw_318 mw_315
theorem g_X_context_X_canBring_104 : GoodIn wd (wsV R_X 104 R_X y_X_canBring (.code y_X_canBring b_X_canBring 3 (some .boolean) :: wd)) := zz_goodV wd_good mw_331 mw_333 mw_334 mw_318 mw_332
theorem g_X_context_X_bring_107 : GoodIn wd (wsV R_X 107 R_X y_X_bring (.code y_X_bring b_X_bring 6 (none) :: wd)) := zz_goodV wd_good mw_335 mw_337 mw_338 mw_318 mw_336
theorem g_X_instruction_X_system_127 : GoodIn wd (wsV R_X 127 R_X y_X_system (.code y_X_system b_X_system 3 (none) :: wd)) := zz_goodV wd_good mw_339 mw_341 mw_342 mw_318 mw_340
theorem g_X_instruction_X_reckon_111 : GoodIn wd (wsV R_X 111 R_X y_X_reckon (.code y_X_reckon b_X_reckon 8 (none) :: wd)) := zz_goodV wd_good mw_343 mw_345 mw_346 mw_318 mw_344
theorem g_X_instruction_X_move_115 : GoodIn wd (wsV R_X 115 R_X y_X_move (.code y_X_move b_X_move 11 (none) :: wd)) := zz_goodV wd_good mw_347 mw_349 mw_350 mw_318 mw_348
theorem g_X_instruction_X_jump_119 : GoodIn wd (va_wsS R_X 119 y_X_jump (.code y_X_jump b_X_jump 6 (some .int) :: wd)) := zz_goodS wd_good mw_351 mw_353 mw_354 mw_352
theorem g_X_instruction_X_context_123 : GoodIn wd (wsV R_X 123 R_X y_X_context (.code y_X_context b_X_context 5 (some .int) :: wd)) := zz_goodV wd_good mw_355 mw_357 mw_358 mw_318 mw_356
theorem g_X_step_X_take_146 : GoodIn wd (wsV R_X 146 R_X y_X_take (.code y_X_take b_X_take 3 (none) :: wd)) := zz_goodV wd_good mw_359 mw_361 mw_362 mw_318 mw_360
theorem g_X_step_X_guarded_94 : GoodIn wd (wsV R_X 94 R_X y_X_guarded (.code y_X_guarded b_X_guarded 1 (some .boolean) :: wd)) := zz_goodV wd_good mw_323 mw_325 mw_326 mw_318 mw_324
theorem g_X_step_X_instruction_149 : GoodIn wd (wsV R_X 149 R_X y_X_instruction (.code y_X_instruction b_X_instruction 9 (none) :: wd)) := zz_goodV wd_good mw_363 mw_365 mw_366 mw_318 mw_364
theorem g_X_step_X_enter_84 : GoodIn wd (wsV R_X 84 R_X y_X_enter (.code y_X_enter b_X_enter 3 (some .boolean) :: wd)) := zz_goodV wd_good mw_319 mw_321 mw_322 mw_318 mw_320
theorem g_X_pool_X_wordsOf_49 : GoodIn wd (va_wsS R_X 49 y_X_wordsOf (.code y_X_wordsOf b_X_wordsOf 1 (some .int) :: wd)) := zz_goodS wd_good mw_310 mw_312 mw_313 mw_311
theorem g_X_run_X_step_153 : GoodIn wd (wsV R_X 153 R_X y_X_step (.code y_X_step b_X_step 3 (none) :: wd)) := zz_goodV wd_good mw_367 mw_369 mw_370 mw_318 mw_368
theorem g_X_list_X_isArea_41 : GoodIn wd (va_wsS R_X 41 y_X_isArea (.code y_X_isArea b_X_isArea 1 (some .boolean) :: wd)) := zz_goodS wd_good mw_306 mw_308 mw_309 mw_307
theorem g_X_list_X_wordsOf_49 : GoodIn wd (va_wsS R_X 49 y_X_wordsOf (.code y_X_wordsOf b_X_wordsOf 1 (some .int) :: wd)) := zz_goodS wd_good mw_310 mw_312 mw_313 mw_311
end
section
def s_M_has (a1 : Int32) : Int32 :=
  if a1 < 0 then (0 : Int32) else (if (512 : Int32) ≤ a1 then (0 : Int32) else (1 : Int32))
def s_M_isArea (a1 : Int32) : Int32 :=
  if a1 < (1 : Int32) then (0 : Int32) else (if (24 : Int32) < a1 then (0 : Int32) else (1 : Int32))
def s_M_areaStart (a1 : Int32) : Int32 :=
  ((256 : Int32) + ((8 : Int32) * (a1 - (1 : Int32))))
def s_M_read (u_M : Nat → Int32) (a1 : Int32) : Int32 :=
  if (s_M_has a1) = 0 then (0 : Int32) else (u_M (ix a1))
def s_M_write (u_M : Nat → Int32) (a1 : Int32) (a2 : Int32) : (Nat → Int32) :=
  if (s_M_has a1) = 0 then u_M else (upd u_M (ix a1) a2)
def s_M_chainAreas_loop (a1 : Int32) : Nat → (Nat → Int32) → Nat → (Nat → Int32)
  | 0, u_M', _ => u_M'
  | n + 1, u_M', j => if a1 < (nI j) then u_M' else s_M_chainAreas_loop a1 n (s_M_write u_M' (s_M_areaStart (nI j)) (if (nI j) = a1 then (0 : Int32) else ((nI j) + (1 : Int32)))) (j + 1)
def s_M_chainAreas (u_M : Nat → Int32) (a1 : Int32) : (Nat → Int32) :=
  s_M_chainAreas_loop a1 25 u_M 1
def s_M_countAreas_loop (u_M : Nat → Int32) (a1 : Int32) : Nat → Nat → Int32 → Int32
  | 0, _, _ => (0 : Int32)
  | n + 1, j, x => if (32 : Int32) ≤ (nI j) then (nI j) else (if (s_M_isArea x) = 0 then (nI j) else s_M_countAreas_loop u_M a1 n (j + 1) ((s_M_read u_M (s_M_areaStart x)) &&& (31 : Int32)))
def s_M_countAreas (u_M : Nat → Int32) (a1 : Int32) : Int32 :=
  s_M_countAreas_loop u_M a1 33 0 (a1 &&& (31 : Int32))
def s_R_state (u_r : Nat → Int32) (u_d : Nat → Int32) (u_a : Nat → Int32) : Int32 :=
  (((u_r 4) + ((4 : Int32) * (u_r 5))) + ((8 : Int32) * (u_r 6)))
def s_R_takeState (u_r : Nat → Int32) (u_d : Nat → Int32) (u_a : Nat → Int32) (a1 : Int32) : (Nat → Int32) :=
  (upd (upd (upd u_r 4 (if (a1 &&& (3 : Int32)) ≤ (2 : Int32) then (a1 &&& (3 : Int32)) else (2 : Int32))) 5 ((a1 >>> ((2 : Int32) &&& 31)) &&& (1 : Int32))) 6 ((a1 >>> ((3 : Int32) &&& 31)) &&& (15 : Int32)))
def s_R_begin (u_r : Nat → Int32) (u_d : Nat → Int32) (u_a : Nat → Int32) (a1 : Int32) (a2 : Int32) (a3 : Int32) : (Nat → Int32) :=
  (upd (upd (upd (upd (upd (upd u_r 0 a1) 4 a2) 5 (0 : Int32)) 6 (0 : Int32)) 7 (0 : Int32)) 8 a3)
def s_R_enterHandler (u_r : Nat → Int32) (u_d : Nat → Int32) (u_a : Nat → Int32) (a1 : Int32) (a2 : Int32) : (Nat → Int32) × (Nat → Int32) :=
  (upd (upd (upd (upd (upd u_r 4 (2 : Int32)) 5 (0 : Int32)) 6 (0 : Int32)) 8 (0 : Int32)) 0 a1, upd u_a (ix (7 : Int32)) a2)
def s_R_keepU (u_r : Nat → Int32) (u_d : Nat → Int32) (u_a : Nat → Int32) (u_M : Nat → Int32) : Int32 × (Nat → Int32) × (Nat → Int32) :=
  if (s_M_isArea ((u_r 1) &&& (31 : Int32))) = 0 then ((0 : Int32), u_r, u_M) else (if ((s_M_read u_M (s_M_areaStart ((u_r 1) &&& (31 : Int32)))) &&& (31 : Int32)) = (u_r 2) then ((1 : Int32), upd (upd (upd u_r 1 (s_M_read u_M (s_M_areaStart ((u_r 1) &&& (31 : Int32))))) 3 (((((u_r 1) &&& (31 : Int32)) + (32 : Int32)) + ((256 : Int32) * (u_r 7))) + (if (u_r 8) = 0 then (0 : Int32) else (4096 : Int32)))) 9 (1 : Int32), (s_M_write (s_M_write (s_M_write (s_M_write (s_M_write (s_M_write (s_M_write (s_M_write u_M (s_M_areaStart ((u_r 1) &&& (31 : Int32))) (u_r 3)) ((s_M_areaStart ((u_r 1) &&& (31 : Int32))) + (1 : Int32)) (s_R_state (upd u_r 1 (s_M_read u_M (s_M_areaStart ((u_r 1) &&& (31 : Int32))))) u_d u_a)) ((s_M_areaStart ((u_r 1) &&& (31 : Int32))) + (2 : Int32)) (u_a (ix (6 : Int32)))) ((s_M_areaStart ((u_r 1) &&& (31 : Int32))) + (3 : Int32)) (u_a (ix (7 : Int32)))) (((s_M_areaStart ((u_r 1) &&& (31 : Int32))) + (4 : Int32)) + (0 : Int32)) (u_d (ix (4 : Int32)))) (((s_M_areaStart ((u_r 1) &&& (31 : Int32))) + (4 : Int32)) + (1 : Int32)) (u_d (ix (5 : Int32)))) (((s_M_areaStart ((u_r 1) &&& (31 : Int32))) + (4 : Int32)) + (2 : Int32)) (u_d (ix (6 : Int32)))) (((s_M_areaStart ((u_r 1) &&& (31 : Int32))) + (4 : Int32)) + (3 : Int32)) (u_d (ix (7 : Int32))))) else ((1 : Int32), upd (upd u_r 1 (s_M_read u_M (s_M_areaStart ((u_r 1) &&& (31 : Int32))))) 3 (((((u_r 1) &&& (31 : Int32)) + (32 : Int32)) + ((256 : Int32) * (u_r 7))) + (if (u_r 8) = 0 then (0 : Int32) else (4096 : Int32))), (s_M_write (s_M_write (s_M_write (s_M_write (s_M_write (s_M_write (s_M_write (s_M_write u_M (s_M_areaStart ((u_r 1) &&& (31 : Int32))) (u_r 3)) ((s_M_areaStart ((u_r 1) &&& (31 : Int32))) + (1 : Int32)) (s_R_state (upd u_r 1 (s_M_read u_M (s_M_areaStart ((u_r 1) &&& (31 : Int32))))) u_d u_a)) ((s_M_areaStart ((u_r 1) &&& (31 : Int32))) + (2 : Int32)) (u_a (ix (6 : Int32)))) ((s_M_areaStart ((u_r 1) &&& (31 : Int32))) + (3 : Int32)) (u_a (ix (7 : Int32)))) (((s_M_areaStart ((u_r 1) &&& (31 : Int32))) + (4 : Int32)) + (0 : Int32)) (u_d (ix (4 : Int32)))) (((s_M_areaStart ((u_r 1) &&& (31 : Int32))) + (4 : Int32)) + (1 : Int32)) (u_d (ix (5 : Int32)))) (((s_M_areaStart ((u_r 1) &&& (31 : Int32))) + (4 : Int32)) + (2 : Int32)) (u_d (ix (6 : Int32)))) (((s_M_areaStart ((u_r 1) &&& (31 : Int32))) + (4 : Int32)) + (3 : Int32)) (u_d (ix (7 : Int32))))))
def s_R_refuseBackU (u_r : Nat → Int32) (u_d : Nat → Int32) (u_a : Nat → Int32) : Int32 :=
  if (s_M_isArea ((u_r 3) &&& (31 : Int32))) = 0 then (2 : Int32) else (if (if ((u_r 3) &&& (32 : Int32)) = 0 then (0 : Int32) else (1 : Int32)) = (1 : Int32) then (0 : Int32) else (772 : Int32))
def s_R_bringBackU (u_r : Nat → Int32) (u_d : Nat → Int32) (u_a : Nat → Int32) (u_M : Nat → Int32) : (Nat → Int32) × (Nat → Int32) × (Nat → Int32) × (Nat → Int32) :=
  (upd (s_R_takeState (upd u_r 3 (s_M_read u_M (s_M_areaStart ((u_r 3) &&& (31 : Int32))))) u_d u_a (s_M_read u_M ((s_M_areaStart ((u_r 3) &&& (31 : Int32))) + (1 : Int32)))) 1 ((u_r 3) &&& (31 : Int32)), upd (upd (upd (upd u_d (ix (4 : Int32)) (s_M_read u_M (((s_M_areaStart ((u_r 3) &&& (31 : Int32))) + (4 : Int32)) + (0 : Int32)))) (ix (5 : Int32)) (s_M_read u_M (((s_M_areaStart ((u_r 3) &&& (31 : Int32))) + (4 : Int32)) + (1 : Int32)))) (ix (6 : Int32)) (s_M_read u_M (((s_M_areaStart ((u_r 3) &&& (31 : Int32))) + (4 : Int32)) + (2 : Int32)))) (ix (7 : Int32)) (s_M_read u_M (((s_M_areaStart ((u_r 3) &&& (31 : Int32))) + (4 : Int32)) + (3 : Int32))), upd (upd u_a (ix (6 : Int32)) (s_M_read u_M ((s_M_areaStart ((u_r 3) &&& (31 : Int32))) + (2 : Int32)))) (ix (7 : Int32)) (s_M_read u_M ((s_M_areaStart ((u_r 3) &&& (31 : Int32))) + (3 : Int32))), (s_M_write u_M (s_M_areaStart ((u_r 3) &&& (31 : Int32))) ((s_R_takeState (upd u_r 3 (s_M_read u_M (s_M_areaStart ((u_r 3) &&& (31 : Int32))))) u_d u_a (s_M_read u_M ((s_M_areaStart ((u_r 3) &&& (31 : Int32))) + (1 : Int32)))) 1)))
def s_R_keepL (u_r : Nat → Int32) (u_d : Nat → Int32) (u_a : Nat → Int32) (u_M : Nat → Int32) : Int32 × (Nat → Int32) × (Nat → Int32) :=
  if (s_M_isArea ((u_r 1) &&& (31 : Int32))) = 0 then ((0 : Int32), u_r, u_M) else (if ((s_M_read u_M (s_M_areaStart ((u_r 1) &&& (31 : Int32)))) &&& (31 : Int32)) = (u_r 2) then ((1 : Int32), upd (upd (upd u_r 1 (s_M_read u_M (s_M_areaStart ((u_r 1) &&& (31 : Int32))))) 3 (((((u_r 1) &&& (31 : Int32)) + (0 : Int32)) + ((256 : Int32) * (u_r 7))) + (if (u_r 8) = 0 then (0 : Int32) else (4096 : Int32)))) 9 (1 : Int32), (s_M_write (s_M_write (s_M_write (s_M_write (s_M_write (s_M_write (s_M_write (s_M_write u_M (s_M_areaStart ((u_r 1) &&& (31 : Int32))) (u_r 3)) ((s_M_areaStart ((u_r 1) &&& (31 : Int32))) + (1 : Int32)) (u_a (ix (7 : Int32)))) ((s_M_areaStart ((u_r 1) &&& (31 : Int32))) + (2 : Int32)) (u_a (ix (2 : Int32)))) ((s_M_areaStart ((u_r 1) &&& (31 : Int32))) + (3 : Int32)) (u_a (ix (3 : Int32)))) (((s_M_areaStart ((u_r 1) &&& (31 : Int32))) + (4 : Int32)) + (0 : Int32)) (u_d (ix (0 : Int32)))) (((s_M_areaStart ((u_r 1) &&& (31 : Int32))) + (4 : Int32)) + (1 : Int32)) (u_d (ix (1 : Int32)))) (((s_M_areaStart ((u_r 1) &&& (31 : Int32))) + (4 : Int32)) + (2 : Int32)) (u_d (ix (2 : Int32)))) (((s_M_areaStart ((u_r 1) &&& (31 : Int32))) + (4 : Int32)) + (3 : Int32)) (u_d (ix (3 : Int32))))) else ((1 : Int32), upd (upd u_r 1 (s_M_read u_M (s_M_areaStart ((u_r 1) &&& (31 : Int32))))) 3 (((((u_r 1) &&& (31 : Int32)) + (0 : Int32)) + ((256 : Int32) * (u_r 7))) + (if (u_r 8) = 0 then (0 : Int32) else (4096 : Int32))), (s_M_write (s_M_write (s_M_write (s_M_write (s_M_write (s_M_write (s_M_write (s_M_write u_M (s_M_areaStart ((u_r 1) &&& (31 : Int32))) (u_r 3)) ((s_M_areaStart ((u_r 1) &&& (31 : Int32))) + (1 : Int32)) (u_a (ix (7 : Int32)))) ((s_M_areaStart ((u_r 1) &&& (31 : Int32))) + (2 : Int32)) (u_a (ix (2 : Int32)))) ((s_M_areaStart ((u_r 1) &&& (31 : Int32))) + (3 : Int32)) (u_a (ix (3 : Int32)))) (((s_M_areaStart ((u_r 1) &&& (31 : Int32))) + (4 : Int32)) + (0 : Int32)) (u_d (ix (0 : Int32)))) (((s_M_areaStart ((u_r 1) &&& (31 : Int32))) + (4 : Int32)) + (1 : Int32)) (u_d (ix (1 : Int32)))) (((s_M_areaStart ((u_r 1) &&& (31 : Int32))) + (4 : Int32)) + (2 : Int32)) (u_d (ix (2 : Int32)))) (((s_M_areaStart ((u_r 1) &&& (31 : Int32))) + (4 : Int32)) + (3 : Int32)) (u_d (ix (3 : Int32))))))
def s_R_refuseBackL (u_r : Nat → Int32) (u_d : Nat → Int32) (u_a : Nat → Int32) : Int32 :=
  if (s_M_isArea ((u_r 3) &&& (31 : Int32))) = 0 then (2 : Int32) else (if (if ((u_r 3) &&& (32 : Int32)) = 0 then (0 : Int32) else (1 : Int32)) = (0 : Int32) then (0 : Int32) else (772 : Int32))
def s_R_bringBackL (u_r : Nat → Int32) (u_d : Nat → Int32) (u_a : Nat → Int32) (u_M : Nat → Int32) : (Nat → Int32) × (Nat → Int32) × (Nat → Int32) × (Nat → Int32) :=
  (upd (upd u_r 3 (s_M_read u_M (s_M_areaStart ((u_r 3) &&& (31 : Int32))))) 1 ((u_r 3) &&& (31 : Int32)), upd (upd (upd (upd u_d (ix (0 : Int32)) (s_M_read u_M (((s_M_areaStart ((u_r 3) &&& (31 : Int32))) + (4 : Int32)) + (0 : Int32)))) (ix (1 : Int32)) (s_M_read u_M (((s_M_areaStart ((u_r 3) &&& (31 : Int32))) + (4 : Int32)) + (1 : Int32)))) (ix (2 : Int32)) (s_M_read u_M (((s_M_areaStart ((u_r 3) &&& (31 : Int32))) + (4 : Int32)) + (2 : Int32)))) (ix (3 : Int32)) (s_M_read u_M (((s_M_areaStart ((u_r 3) &&& (31 : Int32))) + (4 : Int32)) + (3 : Int32))), upd (upd (upd u_a (ix (7 : Int32)) (s_M_read u_M ((s_M_areaStart ((u_r 3) &&& (31 : Int32))) + (1 : Int32)))) (ix (2 : Int32)) (s_M_read u_M ((s_M_areaStart ((u_r 3) &&& (31 : Int32))) + (2 : Int32)))) (ix (3 : Int32)) (s_M_read u_M ((s_M_areaStart ((u_r 3) &&& (31 : Int32))) + (3 : Int32))), (s_M_write u_M (s_M_areaStart ((u_r 3) &&& (31 : Int32))) (u_r 1)))
def s_G_change (u_lo : Nat → Int32) (u_hi : Nat → Int32) (u_ri : Nat → Int32) (a1 : Int32) (a2 : Int32) (a3 : Int32) (a4 : Int32) : (Nat → Int32) × (Nat → Int32) × (Nat → Int32) :=
  (upd u_lo (ix a1) a2, upd u_hi (ix a1) a3, upd u_ri (ix a1) a4)
def s_G_covers (u_lo : Nat → Int32) (u_hi : Nat → Int32) (u_ri : Nat → Int32) (a1 : Int32) (a2 : Int32) : Int32 :=
  if a2 < (u_lo (ix a1)) then (0 : Int32) else (if (u_hi (ix a1)) ≤ a2 then (0 : Int32) else (1 : Int32))
def s_G_letsRun (u_lo : Nat → Int32) (u_hi : Nat → Int32) (u_ri : Nat → Int32) (a1 : Int32) (a2 : Int32) : Int32 :=
  (s_G_covers u_lo u_hi u_ri ((a1 * (3 : Int32)) + (2 : Int32)) a2)
def s_G_letsUse (u_lo : Nat → Int32) (u_hi : Nat → Int32) (u_ri : Nat → Int32) (a1 : Int32) (a2 : Int32) (a3 : Int32) : Int32 :=
  if (s_G_covers u_lo u_hi u_ri ((a1 * (3 : Int32)) + (0 : Int32)) a2) = 0 then (if (s_G_covers u_lo u_hi u_ri ((a1 * (3 : Int32)) + (1 : Int32)) a2) = 0 then (0 : Int32) else (if ((u_ri (ix ((a1 * (3 : Int32)) + (1 : Int32)))) &&& a3) = 0 then (0 : Int32) else (1 : Int32))) else (if ((u_ri (ix ((a1 * (3 : Int32)) + (0 : Int32)))) &&& a3) = 0 then (if (s_G_covers u_lo u_hi u_ri ((a1 * (3 : Int32)) + (1 : Int32)) a2) = 0 then (0 : Int32) else (if ((u_ri (ix ((a1 * (3 : Int32)) + (1 : Int32)))) &&& a3) = 0 then (0 : Int32) else (1 : Int32))) else (1 : Int32))
def s_T_has (a1 : Int32) : Int32 :=
  if a1 < (1 : Int32) then (0 : Int32) else (if (15 : Int32) < a1 then (0 : Int32) else (1 : Int32))
def s_T_isPending (u_t : Nat → Int32) (a1 : Int32) : Int32 :=
  if (((u_t 3) >>> (a1 &&& 31)) &&& (1 : Int32)) = (1 : Int32) then (1 : Int32) else (0 : Int32)
def s_T_ask (u_t : Nat → Int32) (a1 : Int32) : (Nat → Int32) :=
  (upd u_t 3 ((u_t 3) ||| ((1 : Int32) <<< (a1 &&& 31))))
def s_T_tick (u_t : Nat → Int32) : (Nat → Int32) :=
  if (u_t 1) ≤ 0 then (upd u_t 0 ((u_t 0) + (1 : Int32))) else (if (((u_t 0) + (1 : Int32)) - ((u_t 0) + (1 : Int32)) / (u_t 1) * (u_t 1)) = 0 then (s_T_ask (upd u_t 0 ((u_t 0) + (1 : Int32))) (u_t 2)) else (upd u_t 0 ((u_t 0) + (1 : Int32))))
def s_T_take (u_t : Nat → Int32) (a1 : Int32) : (Nat → Int32) :=
  (upd (upd u_t 3 ((u_t 3) &&& (((1 : Int32) <<< (a1 &&& 31)) ^^^ (-1 : Int32)))) 4 ((u_t 4) + (1 : Int32)))
def s_T_greatest_loop (u_t : Nat → Int32) : Nat → Nat → Int32
  | 0, _ => (0 : Int32)
  | n + 1, j => if (nI j) ≤ 0 then (nI j) else (if (s_T_isPending u_t (nI j)) = 0 then s_T_greatest_loop u_t n (j - 1) else (nI j))
def s_T_greatest (u_t : Nat → Int32) : Int32 :=
  s_T_greatest_loop u_t 16 15
def s_P_needsTopLevel (a1 : Int32) : Int32 :=
  if a1 = (25 : Int32) then (1 : Int32) else (if a1 = (26 : Int32) then (1 : Int32) else (if a1 = (28 : Int32) then (1 : Int32) else (if a1 = (29 : Int32) then (1 : Int32) else (if a1 = (31 : Int32) then (1 : Int32) else (0 : Int32)))))
def s_P_fieldA (a1 : Int32) : Int32 :=
  ((a1 >>> ((5 : Int32) &&& 31)) &&& (7 : Int32))
def s_P_fieldB (a1 : Int32) : Int32 :=
  ((a1 >>> ((8 : Int32) &&& 31)) &&& (7 : Int32))
def s_P_fieldC (a1 : Int32) : Int32 :=
  ((a1 >>> ((11 : Int32) &&& 31)) &&& (7 : Int32))
def s_P_amount (a1 : Int32) : Int32 :=
  (a1 >>> ((16 : Int32) &&& 31))
def s_P_isGuarded (u_z : Nat → Int32) (u_M : Nat → Int32) (u_r : Nat → Int32) (u_d : Nat → Int32) (u_a : Nat → Int32) (u_lo : Nat → Int32) (u_hi : Nat → Int32) (u_ri : Nat → Int32) (u_t : Nat → Int32) : Int32 :=
  if (u_z 1) = 0 then (0 : Int32) else (if (u_r 4) = (2 : Int32) then (0 : Int32) else (1 : Int32))
def s_P_takeInterrupt (u_z : Nat → Int32) (u_M : Nat → Int32) (u_r : Nat → Int32) (u_d : Nat → Int32) (u_a : Nat → Int32) (u_lo : Nat → Int32) (u_hi : Nat → Int32) (u_ri : Nat → Int32) (u_t : Nat → Int32) (a1 : Int32) : (Nat → Int32) × (Nat → Int32) × (Nat → Int32) × (Nat → Int32) × (Nat → Int32) :=
  if (s_R_keepU u_r u_d u_a u_M).1 = 0 then (upd u_z 0 (0 : Int32), (s_R_keepU u_r u_d u_a u_M).2.2, (s_R_keepU u_r u_d u_a u_M).2.1, u_a, u_t) else (u_z, (s_R_keepU u_r u_d u_a u_M).2.2, (s_R_enterHandler (upd ((s_R_keepU u_r u_d u_a u_M).2.1) 7 a1) u_d u_a ((u_z 3) + ((4 : Int32) * a1)) (((s_R_keepU u_r u_d u_a u_M).2.1) 0)).1, (s_R_enterHandler (upd ((s_R_keepU u_r u_d u_a u_M).2.1) 7 a1) u_d u_a ((u_z 3) + ((4 : Int32) * a1)) (((s_R_keepU u_r u_d u_a u_M).2.1) 0)).2, (s_T_take u_t a1))
def s_P_takeTrap (u_z : Nat → Int32) (u_M : Nat → Int32) (u_r : Nat → Int32) (u_d : Nat → Int32) (u_a : Nat → Int32) (u_lo : Nat → Int32) (u_hi : Nat → Int32) (u_ri : Nat → Int32) (u_t : Nat → Int32) (a1 : Int32) (a2 : Int32) : (Nat → Int32) × (Nat → Int32) × (Nat → Int32) × (Nat → Int32) × (Nat → Int32) :=
  if (s_R_keepU u_r u_d u_a u_M).1 = 0 then (upd u_z 0 (0 : Int32), (s_R_keepU u_r u_d u_a u_M).2.2, (s_R_keepU u_r u_d u_a u_M).2.1, u_d, u_a) else (if (a1 >>> ((8 : Int32) &&& 31)) = (3 : Int32) then (upd (upd u_z 4 ((u_z 4) + (1 : Int32))) 5 (((16 : Int32) * (a1 >>> ((8 : Int32) &&& 31))) + ((a1 &&& (255 : Int32)) &&& (15 : Int32))), (s_R_keepU u_r u_d u_a u_M).2.2, upd ((s_R_enterHandler ((s_R_keepU u_r u_d u_a u_M).2.1) u_d u_a ((u_z 2) + ((4 : Int32) * (a1 >>> ((8 : Int32) &&& 31)))) a2).1) 9 (0 : Int32), upd u_d (ix (7 : Int32)) (a1 &&& (255 : Int32)), (s_R_enterHandler ((s_R_keepU u_r u_d u_a u_M).2.1) u_d u_a ((u_z 2) + ((4 : Int32) * (a1 >>> ((8 : Int32) &&& 31)))) a2).2) else (upd (upd u_z 4 ((u_z 4) + (1 : Int32))) 5 (((16 : Int32) * (a1 >>> ((8 : Int32) &&& 31))) + ((a1 &&& (255 : Int32)) &&& (15 : Int32))), (s_R_keepU u_r u_d u_a u_M).2.2, (s_R_enterHandler ((s_R_keepU u_r u_d u_a u_M).2.1) u_d u_a ((u_z 2) + ((4 : Int32) * (a1 >>> ((8 : Int32) &&& 31)))) a2).1, upd u_d (ix (7 : Int32)) (a1 &&& (255 : Int32)), (s_R_enterHandler ((s_R_keepU u_r u_d u_a u_M).2.1) u_d u_a ((u_z 2) + ((4 : Int32) * (a1 >>> ((8 : Int32) &&& 31)))) a2).2))
def s_P_finish (u_z : Nat → Int32) (u_M : Nat → Int32) (u_r : Nat → Int32) (u_d : Nat → Int32) (u_a : Nat → Int32) (u_lo : Nat → Int32) (u_hi : Nat → Int32) (u_ri : Nat → Int32) (u_t : Nat → Int32) (a1 : Int32) : (Nat → Int32) × (Nat → Int32) × (Nat → Int32) × (Nat → Int32) × (Nat → Int32) :=
  if a1 = 0 then (u_z, u_M, upd u_r 0 ((u_r 0) + (1 : Int32)), u_d, u_a) else (if a1 = (2 : Int32) then (upd u_z 0 (0 : Int32), u_M, u_r, u_d, u_a) else (if a1 = (1 : Int32) then (u_z, u_M, u_r, u_d, u_a) else ((s_P_takeTrap u_z u_M u_r u_d u_a u_lo u_hi u_ri u_t a1 (if (a1 >>> ((8 : Int32) &&& 31)) = (6 : Int32) then ((u_r 0) + (1 : Int32)) else (u_r 0))).1, (s_P_takeTrap u_z u_M u_r u_d u_a u_lo u_hi u_ri u_t a1 (if (a1 >>> ((8 : Int32) &&& 31)) = (6 : Int32) then ((u_r 0) + (1 : Int32)) else (u_r 0))).2.1, (s_P_takeTrap u_z u_M u_r u_d u_a u_lo u_hi u_ri u_t a1 (if (a1 >>> ((8 : Int32) &&& 31)) = (6 : Int32) then ((u_r 0) + (1 : Int32)) else (u_r 0))).2.2.1, (s_P_takeTrap u_z u_M u_r u_d u_a u_lo u_hi u_ri u_t a1 (if (a1 >>> ((8 : Int32) &&& 31)) = (6 : Int32) then ((u_r 0) + (1 : Int32)) else (u_r 0))).2.2.2.1, (s_P_takeTrap u_z u_M u_r u_d u_a u_lo u_hi u_ri u_t a1 (if (a1 >>> ((8 : Int32) &&& 31)) = (6 : Int32) then ((u_r 0) + (1 : Int32)) else (u_r 0))).2.2.2.2)))
def s_P_refuseFetch (u_z : Nat → Int32) (u_M : Nat → Int32) (u_r : Nat → Int32) (u_d : Nat → Int32) (u_a : Nat → Int32) (u_lo : Nat → Int32) (u_hi : Nat → Int32) (u_ri : Nat → Int32) (u_t : Nat → Int32) : Int32 :=
  if (s_M_has (u_r 0)) = 0 then (1025 : Int32) else (if (s_P_isGuarded u_z u_M u_r u_d u_a u_lo u_hi u_ri u_t) = 0 then (0 : Int32) else (if (s_G_letsRun u_lo u_hi u_ri (u_r 5) (u_r 0)) = 0 then (260 : Int32) else (0 : Int32)))
def s_P_refuseWord (u_z : Nat → Int32) (u_M : Nat → Int32) (u_r : Nat → Int32) (u_d : Nat → Int32) (u_a : Nat → Int32) (u_lo : Nat → Int32) (u_hi : Nat → Int32) (u_ri : Nat → Int32) (u_t : Nat → Int32) (a1 : Int32) (a2 : Int32) : Int32 :=
  if (s_M_has a1) = 0 then (1025 : Int32) else (if (s_P_isGuarded u_z u_M u_r u_d u_a u_lo u_hi u_ri u_t) = 0 then (0 : Int32) else (if (s_G_letsUse u_lo u_hi u_ri (u_r 5) a1 a2) = 0 then (if a2 = (1 : Int32) then (258 : Int32) else (259 : Int32)) else (0 : Int32)))
def s_P_compute1 (u_z : Nat → Int32) (u_M : Nat → Int32) (u_r : Nat → Int32) (u_d : Nat → Int32) (u_a : Nat → Int32) (u_lo : Nat → Int32) (u_hi : Nat → Int32) (u_ri : Nat → Int32) (u_t : Nat → Int32) (a2 : Int32) : Int32 × (Nat → Int32) :=
  ((0 : Int32), upd u_d (ix (s_P_fieldA a2)) (s_P_amount a2))
def s_P_compute2 (u_z : Nat → Int32) (u_M : Nat → Int32) (u_r : Nat → Int32) (u_d : Nat → Int32) (u_a : Nat → Int32) (u_lo : Nat → Int32) (u_hi : Nat → Int32) (u_ri : Nat → Int32) (u_t : Nat → Int32) (a2 : Int32) : Int32 × (Nat → Int32) :=
  ((0 : Int32), upd u_d (ix (s_P_fieldA a2)) ((u_d (ix (s_P_fieldB a2))) + (s_P_amount a2)))
def s_P_compute3 (u_z : Nat → Int32) (u_M : Nat → Int32) (u_r : Nat → Int32) (u_d : Nat → Int32) (u_a : Nat → Int32) (u_lo : Nat → Int32) (u_hi : Nat → Int32) (u_ri : Nat → Int32) (u_t : Nat → Int32) (a2 : Int32) : Int32 × (Nat → Int32) :=
  ((0 : Int32), upd u_d (ix (s_P_fieldA a2)) ((u_d (ix (s_P_fieldB a2))) + (u_d (ix (s_P_fieldC a2)))))
def s_P_compute4 (u_z : Nat → Int32) (u_M : Nat → Int32) (u_r : Nat → Int32) (u_d : Nat → Int32) (u_a : Nat → Int32) (u_lo : Nat → Int32) (u_hi : Nat → Int32) (u_ri : Nat → Int32) (u_t : Nat → Int32) (a2 : Int32) : Int32 × (Nat → Int32) :=
  ((0 : Int32), upd u_d (ix (s_P_fieldA a2)) ((u_d (ix (s_P_fieldB a2))) - (u_d (ix (s_P_fieldC a2)))))
def s_P_compute5 (u_z : Nat → Int32) (u_M : Nat → Int32) (u_r : Nat → Int32) (u_d : Nat → Int32) (u_a : Nat → Int32) (u_lo : Nat → Int32) (u_hi : Nat → Int32) (u_ri : Nat → Int32) (u_t : Nat → Int32) (a2 : Int32) : Int32 × (Nat → Int32) :=
  ((0 : Int32), upd u_d (ix (s_P_fieldA a2)) ((u_d (ix (s_P_fieldB a2))) * (u_d (ix (s_P_fieldC a2)))))
def s_P_compute6 (u_z : Nat → Int32) (u_M : Nat → Int32) (u_r : Nat → Int32) (u_d : Nat → Int32) (u_a : Nat → Int32) (u_lo : Nat → Int32) (u_hi : Nat → Int32) (u_ri : Nat → Int32) (u_t : Nat → Int32) (a2 : Int32) : Int32 × (Nat → Int32) :=
  ((0 : Int32), upd u_d (ix (s_P_fieldA a2)) ((u_d (ix (s_P_fieldB a2))) &&& (u_d (ix (s_P_fieldC a2)))))
def s_P_compute7 (u_z : Nat → Int32) (u_M : Nat → Int32) (u_r : Nat → Int32) (u_d : Nat → Int32) (u_a : Nat → Int32) (u_lo : Nat → Int32) (u_hi : Nat → Int32) (u_ri : Nat → Int32) (u_t : Nat → Int32) (a2 : Int32) : Int32 × (Nat → Int32) :=
  ((0 : Int32), upd u_d (ix (s_P_fieldA a2)) ((u_d (ix (s_P_fieldB a2))) ^^^ (u_d (ix (s_P_fieldC a2)))))
def s_P_compute8 (u_z : Nat → Int32) (u_M : Nat → Int32) (u_r : Nat → Int32) (u_d : Nat → Int32) (u_a : Nat → Int32) (u_lo : Nat → Int32) (u_hi : Nat → Int32) (u_ri : Nat → Int32) (u_t : Nat → Int32) (a2 : Int32) : Int32 × (Nat → Int32) :=
  ((0 : Int32), upd u_d (ix (s_P_fieldA a2)) (if 0 ≤ (s_P_amount a2) then ((u_d (ix (s_P_fieldB a2))) <<< ((s_P_amount a2) &&& 31)) else ((u_d (ix (s_P_fieldB a2))) >>> ((-(s_P_amount a2)) &&& 31))))
def s_P_compute9 (u_z : Nat → Int32) (u_M : Nat → Int32) (u_r : Nat → Int32) (u_d : Nat → Int32) (u_a : Nat → Int32) (u_lo : Nat → Int32) (u_hi : Nat → Int32) (u_ri : Nat → Int32) (u_t : Nat → Int32) (a2 : Int32) : Int32 × (Nat → Int32) :=
  ((0 : Int32), upd u_a (ix (s_P_fieldA a2)) (s_P_amount a2))
def s_P_compute10 (u_z : Nat → Int32) (u_M : Nat → Int32) (u_r : Nat → Int32) (u_d : Nat → Int32) (u_a : Nat → Int32) (u_lo : Nat → Int32) (u_hi : Nat → Int32) (u_ri : Nat → Int32) (u_t : Nat → Int32) (a2 : Int32) : Int32 × (Nat → Int32) :=
  ((0 : Int32), upd u_a (ix (s_P_fieldA a2)) ((u_a (ix (s_P_fieldB a2))) + (s_P_amount a2)))
def s_P_compute11 (u_z : Nat → Int32) (u_M : Nat → Int32) (u_r : Nat → Int32) (u_d : Nat → Int32) (u_a : Nat → Int32) (u_lo : Nat → Int32) (u_hi : Nat → Int32) (u_ri : Nat → Int32) (u_t : Nat → Int32) (a2 : Int32) : Int32 × (Nat → Int32) :=
  ((0 : Int32), upd u_a (ix (s_P_fieldA a2)) (u_d (ix (s_P_fieldB a2))))
def s_P_compute12 (u_z : Nat → Int32) (u_M : Nat → Int32) (u_r : Nat → Int32) (u_d : Nat → Int32) (u_a : Nat → Int32) (u_lo : Nat → Int32) (u_hi : Nat → Int32) (u_ri : Nat → Int32) (u_t : Nat → Int32) (a2 : Int32) : Int32 × (Nat → Int32) :=
  ((0 : Int32), upd u_d (ix (s_P_fieldA a2)) (u_a (ix (s_P_fieldB a2))))
def s_P_moveWord13 (u_z : Nat → Int32) (u_M : Nat → Int32) (u_r : Nat → Int32) (u_d : Nat → Int32) (u_a : Nat → Int32) (u_lo : Nat → Int32) (u_hi : Nat → Int32) (u_ri : Nat → Int32) (u_t : Nat → Int32) (a2 : Int32) : Int32 × (Nat → Int32) :=
  if (s_P_refuseWord u_z u_M u_r u_d u_a u_lo u_hi u_ri u_t ((u_a (ix (s_P_fieldB a2))) + (s_P_amount a2)) (1 : Int32)) = 0 then ((0 : Int32), upd u_d (ix (s_P_fieldA a2)) (s_M_read u_M ((u_a (ix (s_P_fieldB a2))) + (s_P_amount a2)))) else ((s_P_refuseWord u_z u_M u_r u_d u_a u_lo u_hi u_ri u_t ((u_a (ix (s_P_fieldB a2))) + (s_P_amount a2)) (1 : Int32)), u_d)
def s_P_moveWord14 (u_z : Nat → Int32) (u_M : Nat → Int32) (u_r : Nat → Int32) (u_d : Nat → Int32) (u_a : Nat → Int32) (u_lo : Nat → Int32) (u_hi : Nat → Int32) (u_ri : Nat → Int32) (u_t : Nat → Int32) (a2 : Int32) : Int32 × (Nat → Int32) :=
  if (s_P_refuseWord u_z u_M u_r u_d u_a u_lo u_hi u_ri u_t ((u_a (ix (s_P_fieldB a2))) + (s_P_amount a2)) (2 : Int32)) = 0 then ((0 : Int32), (s_M_write u_M ((u_a (ix (s_P_fieldB a2))) + (s_P_amount a2)) (u_d (ix (s_P_fieldA a2))))) else ((s_P_refuseWord u_z u_M u_r u_d u_a u_lo u_hi u_ri u_t ((u_a (ix (s_P_fieldB a2))) + (s_P_amount a2)) (2 : Int32)), u_M)
def s_P_moveWord15 (u_z : Nat → Int32) (u_M : Nat → Int32) (u_r : Nat → Int32) (u_d : Nat → Int32) (u_a : Nat → Int32) (u_lo : Nat → Int32) (u_hi : Nat → Int32) (u_ri : Nat → Int32) (u_t : Nat → Int32) (a2 : Int32) : Int32 × (Nat → Int32) × (Nat → Int32) :=
  if (s_P_refuseWord u_z u_M u_r u_d u_a u_lo u_hi u_ri u_t (u_a (ix (s_P_fieldB a2))) (1 : Int32)) = 0 then ((0 : Int32), upd u_d (ix (s_P_fieldA a2)) (s_M_read u_M (u_a (ix (s_P_fieldB a2)))), upd u_a (ix (s_P_fieldB a2)) ((u_a (ix (s_P_fieldB a2))) + (s_P_amount a2))) else ((s_P_refuseWord u_z u_M u_r u_d u_a u_lo u_hi u_ri u_t (u_a (ix (s_P_fieldB a2))) (1 : Int32)), u_d, u_a)
def s_P_moveWord16 (u_z : Nat → Int32) (u_M : Nat → Int32) (u_r : Nat → Int32) (u_d : Nat → Int32) (u_a : Nat → Int32) (u_lo : Nat → Int32) (u_hi : Nat → Int32) (u_ri : Nat → Int32) (u_t : Nat → Int32) (a2 : Int32) : Int32 × (Nat → Int32) × (Nat → Int32) :=
  if (s_P_refuseWord u_z u_M u_r u_d u_a u_lo u_hi u_ri u_t (u_a (ix (s_P_fieldB a2))) (2 : Int32)) = 0 then ((0 : Int32), (s_M_write u_M (u_a (ix (s_P_fieldB a2))) (u_d (ix (s_P_fieldA a2)))), upd u_a (ix (s_P_fieldB a2)) ((u_a (ix (s_P_fieldB a2))) + (s_P_amount a2))) else ((s_P_refuseWord u_z u_M u_r u_d u_a u_lo u_hi u_ri u_t (u_a (ix (s_P_fieldB a2))) (2 : Int32)), u_M, u_a)
def s_Z_floorMod (a1 : Int32) (a2 : Int32) : Int32 :=
  if 0 ≤ ((a1 - a1 / a2 * a2) ^^^ a2) then (a1 - a1 / a2 * a2) else (if (a1 - a1 / a2 * a2) = 0 then (a1 - a1 / a2 * a2) else ((a1 - a1 / a2 * a2) + a2))
def s_P_readRing (u_z : Nat → Int32) (u_M : Nat → Int32) (u_r : Nat → Int32) (u_d : Nat → Int32) (u_a : Nat → Int32) (u_lo : Nat → Int32) (u_hi : Nat → Int32) (u_ri : Nat → Int32) (u_t : Nat → Int32) (a1 : Int32) : Int32 × (Nat → Int32) × (Nat → Int32) :=
  if (ushr (u_a (ix (((s_P_fieldB a1) + (1 : Int32)) &&& (7 : Int32)))) (16 : Int32)) = 0 then ((514 : Int32), u_d, u_a) else (if ((u_a (ix (((s_P_fieldB a1) + (1 : Int32)) &&& (7 : Int32)))) &&& (65535 : Int32)) < (ushr (u_a (ix (((s_P_fieldB a1) + (1 : Int32)) &&& (7 : Int32)))) (16 : Int32)) then (if (s_P_refuseWord u_z u_M u_r u_d u_a u_lo u_hi u_ri u_t ((u_a (ix (s_P_fieldB a1))) + ((u_a (ix (((s_P_fieldB a1) + (1 : Int32)) &&& (7 : Int32)))) &&& (65535 : Int32))) (1 : Int32)) = 0 then ((0 : Int32), upd u_d (ix (s_P_fieldA a1)) (s_M_read u_M ((u_a (ix (s_P_fieldB a1))) + ((u_a (ix (((s_P_fieldB a1) + (1 : Int32)) &&& (7 : Int32)))) &&& (65535 : Int32)))), upd u_a (ix (((s_P_fieldB a1) + (1 : Int32)) &&& (7 : Int32))) (((ushr (u_a (ix (((s_P_fieldB a1) + (1 : Int32)) &&& (7 : Int32)))) (16 : Int32)) * (65536 : Int32)) + (s_Z_floorMod (((u_a (ix (((s_P_fieldB a1) + (1 : Int32)) &&& (7 : Int32)))) &&& (65535 : Int32)) + (s_P_amount a1)) (ushr (u_a (ix (((s_P_fieldB a1) + (1 : Int32)) &&& (7 : Int32)))) (16 : Int32))))) else ((s_P_refuseWord u_z u_M u_r u_d u_a u_lo u_hi u_ri u_t ((u_a (ix (s_P_fieldB a1))) + ((u_a (ix (((s_P_fieldB a1) + (1 : Int32)) &&& (7 : Int32)))) &&& (65535 : Int32))) (1 : Int32)), u_d, u_a)) else ((514 : Int32), u_d, u_a))
def s_P_jump18 (u_z : Nat → Int32) (u_M : Nat → Int32) (u_r : Nat → Int32) (u_d : Nat → Int32) (u_a : Nat → Int32) (u_lo : Nat → Int32) (u_hi : Nat → Int32) (u_ri : Nat → Int32) (u_t : Nat → Int32) (a2 : Int32) : Int32 × (Nat → Int32) :=
  ((1 : Int32), upd u_r 0 ((u_r 0) + (s_P_amount a2)))
def s_P_jump19 (u_z : Nat → Int32) (u_M : Nat → Int32) (u_r : Nat → Int32) (u_d : Nat → Int32) (u_a : Nat → Int32) (u_lo : Nat → Int32) (u_hi : Nat → Int32) (u_ri : Nat → Int32) (u_t : Nat → Int32) (a2 : Int32) : Int32 × (Nat → Int32) :=
  if (u_d (ix (s_P_fieldA a2))) = 0 then ((1 : Int32), upd u_r 0 ((u_r 0) + (s_P_amount a2))) else ((0 : Int32), u_r)
def s_P_jump20 (u_z : Nat → Int32) (u_M : Nat → Int32) (u_r : Nat → Int32) (u_d : Nat → Int32) (u_a : Nat → Int32) (u_lo : Nat → Int32) (u_hi : Nat → Int32) (u_ri : Nat → Int32) (u_t : Nat → Int32) (a2 : Int32) : Int32 × (Nat → Int32) :=
  if (u_d (ix (s_P_fieldB a2))) ≤ (u_d (ix (s_P_fieldA a2))) then ((0 : Int32), u_r) else ((1 : Int32), upd u_r 0 ((u_r 0) + (s_P_amount a2)))
def s_P_callDown (u_z : Nat → Int32) (u_M : Nat → Int32) (u_r : Nat → Int32) (u_d : Nat → Int32) (u_a : Nat → Int32) (u_lo : Nat → Int32) (u_hi : Nat → Int32) (u_ri : Nat → Int32) (u_t : Nat → Int32) (a1 : Int32) : Int32 × (Nat → Int32) × (Nat → Int32) × (Nat → Int32) :=
  if (u_r 6) = (15 : Int32) then ((770 : Int32), u_M, u_r, u_a) else (if (s_R_keepU u_r u_d u_a u_M).1 = 0 then ((2 : Int32), (s_R_keepU u_r u_d u_a u_M).2.2, (s_R_keepU u_r u_d u_a u_M).2.1, u_a) else ((1 : Int32), (s_R_keepU u_r u_d u_a u_M).2.2, upd (upd ((s_R_keepU u_r u_d u_a u_M).2.1) 6 ((((s_R_keepU u_r u_d u_a u_M).2.1) 6) + (1 : Int32))) 0 ((((s_R_keepU u_r u_d u_a u_M).2.1) 0) + a1), upd u_a (ix (7 : Int32)) ((((s_R_keepU u_r u_d u_a u_M).2.1) 0) + (1 : Int32))))
def s_P_goBackH (u_z : Nat → Int32) (u_M : Nat → Int32) (u_r : Nat → Int32) (u_d : Nat → Int32) (u_a : Nat → Int32) (u_lo : Nat → Int32) (u_hi : Nat → Int32) (u_ri : Nat → Int32) (u_t : Nat → Int32) : Int32 × (Nat → Int32) × (Nat → Int32) × (Nat → Int32) × (Nat → Int32) :=
  if (s_R_refuseBackU u_r u_d u_a) = 0 then ((1 : Int32), (s_R_bringBackU (upd (upd (upd u_r 0 (u_a (ix (7 : Int32)))) 7 (((u_r 3) >>> ((8 : Int32) &&& 31)) &&& (15 : Int32))) 8 (if ((u_r 3) &&& (4096 : Int32)) = 0 then (0 : Int32) else (1 : Int32))) u_d u_a u_M).2.2.2, (s_R_bringBackU (upd (upd (upd u_r 0 (u_a (ix (7 : Int32)))) 7 (((u_r 3) >>> ((8 : Int32) &&& 31)) &&& (15 : Int32))) 8 (if ((u_r 3) &&& (4096 : Int32)) = 0 then (0 : Int32) else (1 : Int32))) u_d u_a u_M).1, (s_R_bringBackU (upd (upd (upd u_r 0 (u_a (ix (7 : Int32)))) 7 (((u_r 3) >>> ((8 : Int32) &&& 31)) &&& (15 : Int32))) 8 (if ((u_r 3) &&& (4096 : Int32)) = 0 then (0 : Int32) else (1 : Int32))) u_d u_a u_M).2.1, (s_R_bringBackU (upd (upd (upd u_r 0 (u_a (ix (7 : Int32)))) 7 (((u_r 3) >>> ((8 : Int32) &&& 31)) &&& (15 : Int32))) 8 (if ((u_r 3) &&& (4096 : Int32)) = 0 then (0 : Int32) else (1 : Int32))) u_d u_a u_M).2.2.1) else ((s_R_refuseBackU u_r u_d u_a), u_M, u_r, u_d, u_a)
def s_P_goBackR (u_z : Nat → Int32) (u_M : Nat → Int32) (u_r : Nat → Int32) (u_d : Nat → Int32) (u_a : Nat → Int32) (u_lo : Nat → Int32) (u_hi : Nat → Int32) (u_ri : Nat → Int32) (u_t : Nat → Int32) : Int32 × (Nat → Int32) × (Nat → Int32) × (Nat → Int32) × (Nat → Int32) :=
  if (s_R_refuseBackU u_r u_d u_a) = 0 then ((1 : Int32), (s_R_bringBackU (upd u_r 0 (u_a (ix (7 : Int32)))) u_d u_a u_M).2.2.2, (s_R_bringBackU (upd u_r 0 (u_a (ix (7 : Int32)))) u_d u_a u_M).1, (s_R_bringBackU (upd u_r 0 (u_a (ix (7 : Int32)))) u_d u_a u_M).2.1, (s_R_bringBackU (upd u_r 0 (u_a (ix (7 : Int32)))) u_d u_a u_M).2.2.1) else ((s_R_refuseBackU u_r u_d u_a), u_M, u_r, u_d, u_a)
def s_P_keepLower (u_z : Nat → Int32) (u_M : Nat → Int32) (u_r : Nat → Int32) (u_d : Nat → Int32) (u_a : Nat → Int32) (u_lo : Nat → Int32) (u_hi : Nat → Int32) (u_ri : Nat → Int32) (u_t : Nat → Int32) : Int32 × (Nat → Int32) × (Nat → Int32) :=
  if (s_R_keepL u_r u_d u_a u_M).1 = 0 then ((2 : Int32), (s_R_keepL u_r u_d u_a u_M).2.2, (s_R_keepL u_r u_d u_a u_M).2.1) else ((0 : Int32), (s_R_keepL u_r u_d u_a u_M).2.2, (s_R_keepL u_r u_d u_a u_M).2.1)
def s_P_bringLowerBack (u_z : Nat → Int32) (u_M : Nat → Int32) (u_r : Nat → Int32) (u_d : Nat → Int32) (u_a : Nat → Int32) (u_lo : Nat → Int32) (u_hi : Nat → Int32) (u_ri : Nat → Int32) (u_t : Nat → Int32) : Int32 × (Nat → Int32) × (Nat → Int32) × (Nat → Int32) × (Nat → Int32) :=
  if (s_R_refuseBackL u_r u_d u_a) = 0 then ((s_R_refuseBackL u_r u_d u_a), (s_R_bringBackL u_r u_d u_a u_M).2.2.2, (s_R_bringBackL u_r u_d u_a u_M).1, (s_R_bringBackL u_r u_d u_a u_M).2.1, (s_R_bringBackL u_r u_d u_a u_M).2.2.1) else ((s_R_refuseBackL u_r u_d u_a), u_M, u_r, u_d, u_a)
def s_P_openHandler (u_z : Nat → Int32) (u_M : Nat → Int32) (u_r : Nat → Int32) (u_d : Nat → Int32) (u_a : Nat → Int32) (u_lo : Nat → Int32) (u_hi : Nat → Int32) (u_ri : Nat → Int32) (u_t : Nat → Int32) (a1 : Int32) : Int32 × (Nat → Int32) × (Nat → Int32) :=
  if (s_R_keepL u_r u_d u_a u_M).1 = 0 then ((2 : Int32), (s_R_keepL u_r u_d u_a u_M).2.2, (s_R_keepL u_r u_d u_a u_M).2.1) else ((0 : Int32), (s_R_keepL u_r u_d u_a u_M).2.2, upd (upd ((s_R_keepL u_r u_d u_a u_M).2.1) 7 a1) 8 (1 : Int32))
def s_P_changeLevel (u_z : Nat → Int32) (u_M : Nat → Int32) (u_r : Nat → Int32) (u_d : Nat → Int32) (u_a : Nat → Int32) (u_lo : Nat → Int32) (u_hi : Nat → Int32) (u_ri : Nat → Int32) (u_t : Nat → Int32) (a1 : Int32) : Int32 × (Nat → Int32) :=
  if a1 ≤ (u_r 4) then ((0 : Int32), upd u_r 4 a1) else ((257 : Int32), u_r)
def s_P_perform0 (u_z : Nat → Int32) (u_M : Nat → Int32) (u_r : Nat → Int32) (u_d : Nat → Int32) (u_a : Nat → Int32) (u_lo : Nat → Int32) (u_hi : Nat → Int32) (u_ri : Nat → Int32) (u_t : Nat → Int32) (a1 : Int32) : Int32 :=
  (513 : Int32)
def s_P_perform1 (u_z : Nat → Int32) (u_M : Nat → Int32) (u_r : Nat → Int32) (u_d : Nat → Int32) (u_a : Nat → Int32) (u_lo : Nat → Int32) (u_hi : Nat → Int32) (u_ri : Nat → Int32) (u_t : Nat → Int32) (a1 : Int32) : Int32 × (Nat → Int32) :=
  ((s_P_compute1 u_z u_M u_r u_d u_a u_lo u_hi u_ri u_t a1).1, (s_P_compute1 u_z u_M u_r u_d u_a u_lo u_hi u_ri u_t a1).2)
def s_P_perform2 (u_z : Nat → Int32) (u_M : Nat → Int32) (u_r : Nat → Int32) (u_d : Nat → Int32) (u_a : Nat → Int32) (u_lo : Nat → Int32) (u_hi : Nat → Int32) (u_ri : Nat → Int32) (u_t : Nat → Int32) (a1 : Int32) : Int32 × (Nat → Int32) :=
  ((s_P_compute2 u_z u_M u_r u_d u_a u_lo u_hi u_ri u_t a1).1, (s_P_compute2 u_z u_M u_r u_d u_a u_lo u_hi u_ri u_t a1).2)
def s_P_perform3 (u_z : Nat → Int32) (u_M : Nat → Int32) (u_r : Nat → Int32) (u_d : Nat → Int32) (u_a : Nat → Int32) (u_lo : Nat → Int32) (u_hi : Nat → Int32) (u_ri : Nat → Int32) (u_t : Nat → Int32) (a1 : Int32) : Int32 × (Nat → Int32) :=
  ((s_P_compute3 u_z u_M u_r u_d u_a u_lo u_hi u_ri u_t a1).1, (s_P_compute3 u_z u_M u_r u_d u_a u_lo u_hi u_ri u_t a1).2)
def s_P_perform4 (u_z : Nat → Int32) (u_M : Nat → Int32) (u_r : Nat → Int32) (u_d : Nat → Int32) (u_a : Nat → Int32) (u_lo : Nat → Int32) (u_hi : Nat → Int32) (u_ri : Nat → Int32) (u_t : Nat → Int32) (a1 : Int32) : Int32 × (Nat → Int32) :=
  ((s_P_compute4 u_z u_M u_r u_d u_a u_lo u_hi u_ri u_t a1).1, (s_P_compute4 u_z u_M u_r u_d u_a u_lo u_hi u_ri u_t a1).2)
def s_P_perform5 (u_z : Nat → Int32) (u_M : Nat → Int32) (u_r : Nat → Int32) (u_d : Nat → Int32) (u_a : Nat → Int32) (u_lo : Nat → Int32) (u_hi : Nat → Int32) (u_ri : Nat → Int32) (u_t : Nat → Int32) (a1 : Int32) : Int32 × (Nat → Int32) :=
  ((s_P_compute5 u_z u_M u_r u_d u_a u_lo u_hi u_ri u_t a1).1, (s_P_compute5 u_z u_M u_r u_d u_a u_lo u_hi u_ri u_t a1).2)
def s_P_perform6 (u_z : Nat → Int32) (u_M : Nat → Int32) (u_r : Nat → Int32) (u_d : Nat → Int32) (u_a : Nat → Int32) (u_lo : Nat → Int32) (u_hi : Nat → Int32) (u_ri : Nat → Int32) (u_t : Nat → Int32) (a1 : Int32) : Int32 × (Nat → Int32) :=
  ((s_P_compute6 u_z u_M u_r u_d u_a u_lo u_hi u_ri u_t a1).1, (s_P_compute6 u_z u_M u_r u_d u_a u_lo u_hi u_ri u_t a1).2)
def s_P_perform7 (u_z : Nat → Int32) (u_M : Nat → Int32) (u_r : Nat → Int32) (u_d : Nat → Int32) (u_a : Nat → Int32) (u_lo : Nat → Int32) (u_hi : Nat → Int32) (u_ri : Nat → Int32) (u_t : Nat → Int32) (a1 : Int32) : Int32 × (Nat → Int32) :=
  ((s_P_compute7 u_z u_M u_r u_d u_a u_lo u_hi u_ri u_t a1).1, (s_P_compute7 u_z u_M u_r u_d u_a u_lo u_hi u_ri u_t a1).2)
def s_P_perform8 (u_z : Nat → Int32) (u_M : Nat → Int32) (u_r : Nat → Int32) (u_d : Nat → Int32) (u_a : Nat → Int32) (u_lo : Nat → Int32) (u_hi : Nat → Int32) (u_ri : Nat → Int32) (u_t : Nat → Int32) (a1 : Int32) : Int32 × (Nat → Int32) :=
  ((s_P_compute8 u_z u_M u_r u_d u_a u_lo u_hi u_ri u_t a1).1, (s_P_compute8 u_z u_M u_r u_d u_a u_lo u_hi u_ri u_t a1).2)
def s_P_perform9 (u_z : Nat → Int32) (u_M : Nat → Int32) (u_r : Nat → Int32) (u_d : Nat → Int32) (u_a : Nat → Int32) (u_lo : Nat → Int32) (u_hi : Nat → Int32) (u_ri : Nat → Int32) (u_t : Nat → Int32) (a1 : Int32) : Int32 × (Nat → Int32) :=
  ((s_P_compute9 u_z u_M u_r u_d u_a u_lo u_hi u_ri u_t a1).1, (s_P_compute9 u_z u_M u_r u_d u_a u_lo u_hi u_ri u_t a1).2)
def s_P_perform10 (u_z : Nat → Int32) (u_M : Nat → Int32) (u_r : Nat → Int32) (u_d : Nat → Int32) (u_a : Nat → Int32) (u_lo : Nat → Int32) (u_hi : Nat → Int32) (u_ri : Nat → Int32) (u_t : Nat → Int32) (a1 : Int32) : Int32 × (Nat → Int32) :=
  ((s_P_compute10 u_z u_M u_r u_d u_a u_lo u_hi u_ri u_t a1).1, (s_P_compute10 u_z u_M u_r u_d u_a u_lo u_hi u_ri u_t a1).2)
def s_P_perform11 (u_z : Nat → Int32) (u_M : Nat → Int32) (u_r : Nat → Int32) (u_d : Nat → Int32) (u_a : Nat → Int32) (u_lo : Nat → Int32) (u_hi : Nat → Int32) (u_ri : Nat → Int32) (u_t : Nat → Int32) (a1 : Int32) : Int32 × (Nat → Int32) :=
  ((s_P_compute11 u_z u_M u_r u_d u_a u_lo u_hi u_ri u_t a1).1, (s_P_compute11 u_z u_M u_r u_d u_a u_lo u_hi u_ri u_t a1).2)
def s_P_perform12 (u_z : Nat → Int32) (u_M : Nat → Int32) (u_r : Nat → Int32) (u_d : Nat → Int32) (u_a : Nat → Int32) (u_lo : Nat → Int32) (u_hi : Nat → Int32) (u_ri : Nat → Int32) (u_t : Nat → Int32) (a1 : Int32) : Int32 × (Nat → Int32) :=
  ((s_P_compute12 u_z u_M u_r u_d u_a u_lo u_hi u_ri u_t a1).1, (s_P_compute12 u_z u_M u_r u_d u_a u_lo u_hi u_ri u_t a1).2)
def s_P_perform13 (u_z : Nat → Int32) (u_M : Nat → Int32) (u_r : Nat → Int32) (u_d : Nat → Int32) (u_a : Nat → Int32) (u_lo : Nat → Int32) (u_hi : Nat → Int32) (u_ri : Nat → Int32) (u_t : Nat → Int32) (a1 : Int32) : Int32 × (Nat → Int32) :=
  ((s_P_moveWord13 u_z u_M u_r u_d u_a u_lo u_hi u_ri u_t a1).1, (s_P_moveWord13 u_z u_M u_r u_d u_a u_lo u_hi u_ri u_t a1).2)
def s_P_perform14 (u_z : Nat → Int32) (u_M : Nat → Int32) (u_r : Nat → Int32) (u_d : Nat → Int32) (u_a : Nat → Int32) (u_lo : Nat → Int32) (u_hi : Nat → Int32) (u_ri : Nat → Int32) (u_t : Nat → Int32) (a1 : Int32) : Int32 × (Nat → Int32) :=
  ((s_P_moveWord14 u_z u_M u_r u_d u_a u_lo u_hi u_ri u_t a1).1, (s_P_moveWord14 u_z u_M u_r u_d u_a u_lo u_hi u_ri u_t a1).2)
def s_P_perform15 (u_z : Nat → Int32) (u_M : Nat → Int32) (u_r : Nat → Int32) (u_d : Nat → Int32) (u_a : Nat → Int32) (u_lo : Nat → Int32) (u_hi : Nat → Int32) (u_ri : Nat → Int32) (u_t : Nat → Int32) (a1 : Int32) : Int32 × (Nat → Int32) × (Nat → Int32) :=
  ((s_P_moveWord15 u_z u_M u_r u_d u_a u_lo u_hi u_ri u_t a1).1, (s_P_moveWord15 u_z u_M u_r u_d u_a u_lo u_hi u_ri u_t a1).2.1, (s_P_moveWord15 u_z u_M u_r u_d u_a u_lo u_hi u_ri u_t a1).2.2)
def s_P_perform16 (u_z : Nat → Int32) (u_M : Nat → Int32) (u_r : Nat → Int32) (u_d : Nat → Int32) (u_a : Nat → Int32) (u_lo : Nat → Int32) (u_hi : Nat → Int32) (u_ri : Nat → Int32) (u_t : Nat → Int32) (a1 : Int32) : Int32 × (Nat → Int32) × (Nat → Int32) :=
  ((s_P_moveWord16 u_z u_M u_r u_d u_a u_lo u_hi u_ri u_t a1).1, (s_P_moveWord16 u_z u_M u_r u_d u_a u_lo u_hi u_ri u_t a1).2.1, (s_P_moveWord16 u_z u_M u_r u_d u_a u_lo u_hi u_ri u_t a1).2.2)
def s_P_perform17 (u_z : Nat → Int32) (u_M : Nat → Int32) (u_r : Nat → Int32) (u_d : Nat → Int32) (u_a : Nat → Int32) (u_lo : Nat → Int32) (u_hi : Nat → Int32) (u_ri : Nat → Int32) (u_t : Nat → Int32) (a1 : Int32) : Int32 × (Nat → Int32) × (Nat → Int32) :=
  ((s_P_readRing u_z u_M u_r u_d u_a u_lo u_hi u_ri u_t a1).1, (s_P_readRing u_z u_M u_r u_d u_a u_lo u_hi u_ri u_t a1).2.1, (s_P_readRing u_z u_M u_r u_d u_a u_lo u_hi u_ri u_t a1).2.2)
def s_P_perform18 (u_z : Nat → Int32) (u_M : Nat → Int32) (u_r : Nat → Int32) (u_d : Nat → Int32) (u_a : Nat → Int32) (u_lo : Nat → Int32) (u_hi : Nat → Int32) (u_ri : Nat → Int32) (u_t : Nat → Int32) (a1 : Int32) : Int32 × (Nat → Int32) :=
  ((s_P_jump18 u_z u_M u_r u_d u_a u_lo u_hi u_ri u_t a1).1, (s_P_jump18 u_z u_M u_r u_d u_a u_lo u_hi u_ri u_t a1).2)
def s_P_perform19 (u_z : Nat → Int32) (u_M : Nat → Int32) (u_r : Nat → Int32) (u_d : Nat → Int32) (u_a : Nat → Int32) (u_lo : Nat → Int32) (u_hi : Nat → Int32) (u_ri : Nat → Int32) (u_t : Nat → Int32) (a1 : Int32) : Int32 × (Nat → Int32) :=
  ((s_P_jump19 u_z u_M u_r u_d u_a u_lo u_hi u_ri u_t a1).1, (s_P_jump19 u_z u_M u_r u_d u_a u_lo u_hi u_ri u_t a1).2)
def s_P_perform20 (u_z : Nat → Int32) (u_M : Nat → Int32) (u_r : Nat → Int32) (u_d : Nat → Int32) (u_a : Nat → Int32) (u_lo : Nat → Int32) (u_hi : Nat → Int32) (u_ri : Nat → Int32) (u_t : Nat → Int32) (a1 : Int32) : Int32 × (Nat → Int32) :=
  ((s_P_jump20 u_z u_M u_r u_d u_a u_lo u_hi u_ri u_t a1).1, (s_P_jump20 u_z u_M u_r u_d u_a u_lo u_hi u_ri u_t a1).2)
def s_P_perform21 (u_z : Nat → Int32) (u_M : Nat → Int32) (u_r : Nat → Int32) (u_d : Nat → Int32) (u_a : Nat → Int32) (u_lo : Nat → Int32) (u_hi : Nat → Int32) (u_ri : Nat → Int32) (u_t : Nat → Int32) (a1 : Int32) : Int32 × (Nat → Int32) × (Nat → Int32) × (Nat → Int32) :=
  ((s_P_callDown u_z u_M u_r u_d u_a u_lo u_hi u_ri u_t (s_P_amount a1)).1, (s_P_callDown u_z u_M u_r u_d u_a u_lo u_hi u_ri u_t (s_P_amount a1)).2.1, (s_P_callDown u_z u_M u_r u_d u_a u_lo u_hi u_ri u_t (s_P_amount a1)).2.2.1, (s_P_callDown u_z u_M u_r u_d u_a u_lo u_hi u_ri u_t (s_P_amount a1)).2.2.2)
def s_P_perform22 (u_z : Nat → Int32) (u_M : Nat → Int32) (u_r : Nat → Int32) (u_d : Nat → Int32) (u_a : Nat → Int32) (u_lo : Nat → Int32) (u_hi : Nat → Int32) (u_ri : Nat → Int32) (u_t : Nat → Int32) (a1 : Int32) : Int32 × (Nat → Int32) × (Nat → Int32) × (Nat → Int32) × (Nat → Int32) :=
  if (u_r 6) = 0 then ((771 : Int32), u_M, u_r, u_d, u_a) else ((s_P_goBackR u_z u_M u_r u_d u_a u_lo u_hi u_ri u_t).1, (s_P_goBackR u_z u_M u_r u_d u_a u_lo u_hi u_ri u_t).2.1, (s_P_goBackR u_z u_M u_r u_d u_a u_lo u_hi u_ri u_t).2.2.1, (s_P_goBackR u_z u_M u_r u_d u_a u_lo u_hi u_ri u_t).2.2.2.1, (s_P_goBackR u_z u_M u_r u_d u_a u_lo u_hi u_ri u_t).2.2.2.2)
def s_P_perform23 (u_z : Nat → Int32) (u_M : Nat → Int32) (u_r : Nat → Int32) (u_d : Nat → Int32) (u_a : Nat → Int32) (u_lo : Nat → Int32) (u_hi : Nat → Int32) (u_ri : Nat → Int32) (u_t : Nat → Int32) (a1 : Int32) : Int32 × (Nat → Int32) × (Nat → Int32) :=
  ((s_P_keepLower u_z u_M u_r u_d u_a u_lo u_hi u_ri u_t).1, (s_P_keepLower u_z u_M u_r u_d u_a u_lo u_hi u_ri u_t).2.1, (s_P_keepLower u_z u_M u_r u_d u_a u_lo u_hi u_ri u_t).2.2)
def s_P_perform24 (u_z : Nat → Int32) (u_M : Nat → Int32) (u_r : Nat → Int32) (u_d : Nat → Int32) (u_a : Nat → Int32) (u_lo : Nat → Int32) (u_hi : Nat → Int32) (u_ri : Nat → Int32) (u_t : Nat → Int32) (a1 : Int32) : Int32 × (Nat → Int32) × (Nat → Int32) × (Nat → Int32) × (Nat → Int32) :=
  ((s_P_bringLowerBack u_z u_M u_r u_d u_a u_lo u_hi u_ri u_t).1, (s_P_bringLowerBack u_z u_M u_r u_d u_a u_lo u_hi u_ri u_t).2.1, (s_P_bringLowerBack u_z u_M u_r u_d u_a u_lo u_hi u_ri u_t).2.2.1, (s_P_bringLowerBack u_z u_M u_r u_d u_a u_lo u_hi u_ri u_t).2.2.2.1, (s_P_bringLowerBack u_z u_M u_r u_d u_a u_lo u_hi u_ri u_t).2.2.2.2)
def s_P_perform25 (u_z : Nat → Int32) (u_M : Nat → Int32) (u_r : Nat → Int32) (u_d : Nat → Int32) (u_a : Nat → Int32) (u_lo : Nat → Int32) (u_hi : Nat → Int32) (u_ri : Nat → Int32) (u_t : Nat → Int32) (a1 : Int32) : Int32 × (Nat → Int32) × (Nat → Int32) :=
  if (u_r 4) = (2 : Int32) then ((s_P_openHandler u_z u_M u_r u_d u_a u_lo u_hi u_ri u_t ((s_P_amount a1) &&& (15 : Int32))).1, (s_P_openHandler u_z u_M u_r u_d u_a u_lo u_hi u_ri u_t ((s_P_amount a1) &&& (15 : Int32))).2.1, (s_P_openHandler u_z u_M u_r u_d u_a u_lo u_hi u_ri u_t ((s_P_amount a1) &&& (15 : Int32))).2.2) else ((257 : Int32), u_M, u_r)
def s_P_perform26 (u_z : Nat → Int32) (u_M : Nat → Int32) (u_r : Nat → Int32) (u_d : Nat → Int32) (u_a : Nat → Int32) (u_lo : Nat → Int32) (u_hi : Nat → Int32) (u_ri : Nat → Int32) (u_t : Nat → Int32) (a1 : Int32) : Int32 × (Nat → Int32) × (Nat → Int32) × (Nat → Int32) × (Nat → Int32) :=
  if (u_r 4) = (2 : Int32) then ((s_P_goBackH u_z u_M u_r u_d u_a u_lo u_hi u_ri u_t).1, (s_P_goBackH u_z u_M u_r u_d u_a u_lo u_hi u_ri u_t).2.1, (s_P_goBackH u_z u_M u_r u_d u_a u_lo u_hi u_ri u_t).2.2.1, (s_P_goBackH u_z u_M u_r u_d u_a u_lo u_hi u_ri u_t).2.2.2.1, (s_P_goBackH u_z u_M u_r u_d u_a u_lo u_hi u_ri u_t).2.2.2.2) else ((257 : Int32), u_M, u_r, u_d, u_a)
def s_P_perform27 (u_z : Nat → Int32) (u_M : Nat → Int32) (u_r : Nat → Int32) (u_d : Nat → Int32) (u_a : Nat → Int32) (u_lo : Nat → Int32) (u_hi : Nat → Int32) (u_ri : Nat → Int32) (u_t : Nat → Int32) (a1 : Int32) : Int32 :=
  ((1536 : Int32) + ((s_P_amount a1) &&& (255 : Int32)))
def s_P_perform28 (u_z : Nat → Int32) (u_M : Nat → Int32) (u_r : Nat → Int32) (u_d : Nat → Int32) (u_a : Nat → Int32) (u_lo : Nat → Int32) (u_hi : Nat → Int32) (u_ri : Nat → Int32) (u_t : Nat → Int32) (a1 : Int32) : Int32 × (Nat → Int32) :=
  if (u_r 4) = (2 : Int32) then ((0 : Int32), upd u_r 8 (if ((s_P_amount a1) &&& (1 : Int32)) = (1 : Int32) then (1 : Int32) else (0 : Int32))) else ((257 : Int32), u_r)
def s_P_perform29 (u_z : Nat → Int32) (u_M : Nat → Int32) (u_r : Nat → Int32) (u_d : Nat → Int32) (u_a : Nat → Int32) (u_lo : Nat → Int32) (u_hi : Nat → Int32) (u_ri : Nat → Int32) (u_t : Nat → Int32) (a1 : Int32) : Int32 × (Nat → Int32) :=
  if (u_r 4) = (2 : Int32) then ((0 : Int32), upd u_r 5 ((s_P_amount a1) &&& (1 : Int32))) else ((257 : Int32), u_r)
def s_P_perform30 (u_z : Nat → Int32) (u_M : Nat → Int32) (u_r : Nat → Int32) (u_d : Nat → Int32) (u_a : Nat → Int32) (u_lo : Nat → Int32) (u_hi : Nat → Int32) (u_ri : Nat → Int32) (u_t : Nat → Int32) (a1 : Int32) : Int32 × (Nat → Int32) :=
  ((s_P_changeLevel u_z u_M u_r u_d u_a u_lo u_hi u_ri u_t ((s_P_amount a1) &&& (1 : Int32))).1, (s_P_changeLevel u_z u_M u_r u_d u_a u_lo u_hi u_ri u_t ((s_P_amount a1) &&& (1 : Int32))).2)
def s_P_perform31 (u_z : Nat → Int32) (u_M : Nat → Int32) (u_r : Nat → Int32) (u_d : Nat → Int32) (u_a : Nat → Int32) (u_lo : Nat → Int32) (u_hi : Nat → Int32) (u_ri : Nat → Int32) (u_t : Nat → Int32) (a1 : Int32) : Int32 :=
  if (u_r 4) = (2 : Int32) then (2 : Int32) else (257 : Int32)
def s_P_perform (u_z : Nat → Int32) (u_M : Nat → Int32) (u_r : Nat → Int32) (u_d : Nat → Int32) (u_a : Nat → Int32) (u_lo : Nat → Int32) (u_hi : Nat → Int32) (u_ri : Nat → Int32) (u_t : Nat → Int32) (a1 : Int32) : Int32 × (Nat → Int32) × (Nat → Int32) × (Nat → Int32) × (Nat → Int32) :=
  if (a1 &&& (31 : Int32)) = (0 : Int32) then ((s_P_perform0 u_z u_M u_r u_d u_a u_lo u_hi u_ri u_t a1), u_M, u_r, u_d, u_a) else
  if (a1 &&& (31 : Int32)) = (1 : Int32) then ((s_P_perform1 u_z u_M u_r u_d u_a u_lo u_hi u_ri u_t a1).1, u_M, u_r, (s_P_perform1 u_z u_M u_r u_d u_a u_lo u_hi u_ri u_t a1).2, u_a) else
  if (a1 &&& (31 : Int32)) = (2 : Int32) then ((s_P_perform2 u_z u_M u_r u_d u_a u_lo u_hi u_ri u_t a1).1, u_M, u_r, (s_P_perform2 u_z u_M u_r u_d u_a u_lo u_hi u_ri u_t a1).2, u_a) else
  if (a1 &&& (31 : Int32)) = (3 : Int32) then ((s_P_perform3 u_z u_M u_r u_d u_a u_lo u_hi u_ri u_t a1).1, u_M, u_r, (s_P_perform3 u_z u_M u_r u_d u_a u_lo u_hi u_ri u_t a1).2, u_a) else
  if (a1 &&& (31 : Int32)) = (4 : Int32) then ((s_P_perform4 u_z u_M u_r u_d u_a u_lo u_hi u_ri u_t a1).1, u_M, u_r, (s_P_perform4 u_z u_M u_r u_d u_a u_lo u_hi u_ri u_t a1).2, u_a) else
  if (a1 &&& (31 : Int32)) = (5 : Int32) then ((s_P_perform5 u_z u_M u_r u_d u_a u_lo u_hi u_ri u_t a1).1, u_M, u_r, (s_P_perform5 u_z u_M u_r u_d u_a u_lo u_hi u_ri u_t a1).2, u_a) else
  if (a1 &&& (31 : Int32)) = (6 : Int32) then ((s_P_perform6 u_z u_M u_r u_d u_a u_lo u_hi u_ri u_t a1).1, u_M, u_r, (s_P_perform6 u_z u_M u_r u_d u_a u_lo u_hi u_ri u_t a1).2, u_a) else
  if (a1 &&& (31 : Int32)) = (7 : Int32) then ((s_P_perform7 u_z u_M u_r u_d u_a u_lo u_hi u_ri u_t a1).1, u_M, u_r, (s_P_perform7 u_z u_M u_r u_d u_a u_lo u_hi u_ri u_t a1).2, u_a) else
  if (a1 &&& (31 : Int32)) = (8 : Int32) then ((s_P_perform8 u_z u_M u_r u_d u_a u_lo u_hi u_ri u_t a1).1, u_M, u_r, (s_P_perform8 u_z u_M u_r u_d u_a u_lo u_hi u_ri u_t a1).2, u_a) else
  if (a1 &&& (31 : Int32)) = (9 : Int32) then ((s_P_perform9 u_z u_M u_r u_d u_a u_lo u_hi u_ri u_t a1).1, u_M, u_r, u_d, (s_P_perform9 u_z u_M u_r u_d u_a u_lo u_hi u_ri u_t a1).2) else
  if (a1 &&& (31 : Int32)) = (10 : Int32) then ((s_P_perform10 u_z u_M u_r u_d u_a u_lo u_hi u_ri u_t a1).1, u_M, u_r, u_d, (s_P_perform10 u_z u_M u_r u_d u_a u_lo u_hi u_ri u_t a1).2) else
  if (a1 &&& (31 : Int32)) = (11 : Int32) then ((s_P_perform11 u_z u_M u_r u_d u_a u_lo u_hi u_ri u_t a1).1, u_M, u_r, u_d, (s_P_perform11 u_z u_M u_r u_d u_a u_lo u_hi u_ri u_t a1).2) else
  if (a1 &&& (31 : Int32)) = (12 : Int32) then ((s_P_perform12 u_z u_M u_r u_d u_a u_lo u_hi u_ri u_t a1).1, u_M, u_r, (s_P_perform12 u_z u_M u_r u_d u_a u_lo u_hi u_ri u_t a1).2, u_a) else
  if (a1 &&& (31 : Int32)) = (13 : Int32) then ((s_P_perform13 u_z u_M u_r u_d u_a u_lo u_hi u_ri u_t a1).1, u_M, u_r, (s_P_perform13 u_z u_M u_r u_d u_a u_lo u_hi u_ri u_t a1).2, u_a) else
  if (a1 &&& (31 : Int32)) = (14 : Int32) then ((s_P_perform14 u_z u_M u_r u_d u_a u_lo u_hi u_ri u_t a1).1, (s_P_perform14 u_z u_M u_r u_d u_a u_lo u_hi u_ri u_t a1).2, u_r, u_d, u_a) else
  if (a1 &&& (31 : Int32)) = (15 : Int32) then ((s_P_perform15 u_z u_M u_r u_d u_a u_lo u_hi u_ri u_t a1).1, u_M, u_r, (s_P_perform15 u_z u_M u_r u_d u_a u_lo u_hi u_ri u_t a1).2.1, (s_P_perform15 u_z u_M u_r u_d u_a u_lo u_hi u_ri u_t a1).2.2) else
  if (a1 &&& (31 : Int32)) = (16 : Int32) then ((s_P_perform16 u_z u_M u_r u_d u_a u_lo u_hi u_ri u_t a1).1, (s_P_perform16 u_z u_M u_r u_d u_a u_lo u_hi u_ri u_t a1).2.1, u_r, u_d, (s_P_perform16 u_z u_M u_r u_d u_a u_lo u_hi u_ri u_t a1).2.2) else
  if (a1 &&& (31 : Int32)) = (17 : Int32) then ((s_P_perform17 u_z u_M u_r u_d u_a u_lo u_hi u_ri u_t a1).1, u_M, u_r, (s_P_perform17 u_z u_M u_r u_d u_a u_lo u_hi u_ri u_t a1).2.1, (s_P_perform17 u_z u_M u_r u_d u_a u_lo u_hi u_ri u_t a1).2.2) else
  if (a1 &&& (31 : Int32)) = (18 : Int32) then ((s_P_perform18 u_z u_M u_r u_d u_a u_lo u_hi u_ri u_t a1).1, u_M, (s_P_perform18 u_z u_M u_r u_d u_a u_lo u_hi u_ri u_t a1).2, u_d, u_a) else
  if (a1 &&& (31 : Int32)) = (19 : Int32) then ((s_P_perform19 u_z u_M u_r u_d u_a u_lo u_hi u_ri u_t a1).1, u_M, (s_P_perform19 u_z u_M u_r u_d u_a u_lo u_hi u_ri u_t a1).2, u_d, u_a) else
  if (a1 &&& (31 : Int32)) = (20 : Int32) then ((s_P_perform20 u_z u_M u_r u_d u_a u_lo u_hi u_ri u_t a1).1, u_M, (s_P_perform20 u_z u_M u_r u_d u_a u_lo u_hi u_ri u_t a1).2, u_d, u_a) else
  if (a1 &&& (31 : Int32)) = (21 : Int32) then ((s_P_perform21 u_z u_M u_r u_d u_a u_lo u_hi u_ri u_t a1).1, (s_P_perform21 u_z u_M u_r u_d u_a u_lo u_hi u_ri u_t a1).2.1, (s_P_perform21 u_z u_M u_r u_d u_a u_lo u_hi u_ri u_t a1).2.2.1, u_d, (s_P_perform21 u_z u_M u_r u_d u_a u_lo u_hi u_ri u_t a1).2.2.2) else
  if (a1 &&& (31 : Int32)) = (22 : Int32) then ((s_P_perform22 u_z u_M u_r u_d u_a u_lo u_hi u_ri u_t a1).1, (s_P_perform22 u_z u_M u_r u_d u_a u_lo u_hi u_ri u_t a1).2.1, (s_P_perform22 u_z u_M u_r u_d u_a u_lo u_hi u_ri u_t a1).2.2.1, (s_P_perform22 u_z u_M u_r u_d u_a u_lo u_hi u_ri u_t a1).2.2.2.1, (s_P_perform22 u_z u_M u_r u_d u_a u_lo u_hi u_ri u_t a1).2.2.2.2) else
  if (a1 &&& (31 : Int32)) = (23 : Int32) then ((s_P_perform23 u_z u_M u_r u_d u_a u_lo u_hi u_ri u_t a1).1, (s_P_perform23 u_z u_M u_r u_d u_a u_lo u_hi u_ri u_t a1).2.1, (s_P_perform23 u_z u_M u_r u_d u_a u_lo u_hi u_ri u_t a1).2.2, u_d, u_a) else
  if (a1 &&& (31 : Int32)) = (24 : Int32) then ((s_P_perform24 u_z u_M u_r u_d u_a u_lo u_hi u_ri u_t a1).1, (s_P_perform24 u_z u_M u_r u_d u_a u_lo u_hi u_ri u_t a1).2.1, (s_P_perform24 u_z u_M u_r u_d u_a u_lo u_hi u_ri u_t a1).2.2.1, (s_P_perform24 u_z u_M u_r u_d u_a u_lo u_hi u_ri u_t a1).2.2.2.1, (s_P_perform24 u_z u_M u_r u_d u_a u_lo u_hi u_ri u_t a1).2.2.2.2) else
  if (a1 &&& (31 : Int32)) = (25 : Int32) then ((s_P_perform25 u_z u_M u_r u_d u_a u_lo u_hi u_ri u_t a1).1, (s_P_perform25 u_z u_M u_r u_d u_a u_lo u_hi u_ri u_t a1).2.1, (s_P_perform25 u_z u_M u_r u_d u_a u_lo u_hi u_ri u_t a1).2.2, u_d, u_a) else
  if (a1 &&& (31 : Int32)) = (26 : Int32) then ((s_P_perform26 u_z u_M u_r u_d u_a u_lo u_hi u_ri u_t a1).1, (s_P_perform26 u_z u_M u_r u_d u_a u_lo u_hi u_ri u_t a1).2.1, (s_P_perform26 u_z u_M u_r u_d u_a u_lo u_hi u_ri u_t a1).2.2.1, (s_P_perform26 u_z u_M u_r u_d u_a u_lo u_hi u_ri u_t a1).2.2.2.1, (s_P_perform26 u_z u_M u_r u_d u_a u_lo u_hi u_ri u_t a1).2.2.2.2) else
  if (a1 &&& (31 : Int32)) = (27 : Int32) then ((s_P_perform27 u_z u_M u_r u_d u_a u_lo u_hi u_ri u_t a1), u_M, u_r, u_d, u_a) else
  if (a1 &&& (31 : Int32)) = (28 : Int32) then ((s_P_perform28 u_z u_M u_r u_d u_a u_lo u_hi u_ri u_t a1).1, u_M, (s_P_perform28 u_z u_M u_r u_d u_a u_lo u_hi u_ri u_t a1).2, u_d, u_a) else
  if (a1 &&& (31 : Int32)) = (29 : Int32) then ((s_P_perform29 u_z u_M u_r u_d u_a u_lo u_hi u_ri u_t a1).1, u_M, (s_P_perform29 u_z u_M u_r u_d u_a u_lo u_hi u_ri u_t a1).2, u_d, u_a) else
  if (a1 &&& (31 : Int32)) = (30 : Int32) then ((s_P_perform30 u_z u_M u_r u_d u_a u_lo u_hi u_ri u_t a1).1, u_M, (s_P_perform30 u_z u_M u_r u_d u_a u_lo u_hi u_ri u_t a1).2, u_d, u_a) else
  if (a1 &&& (31 : Int32)) = (31 : Int32) then ((s_P_perform31 u_z u_M u_r u_d u_a u_lo u_hi u_ri u_t a1), u_M, u_r, u_d, u_a) else
  ((0 : Int32), u_M, u_r, u_d, u_a)
def s_P_step_c91 (u_lo : Nat → Int32) (u_hi : Nat → Int32) (u_ri : Nat → Int32) (u_z' : Nat → Int32) (u_M' : Nat → Int32) (u_r' : Nat → Int32) (u_d' : Nat → Int32) (u_a' : Nat → Int32) (u_t' : Nat → Int32) : (Nat → Int32) × (Nat → Int32) × (Nat → Int32) × (Nat → Int32) × (Nat → Int32) × (Nat → Int32) :=
  if (u_z' 0) = 0 then (u_z', u_M', u_r', u_d', u_a', u_t') else (if (u_r' 9) = 0 then (u_z', u_M', u_r', u_d', u_a', u_t') else ((s_P_takeTrap u_z' u_M' u_r' u_d' u_a' u_lo u_hi u_ri u_t' (769 : Int32) (u_r' 0)).1, (s_P_takeTrap u_z' u_M' u_r' u_d' u_a' u_lo u_hi u_ri u_t' (769 : Int32) (u_r' 0)).2.1, (s_P_takeTrap u_z' u_M' u_r' u_d' u_a' u_lo u_hi u_ri u_t' (769 : Int32) (u_r' 0)).2.2.1, (s_P_takeTrap u_z' u_M' u_r' u_d' u_a' u_lo u_hi u_ri u_t' (769 : Int32) (u_r' 0)).2.2.2.1, (s_P_takeTrap u_z' u_M' u_r' u_d' u_a' u_lo u_hi u_ri u_t' (769 : Int32) (u_r' 0)).2.2.2.2, u_t'))
def s_P_step (u_z : Nat → Int32) (u_M : Nat → Int32) (u_r : Nat → Int32) (u_d : Nat → Int32) (u_a : Nat → Int32) (u_lo : Nat → Int32) (u_hi : Nat → Int32) (u_ri : Nat → Int32) (u_t : Nat → Int32) : (Nat → Int32) × (Nat → Int32) × (Nat → Int32) × (Nat → Int32) × (Nat → Int32) × (Nat → Int32) :=
  if (if (u_r 8) = 0 then (0 : Int32) else (s_T_greatest (s_T_tick u_t))) ≤ (u_r 7) then (if (s_P_refuseFetch u_z u_M (upd u_r 9 (0 : Int32)) u_d u_a u_lo u_hi u_ri (s_T_tick u_t)) = 0 then s_P_step_c91 u_lo u_hi u_ri ((s_P_finish u_z ((s_P_perform u_z u_M (upd u_r 9 (0 : Int32)) u_d u_a u_lo u_hi u_ri (s_T_tick u_t) (s_M_read u_M (u_r 0))).2.1) ((s_P_perform u_z u_M (upd u_r 9 (0 : Int32)) u_d u_a u_lo u_hi u_ri (s_T_tick u_t) (s_M_read u_M (u_r 0))).2.2.1) ((s_P_perform u_z u_M (upd u_r 9 (0 : Int32)) u_d u_a u_lo u_hi u_ri (s_T_tick u_t) (s_M_read u_M (u_r 0))).2.2.2.1) ((s_P_perform u_z u_M (upd u_r 9 (0 : Int32)) u_d u_a u_lo u_hi u_ri (s_T_tick u_t) (s_M_read u_M (u_r 0))).2.2.2.2) u_lo u_hi u_ri (s_T_tick u_t) ((s_P_perform u_z u_M (upd u_r 9 (0 : Int32)) u_d u_a u_lo u_hi u_ri (s_T_tick u_t) (s_M_read u_M (u_r 0))).1)).1) ((s_P_finish u_z ((s_P_perform u_z u_M (upd u_r 9 (0 : Int32)) u_d u_a u_lo u_hi u_ri (s_T_tick u_t) (s_M_read u_M (u_r 0))).2.1) ((s_P_perform u_z u_M (upd u_r 9 (0 : Int32)) u_d u_a u_lo u_hi u_ri (s_T_tick u_t) (s_M_read u_M (u_r 0))).2.2.1) ((s_P_perform u_z u_M (upd u_r 9 (0 : Int32)) u_d u_a u_lo u_hi u_ri (s_T_tick u_t) (s_M_read u_M (u_r 0))).2.2.2.1) ((s_P_perform u_z u_M (upd u_r 9 (0 : Int32)) u_d u_a u_lo u_hi u_ri (s_T_tick u_t) (s_M_read u_M (u_r 0))).2.2.2.2) u_lo u_hi u_ri (s_T_tick u_t) ((s_P_perform u_z u_M (upd u_r 9 (0 : Int32)) u_d u_a u_lo u_hi u_ri (s_T_tick u_t) (s_M_read u_M (u_r 0))).1)).2.1) ((s_P_finish u_z ((s_P_perform u_z u_M (upd u_r 9 (0 : Int32)) u_d u_a u_lo u_hi u_ri (s_T_tick u_t) (s_M_read u_M (u_r 0))).2.1) ((s_P_perform u_z u_M (upd u_r 9 (0 : Int32)) u_d u_a u_lo u_hi u_ri (s_T_tick u_t) (s_M_read u_M (u_r 0))).2.2.1) ((s_P_perform u_z u_M (upd u_r 9 (0 : Int32)) u_d u_a u_lo u_hi u_ri (s_T_tick u_t) (s_M_read u_M (u_r 0))).2.2.2.1) ((s_P_perform u_z u_M (upd u_r 9 (0 : Int32)) u_d u_a u_lo u_hi u_ri (s_T_tick u_t) (s_M_read u_M (u_r 0))).2.2.2.2) u_lo u_hi u_ri (s_T_tick u_t) ((s_P_perform u_z u_M (upd u_r 9 (0 : Int32)) u_d u_a u_lo u_hi u_ri (s_T_tick u_t) (s_M_read u_M (u_r 0))).1)).2.2.1) ((s_P_finish u_z ((s_P_perform u_z u_M (upd u_r 9 (0 : Int32)) u_d u_a u_lo u_hi u_ri (s_T_tick u_t) (s_M_read u_M (u_r 0))).2.1) ((s_P_perform u_z u_M (upd u_r 9 (0 : Int32)) u_d u_a u_lo u_hi u_ri (s_T_tick u_t) (s_M_read u_M (u_r 0))).2.2.1) ((s_P_perform u_z u_M (upd u_r 9 (0 : Int32)) u_d u_a u_lo u_hi u_ri (s_T_tick u_t) (s_M_read u_M (u_r 0))).2.2.2.1) ((s_P_perform u_z u_M (upd u_r 9 (0 : Int32)) u_d u_a u_lo u_hi u_ri (s_T_tick u_t) (s_M_read u_M (u_r 0))).2.2.2.2) u_lo u_hi u_ri (s_T_tick u_t) ((s_P_perform u_z u_M (upd u_r 9 (0 : Int32)) u_d u_a u_lo u_hi u_ri (s_T_tick u_t) (s_M_read u_M (u_r 0))).1)).2.2.2.1) ((s_P_finish u_z ((s_P_perform u_z u_M (upd u_r 9 (0 : Int32)) u_d u_a u_lo u_hi u_ri (s_T_tick u_t) (s_M_read u_M (u_r 0))).2.1) ((s_P_perform u_z u_M (upd u_r 9 (0 : Int32)) u_d u_a u_lo u_hi u_ri (s_T_tick u_t) (s_M_read u_M (u_r 0))).2.2.1) ((s_P_perform u_z u_M (upd u_r 9 (0 : Int32)) u_d u_a u_lo u_hi u_ri (s_T_tick u_t) (s_M_read u_M (u_r 0))).2.2.2.1) ((s_P_perform u_z u_M (upd u_r 9 (0 : Int32)) u_d u_a u_lo u_hi u_ri (s_T_tick u_t) (s_M_read u_M (u_r 0))).2.2.2.2) u_lo u_hi u_ri (s_T_tick u_t) ((s_P_perform u_z u_M (upd u_r 9 (0 : Int32)) u_d u_a u_lo u_hi u_ri (s_T_tick u_t) (s_M_read u_M (u_r 0))).1)).2.2.2.2) (s_T_tick u_t) else s_P_step_c91 u_lo u_hi u_ri ((s_P_finish u_z u_M (upd u_r 9 (0 : Int32)) u_d u_a u_lo u_hi u_ri (s_T_tick u_t) (s_P_refuseFetch u_z u_M (upd u_r 9 (0 : Int32)) u_d u_a u_lo u_hi u_ri (s_T_tick u_t))).1) ((s_P_finish u_z u_M (upd u_r 9 (0 : Int32)) u_d u_a u_lo u_hi u_ri (s_T_tick u_t) (s_P_refuseFetch u_z u_M (upd u_r 9 (0 : Int32)) u_d u_a u_lo u_hi u_ri (s_T_tick u_t))).2.1) ((s_P_finish u_z u_M (upd u_r 9 (0 : Int32)) u_d u_a u_lo u_hi u_ri (s_T_tick u_t) (s_P_refuseFetch u_z u_M (upd u_r 9 (0 : Int32)) u_d u_a u_lo u_hi u_ri (s_T_tick u_t))).2.2.1) ((s_P_finish u_z u_M (upd u_r 9 (0 : Int32)) u_d u_a u_lo u_hi u_ri (s_T_tick u_t) (s_P_refuseFetch u_z u_M (upd u_r 9 (0 : Int32)) u_d u_a u_lo u_hi u_ri (s_T_tick u_t))).2.2.2.1) ((s_P_finish u_z u_M (upd u_r 9 (0 : Int32)) u_d u_a u_lo u_hi u_ri (s_T_tick u_t) (s_P_refuseFetch u_z u_M (upd u_r 9 (0 : Int32)) u_d u_a u_lo u_hi u_ri (s_T_tick u_t))).2.2.2.2) (s_T_tick u_t)) else s_P_step_c91 u_lo u_hi u_ri ((s_P_takeInterrupt u_z u_M (upd u_r 9 (0 : Int32)) u_d u_a u_lo u_hi u_ri (s_T_tick u_t) (if (u_r 8) = 0 then (0 : Int32) else (s_T_greatest (s_T_tick u_t)))).1) ((s_P_takeInterrupt u_z u_M (upd u_r 9 (0 : Int32)) u_d u_a u_lo u_hi u_ri (s_T_tick u_t) (if (u_r 8) = 0 then (0 : Int32) else (s_T_greatest (s_T_tick u_t)))).2.1) ((s_P_takeInterrupt u_z u_M (upd u_r 9 (0 : Int32)) u_d u_a u_lo u_hi u_ri (s_T_tick u_t) (if (u_r 8) = 0 then (0 : Int32) else (s_T_greatest (s_T_tick u_t)))).2.2.1) u_d ((s_P_takeInterrupt u_z u_M (upd u_r 9 (0 : Int32)) u_d u_a u_lo u_hi u_ri (s_T_tick u_t) (if (u_r 8) = 0 then (0 : Int32) else (s_T_greatest (s_T_tick u_t)))).2.2.2.1) ((s_P_takeInterrupt u_z u_M (upd u_r 9 (0 : Int32)) u_d u_a u_lo u_hi u_ri (s_T_tick u_t) (if (u_r 8) = 0 then (0 : Int32) else (s_T_greatest (s_T_tick u_t)))).2.2.2.2)
def s_C_put (u_z : Nat → Int32) (u_M : Nat → Int32) (u_r : Nat → Int32) (u_d : Nat → Int32) (u_a : Nat → Int32) (u_lo : Nat → Int32) (u_hi : Nat → Int32) (u_ri : Nat → Int32) (u_t : Nat → Int32) (a1 : Int32) (a2 : Int32) : Int32 × (Nat → Int32) :=
  if (s_M_has a1) = 0 then ((0 : Int32), u_M) else ((1 : Int32), (s_M_write u_M a1 a2))
def s_C_pool (u_z : Nat → Int32) (u_M : Nat → Int32) (u_r : Nat → Int32) (u_d : Nat → Int32) (u_a : Nat → Int32) (u_lo : Nat → Int32) (u_hi : Nat → Int32) (u_ri : Nat → Int32) (u_t : Nat → Int32) (a1 : Int32) (a2 : Int32) : (Nat → Int32) × (Nat → Int32) :=
  if a1 < 0 then (u_M, u_r) else (if (24 : Int32) < a1 then (u_M, u_r) else (if a2 < 0 then (u_M, u_r) else (if a2 ≤ (31 : Int32) then (if (u_z 0) = 0 then ((s_M_chainAreas u_M a1), upd (upd (upd u_r 1 (if a1 = 0 then (0 : Int32) else (1 : Int32))) 2 a2) 3 (0 : Int32)) else (u_M, u_r)) else (u_M, u_r))))
def t_C_pool (u_z : Nat → Int32) (u_M : Nat → Int32) (u_r : Nat → Int32) (u_d : Nat → Int32) (u_a : Nat → Int32) (u_lo : Nat → Int32) (u_hi : Nat → Int32) (u_ri : Nat → Int32) (u_t : Nat → Int32) (a1 : Int32) (a2 : Int32) : Int32 :=
  if a1 < 0 then (1 : Int32) else (if (24 : Int32) < a1 then (1 : Int32) else (if a2 < 0 then (1 : Int32) else (if a2 ≤ (31 : Int32) then (if (u_z 0) = 0 then (0 : Int32) else (2 : Int32)) else (1 : Int32))))
def s_C_tables (u_z : Nat → Int32) (u_M : Nat → Int32) (u_r : Nat → Int32) (u_d : Nat → Int32) (u_a : Nat → Int32) (u_lo : Nat → Int32) (u_hi : Nat → Int32) (u_ri : Nat → Int32) (u_t : Nat → Int32) (a1 : Int32) (a2 : Int32) : (Nat → Int32) :=
  (upd (upd u_z 2 a1) 3 a2)
def s_C_range (u_z : Nat → Int32) (u_M : Nat → Int32) (u_r : Nat → Int32) (u_d : Nat → Int32) (u_a : Nat → Int32) (u_lo : Nat → Int32) (u_hi : Nat → Int32) (u_ri : Nat → Int32) (u_t : Nat → Int32) (a1 : Int32) (a2 : Int32) (a3 : Int32) (a4 : Int32) (a5 : Int32) : (Nat → Int32) × (Nat → Int32) × (Nat → Int32) :=
  if a1 < 0 then (u_lo, u_hi, u_ri) else (if (2 : Int32) ≤ a1 then (u_lo, u_hi, u_ri) else (if a2 < 0 then (u_lo, u_hi, u_ri) else (if a2 < (3 : Int32) then (if a5 < 0 then (u_lo, u_hi, u_ri) else (if a5 ≤ (3 : Int32) then ((s_G_change u_lo u_hi u_ri ((a1 * (3 : Int32)) + a2) a3 a4 a5).1, (s_G_change u_lo u_hi u_ri ((a1 * (3 : Int32)) + a2) a3 a4 a5).2.1, (s_G_change u_lo u_hi u_ri ((a1 * (3 : Int32)) + a2) a3 a4 a5).2.2) else (u_lo, u_hi, u_ri))) else (u_lo, u_hi, u_ri))))
def t_C_range (u_z : Nat → Int32) (u_M : Nat → Int32) (u_r : Nat → Int32) (u_d : Nat → Int32) (u_a : Nat → Int32) (u_lo : Nat → Int32) (u_hi : Nat → Int32) (u_ri : Nat → Int32) (u_t : Nat → Int32) (a1 : Int32) (a2 : Int32) (a3 : Int32) (a4 : Int32) (a5 : Int32) : Int32 :=
  if a1 < 0 then (1 : Int32) else (if (2 : Int32) ≤ a1 then (1 : Int32) else (if a2 < 0 then (1 : Int32) else (if a2 < (3 : Int32) then (if a5 < 0 then (1 : Int32) else (if a5 ≤ (3 : Int32) then (0 : Int32) else (1 : Int32))) else (1 : Int32))))
def s_C_guard (u_z : Nat → Int32) (u_M : Nat → Int32) (u_r : Nat → Int32) (u_d : Nat → Int32) (u_a : Nat → Int32) (u_lo : Nat → Int32) (u_hi : Nat → Int32) (u_ri : Nat → Int32) (u_t : Nat → Int32) (a1 : Int32) : (Nat → Int32) :=
  (upd u_z 1 a1)
def s_C_timer (u_z : Nat → Int32) (u_M : Nat → Int32) (u_r : Nat → Int32) (u_d : Nat → Int32) (u_a : Nat → Int32) (u_lo : Nat → Int32) (u_hi : Nat → Int32) (u_ri : Nat → Int32) (u_t : Nat → Int32) (a1 : Int32) (a2 : Int32) : (Nat → Int32) :=
  if a1 < 0 then u_t else (if (s_T_has a2) = 0 then u_t else (upd (upd u_t 1 a1) 2 a2))
def t_C_timer (u_z : Nat → Int32) (u_M : Nat → Int32) (u_r : Nat → Int32) (u_d : Nat → Int32) (u_a : Nat → Int32) (u_lo : Nat → Int32) (u_hi : Nat → Int32) (u_ri : Nat → Int32) (u_t : Nat → Int32) (a1 : Int32) (a2 : Int32) : Int32 :=
  if a1 < 0 then (1 : Int32) else (if (s_T_has a2) = 0 then (1 : Int32) else (0 : Int32))
def s_C_request (u_z : Nat → Int32) (u_M : Nat → Int32) (u_r : Nat → Int32) (u_d : Nat → Int32) (u_a : Nat → Int32) (u_lo : Nat → Int32) (u_hi : Nat → Int32) (u_ri : Nat → Int32) (u_t : Nat → Int32) (a1 : Int32) : Int32 × (Nat → Int32) :=
  if (s_T_has a1) = 0 then ((0 : Int32), u_t) else (if (s_T_isPending u_t a1) = 0 then ((1 : Int32), (s_T_ask u_t a1)) else ((0 : Int32), u_t))
def s_C_start (u_z : Nat → Int32) (u_M : Nat → Int32) (u_r : Nat → Int32) (u_d : Nat → Int32) (u_a : Nat → Int32) (u_lo : Nat → Int32) (u_hi : Nat → Int32) (u_ri : Nat → Int32) (u_t : Nat → Int32) (a1 : Int32) (a2 : Int32) (a3 : Int32) : (Nat → Int32) × (Nat → Int32) :=
  if a2 < 0 then (u_z, u_r) else (if a2 ≤ (2 : Int32) then (if (u_z 0) = 0 then (upd u_z 0 (1 : Int32), (s_R_begin u_r u_d u_a a1 a2 a3)) else (u_z, u_r)) else (u_z, u_r))
def t_C_start (u_z : Nat → Int32) (u_M : Nat → Int32) (u_r : Nat → Int32) (u_d : Nat → Int32) (u_a : Nat → Int32) (u_lo : Nat → Int32) (u_hi : Nat → Int32) (u_ri : Nat → Int32) (u_t : Nat → Int32) (a1 : Int32) (a2 : Int32) (a3 : Int32) : Int32 :=
  if a2 < 0 then (1 : Int32) else (if a2 ≤ (2 : Int32) then (if (u_z 0) = 0 then (0 : Int32) else (2 : Int32)) else (1 : Int32))
def s_C_halt (u_z : Nat → Int32) (u_M : Nat → Int32) (u_r : Nat → Int32) (u_d : Nat → Int32) (u_a : Nat → Int32) (u_lo : Nat → Int32) (u_hi : Nat → Int32) (u_ri : Nat → Int32) (u_t : Nat → Int32) : Int32 × (Nat → Int32) :=
  ((u_z 0), upd u_z 0 (0 : Int32))
def s_C_run_loop (u_lo : Nat → Int32) (u_hi : Nat → Int32) (u_ri : Nat → Int32) (a1 : Int32) : Nat → (Nat → Int32) → (Nat → Int32) → (Nat → Int32) → (Nat → Int32) → (Nat → Int32) → (Nat → Int32) → Nat → Int32 × (Nat → Int32) × (Nat → Int32) × (Nat → Int32) × (Nat → Int32) × (Nat → Int32) × (Nat → Int32)
  | 0, u_z', u_M', u_r', u_d', u_a', u_t', _ => ((0 : Int32), u_z', u_M', u_r', u_d', u_a', u_t')
  | n + 1, u_z', u_M', u_r', u_d', u_a', u_t', j => if a1 ≤ (nI j) then ((nI j), u_z', u_M', u_r', u_d', u_a', u_t') else (if (u_z' 0) = 0 then ((nI j), u_z', u_M', u_r', u_d', u_a', u_t') else s_C_run_loop u_lo u_hi u_ri a1 n ((s_P_step u_z' u_M' u_r' u_d' u_a' u_lo u_hi u_ri u_t').1) ((s_P_step u_z' u_M' u_r' u_d' u_a' u_lo u_hi u_ri u_t').2.1) ((s_P_step u_z' u_M' u_r' u_d' u_a' u_lo u_hi u_ri u_t').2.2.1) ((s_P_step u_z' u_M' u_r' u_d' u_a' u_lo u_hi u_ri u_t').2.2.2.1) ((s_P_step u_z' u_M' u_r' u_d' u_a' u_lo u_hi u_ri u_t').2.2.2.2.1) ((s_P_step u_z' u_M' u_r' u_d' u_a' u_lo u_hi u_ri u_t').2.2.2.2.2) (j + 1))
def s_C_run (u_z : Nat → Int32) (u_M : Nat → Int32) (u_r : Nat → Int32) (u_d : Nat → Int32) (u_a : Nat → Int32) (u_lo : Nat → Int32) (u_hi : Nat → Int32) (u_ri : Nat → Int32) (u_t : Nat → Int32) (a1 : Int32) : Int32 × (Nat → Int32) × (Nat → Int32) × (Nat → Int32) × (Nat → Int32) × (Nat → Int32) × (Nat → Int32) :=
  if a1 < 0 then ((0 : Int32), u_z, u_M, u_r, u_d, u_a, u_t) else (if a1 ≤ (300 : Int32) then s_C_run_loop u_lo u_hi u_ri a1 301 u_z u_M u_r u_d u_a u_t 0 else ((0 : Int32), u_z, u_M, u_r, u_d, u_a, u_t))
def t_C_run (u_z : Nat → Int32) (u_M : Nat → Int32) (u_r : Nat → Int32) (u_d : Nat → Int32) (u_a : Nat → Int32) (u_lo : Nat → Int32) (u_hi : Nat → Int32) (u_ri : Nat → Int32) (u_t : Nat → Int32) (a1 : Int32) : Int32 :=
  if a1 < 0 then (1 : Int32) else (if a1 ≤ (300 : Int32) then (0 : Int32) else (1 : Int32))
def s_C_register (u_z : Nat → Int32) (u_M : Nat → Int32) (u_r : Nat → Int32) (u_d : Nat → Int32) (u_a : Nat → Int32) (u_lo : Nat → Int32) (u_hi : Nat → Int32) (u_ri : Nat → Int32) (u_t : Nat → Int32) (a1 : Int32) (a2 : Int32) : Int32 :=
  if a1 < 0 then (0 : Int32) else (if (1 : Int32) < a1 then (0 : Int32) else (if a2 < 0 then (0 : Int32) else (if a2 ≤ (7 : Int32) then (if a1 = 0 then (u_d (ix a2)) else (u_a (ix a2))) else (0 : Int32))))
def t_C_register (u_z : Nat → Int32) (u_M : Nat → Int32) (u_r : Nat → Int32) (u_d : Nat → Int32) (u_a : Nat → Int32) (u_lo : Nat → Int32) (u_hi : Nat → Int32) (u_ri : Nat → Int32) (u_t : Nat → Int32) (a1 : Int32) (a2 : Int32) : Int32 :=
  if a1 < 0 then (1 : Int32) else (if (1 : Int32) < a1 then (1 : Int32) else (if a2 < 0 then (1 : Int32) else (if a2 ≤ (7 : Int32) then (if a1 = 0 then (0 : Int32) else (0 : Int32)) else (1 : Int32))))
def s_C_word (u_z : Nat → Int32) (u_M : Nat → Int32) (u_r : Nat → Int32) (u_d : Nat → Int32) (u_a : Nat → Int32) (u_lo : Nat → Int32) (u_hi : Nat → Int32) (u_ri : Nat → Int32) (u_t : Nat → Int32) (a1 : Int32) : Int32 :=
  (s_M_read u_M a1)
def s_C_look (u_z : Nat → Int32) (u_M : Nat → Int32) (u_r : Nat → Int32) (u_d : Nat → Int32) (u_a : Nat → Int32) (u_lo : Nat → Int32) (u_hi : Nat → Int32) (u_ri : Nat → Int32) (u_t : Nat → Int32) (a1 : Int32) : Int32 :=
  if a1 = (0 : Int32) then (if (u_z 0) = 0 then (0 : Int32) else (1 : Int32)) else (if a1 = (1 : Int32) then (u_r 0) else (if a1 = (2 : Int32) then (u_r 1) else (if a1 = (3 : Int32) then (u_r 2) else (if a1 = (4 : Int32) then (u_r 3) else (if a1 = (5 : Int32) then (s_R_state u_r u_d u_a) else (if a1 = (6 : Int32) then (u_r 7) else (if a1 = (7 : Int32) then (if (u_r 8) = 0 then (0 : Int32) else (1 : Int32)) else (if a1 = (8 : Int32) then (u_t 0) else (if a1 = (9 : Int32) then (u_t 3) else (if a1 = (10 : Int32) then (u_z 4) else (if a1 = (11 : Int32) then (u_z 5) else (if a1 = (12 : Int32) then (u_t 4) else (-1 : Int32)))))))))))))
def s_C_list (u_z : Nat → Int32) (u_M : Nat → Int32) (u_r : Nat → Int32) (u_d : Nat → Int32) (u_a : Nat → Int32) (u_lo : Nat → Int32) (u_hi : Nat → Int32) (u_ri : Nat → Int32) (u_t : Nat → Int32) (a1 : Int32) : Int32 :=
  if a1 < 0 then (-1 : Int32) else (if a1 ≤ (1 : Int32) then (s_M_countAreas u_M (if a1 = 0 then (u_r 1) else (u_r 3))) else (-1 : Int32))
def s_X_thrown (v_x : Nat → Int32) (v_M : Nat → Int32) (v_d : Nat → Int32) (v_a : Nat → Int32) (v_o : Nat → Int32) (v_lo : Nat → Int32) (v_hi : Nat → Int32) (v_ri : Nat → Int32) : Int32 :=
  (v_x 0)
def s_X_isArea (a1 : Int32) : Int32 :=
  if a1 < (1 : Int32) then (0 : Int32) else (if (24 : Int32) < a1 then (0 : Int32) else (1 : Int32))
def s_X_wordsOf (a1 : Int32) : Int32 :=
  ((248 : Int32) + ((8 : Int32) * a1))
def s_X_keepU (v_x : Nat → Int32) (v_M : Nat → Int32) (v_d : Nat → Int32) (v_a : Nat → Int32) (v_o : Nat → Int32) (v_lo : Nat → Int32) (v_hi : Nat → Int32) (v_ri : Nat → Int32) : Int32 × (Nat → Int32) × (Nat → Int32) × (Nat → Int32) :=
  if (s_X_isArea ((v_o (ix (1 : Int32))) &&& (31 : Int32))) = 0 then ((0 : Int32), upd v_x 7 (0 : Int32), v_M, v_o) else ((1 : Int32), upd v_x 17 (if (v_x 17) = 0 then (if ((v_M (ix (s_X_wordsOf ((v_o (ix (1 : Int32))) &&& (31 : Int32))))) &&& (31 : Int32)) = ((upd (upd v_o (ix (1 : Int32)) (v_M (ix (s_X_wordsOf ((v_o (ix (1 : Int32))) &&& (31 : Int32)))))) (ix (3 : Int32)) (((((v_o (ix (1 : Int32))) &&& (31 : Int32)) + (32 : Int32)) + ((256 : Int32) * (v_x 4))) + (if (v_x 5) = 0 then (0 : Int32) else (4096 : Int32)))) (ix (2 : Int32))) then (1 : Int32) else (0 : Int32)) else (1 : Int32)), upd (upd (upd (upd (upd (upd (upd (upd v_M (ix (s_X_wordsOf ((v_o (ix (1 : Int32))) &&& (31 : Int32)))) (v_o (ix (3 : Int32)))) (ix ((s_X_wordsOf ((v_o (ix (1 : Int32))) &&& (31 : Int32))) + (1 : Int32))) (((v_x 1) + ((4 : Int32) * (v_x 2))) + ((8 : Int32) * (v_x 3)))) (ix ((s_X_wordsOf ((v_o (ix (1 : Int32))) &&& (31 : Int32))) + (2 : Int32))) (v_a (ix (6 : Int32)))) (ix ((s_X_wordsOf ((v_o (ix (1 : Int32))) &&& (31 : Int32))) + (3 : Int32))) (v_a (ix (7 : Int32)))) (ix (((s_X_wordsOf ((v_o (ix (1 : Int32))) &&& (31 : Int32))) + (4 : Int32)) + (0 : Int32))) (v_d (ix (4 : Int32)))) (ix (((s_X_wordsOf ((v_o (ix (1 : Int32))) &&& (31 : Int32))) + (4 : Int32)) + (1 : Int32))) (v_d (ix (5 : Int32)))) (ix (((s_X_wordsOf ((v_o (ix (1 : Int32))) &&& (31 : Int32))) + (4 : Int32)) + (2 : Int32))) (v_d (ix (6 : Int32)))) (ix (((s_X_wordsOf ((v_o (ix (1 : Int32))) &&& (31 : Int32))) + (4 : Int32)) + (3 : Int32))) (v_d (ix (7 : Int32))), upd (upd v_o (ix (1 : Int32)) (v_M (ix (s_X_wordsOf ((v_o (ix (1 : Int32))) &&& (31 : Int32)))))) (ix (3 : Int32)) (((((v_o (ix (1 : Int32))) &&& (31 : Int32)) + (32 : Int32)) + ((256 : Int32) * (v_x 4))) + (if (v_x 5) = 0 then (0 : Int32) else (4096 : Int32))))
def s_X_canBringU (v_x : Nat → Int32) (v_M : Nat → Int32) (v_d : Nat → Int32) (v_a : Nat → Int32) (v_o : Nat → Int32) (v_lo : Nat → Int32) (v_hi : Nat → Int32) (v_ri : Nat → Int32) : Int32 × (Nat → Int32) :=
  if (s_X_isArea ((v_o (ix (3 : Int32))) &&& (31 : Int32))) = 0 then ((0 : Int32), upd v_x 7 (0 : Int32)) else (if (if (if ((v_o (ix (3 : Int32))) &&& (32 : Int32)) = 0 then (0 : Int32) else (1 : Int32)) = (1 : Int32) then (1 : Int32) else (0 : Int32)) = 0 then ((if (if ((v_o (ix (3 : Int32))) &&& (32 : Int32)) = 0 then (0 : Int32) else (1 : Int32)) = (1 : Int32) then (1 : Int32) else (0 : Int32)), upd v_x 19 (772 : Int32)) else ((if (if ((v_o (ix (3 : Int32))) &&& (32 : Int32)) = 0 then (0 : Int32) else (1 : Int32)) = (1 : Int32) then (1 : Int32) else (0 : Int32)), upd v_x 19 (v_x 19)))
def s_X_bringU (v_x : Nat → Int32) (v_M : Nat → Int32) (v_d : Nat → Int32) (v_a : Nat → Int32) (v_o : Nat → Int32) (v_lo : Nat → Int32) (v_hi : Nat → Int32) (v_ri : Nat → Int32) : (Nat → Int32) × (Nat → Int32) × (Nat → Int32) × (Nat → Int32) × (Nat → Int32) :=
  (upd (upd (upd v_x 1 (if ((v_M (ix ((s_X_wordsOf ((v_o (ix (3 : Int32))) &&& (31 : Int32))) + (1 : Int32)))) &&& (3 : Int32)) = (3 : Int32) then (2 : Int32) else ((v_M (ix ((s_X_wordsOf ((v_o (ix (3 : Int32))) &&& (31 : Int32))) + (1 : Int32)))) &&& (3 : Int32)))) 2 (((v_M (ix ((s_X_wordsOf ((v_o (ix (3 : Int32))) &&& (31 : Int32))) + (1 : Int32)))) >>> ((2 : Int32) &&& 31)) &&& (1 : Int32))) 3 (((v_M (ix ((s_X_wordsOf ((v_o (ix (3 : Int32))) &&& (31 : Int32))) + (1 : Int32)))) >>> ((3 : Int32) &&& 31)) &&& (15 : Int32)), upd v_M (ix (s_X_wordsOf ((v_o (ix (3 : Int32))) &&& (31 : Int32)))) ((upd v_o (ix (3 : Int32)) (v_M (ix (s_X_wordsOf ((v_o (ix (3 : Int32))) &&& (31 : Int32)))))) (ix (1 : Int32))), upd (upd (upd (upd v_d (ix (4 : Int32)) (v_M (ix (((s_X_wordsOf ((v_o (ix (3 : Int32))) &&& (31 : Int32))) + (4 : Int32)) + (0 : Int32))))) (ix (5 : Int32)) (v_M (ix (((s_X_wordsOf ((v_o (ix (3 : Int32))) &&& (31 : Int32))) + (4 : Int32)) + (1 : Int32))))) (ix (6 : Int32)) (v_M (ix (((s_X_wordsOf ((v_o (ix (3 : Int32))) &&& (31 : Int32))) + (4 : Int32)) + (2 : Int32))))) (ix (7 : Int32)) (v_M (ix (((s_X_wordsOf ((v_o (ix (3 : Int32))) &&& (31 : Int32))) + (4 : Int32)) + (3 : Int32)))), upd (upd v_a (ix (6 : Int32)) (v_M (ix ((s_X_wordsOf ((v_o (ix (3 : Int32))) &&& (31 : Int32))) + (2 : Int32))))) (ix (7 : Int32)) (v_M (ix ((s_X_wordsOf ((v_o (ix (3 : Int32))) &&& (31 : Int32))) + (3 : Int32)))), upd (upd v_o (ix (3 : Int32)) (v_M (ix (s_X_wordsOf ((v_o (ix (3 : Int32))) &&& (31 : Int32)))))) (ix (1 : Int32)) ((v_o (ix (3 : Int32))) &&& (31 : Int32)))
def s_X_keepL (v_x : Nat → Int32) (v_M : Nat → Int32) (v_d : Nat → Int32) (v_a : Nat → Int32) (v_o : Nat → Int32) (v_lo : Nat → Int32) (v_hi : Nat → Int32) (v_ri : Nat → Int32) : Int32 × (Nat → Int32) × (Nat → Int32) × (Nat → Int32) :=
  if (s_X_isArea ((v_o (ix (1 : Int32))) &&& (31 : Int32))) = 0 then ((0 : Int32), upd v_x 7 (0 : Int32), v_M, v_o) else ((1 : Int32), upd v_x 17 (if (v_x 17) = 0 then (if ((v_M (ix (s_X_wordsOf ((v_o (ix (1 : Int32))) &&& (31 : Int32))))) &&& (31 : Int32)) = ((upd (upd v_o (ix (1 : Int32)) (v_M (ix (s_X_wordsOf ((v_o (ix (1 : Int32))) &&& (31 : Int32)))))) (ix (3 : Int32)) (((((v_o (ix (1 : Int32))) &&& (31 : Int32)) + (0 : Int32)) + ((256 : Int32) * (v_x 4))) + (if (v_x 5) = 0 then (0 : Int32) else (4096 : Int32)))) (ix (2 : Int32))) then (1 : Int32) else (0 : Int32)) else (1 : Int32)), upd (upd (upd (upd (upd (upd (upd (upd v_M (ix (s_X_wordsOf ((v_o (ix (1 : Int32))) &&& (31 : Int32)))) (v_o (ix (3 : Int32)))) (ix ((s_X_wordsOf ((v_o (ix (1 : Int32))) &&& (31 : Int32))) + (1 : Int32))) (v_a (ix (7 : Int32)))) (ix ((s_X_wordsOf ((v_o (ix (1 : Int32))) &&& (31 : Int32))) + (2 : Int32))) (v_a (ix (2 : Int32)))) (ix ((s_X_wordsOf ((v_o (ix (1 : Int32))) &&& (31 : Int32))) + (3 : Int32))) (v_a (ix (3 : Int32)))) (ix (((s_X_wordsOf ((v_o (ix (1 : Int32))) &&& (31 : Int32))) + (4 : Int32)) + (0 : Int32))) (v_d (ix (0 : Int32)))) (ix (((s_X_wordsOf ((v_o (ix (1 : Int32))) &&& (31 : Int32))) + (4 : Int32)) + (1 : Int32))) (v_d (ix (1 : Int32)))) (ix (((s_X_wordsOf ((v_o (ix (1 : Int32))) &&& (31 : Int32))) + (4 : Int32)) + (2 : Int32))) (v_d (ix (2 : Int32)))) (ix (((s_X_wordsOf ((v_o (ix (1 : Int32))) &&& (31 : Int32))) + (4 : Int32)) + (3 : Int32))) (v_d (ix (3 : Int32))), upd (upd v_o (ix (1 : Int32)) (v_M (ix (s_X_wordsOf ((v_o (ix (1 : Int32))) &&& (31 : Int32)))))) (ix (3 : Int32)) (((((v_o (ix (1 : Int32))) &&& (31 : Int32)) + (0 : Int32)) + ((256 : Int32) * (v_x 4))) + (if (v_x 5) = 0 then (0 : Int32) else (4096 : Int32))))
def s_X_canBringL (v_x : Nat → Int32) (v_M : Nat → Int32) (v_d : Nat → Int32) (v_a : Nat → Int32) (v_o : Nat → Int32) (v_lo : Nat → Int32) (v_hi : Nat → Int32) (v_ri : Nat → Int32) : Int32 × (Nat → Int32) :=
  if (s_X_isArea ((v_o (ix (3 : Int32))) &&& (31 : Int32))) = 0 then ((0 : Int32), upd v_x 7 (0 : Int32)) else (if (if (if ((v_o (ix (3 : Int32))) &&& (32 : Int32)) = 0 then (0 : Int32) else (1 : Int32)) = (0 : Int32) then (1 : Int32) else (0 : Int32)) = 0 then ((if (if ((v_o (ix (3 : Int32))) &&& (32 : Int32)) = 0 then (0 : Int32) else (1 : Int32)) = (0 : Int32) then (1 : Int32) else (0 : Int32)), upd v_x 19 (772 : Int32)) else ((if (if ((v_o (ix (3 : Int32))) &&& (32 : Int32)) = 0 then (0 : Int32) else (1 : Int32)) = (0 : Int32) then (1 : Int32) else (0 : Int32)), upd v_x 19 (v_x 19)))
def s_X_bringL (v_x : Nat → Int32) (v_M : Nat → Int32) (v_d : Nat → Int32) (v_a : Nat → Int32) (v_o : Nat → Int32) (v_lo : Nat → Int32) (v_hi : Nat → Int32) (v_ri : Nat → Int32) : (Nat → Int32) × (Nat → Int32) × (Nat → Int32) × (Nat → Int32) :=
  (upd v_M (ix (s_X_wordsOf ((v_o (ix (3 : Int32))) &&& (31 : Int32)))) ((upd v_o (ix (3 : Int32)) (v_M (ix (s_X_wordsOf ((v_o (ix (3 : Int32))) &&& (31 : Int32)))))) (ix (1 : Int32))), upd (upd (upd (upd v_d (ix (0 : Int32)) (v_M (ix (((s_X_wordsOf ((v_o (ix (3 : Int32))) &&& (31 : Int32))) + (4 : Int32)) + (0 : Int32))))) (ix (1 : Int32)) (v_M (ix (((s_X_wordsOf ((v_o (ix (3 : Int32))) &&& (31 : Int32))) + (4 : Int32)) + (1 : Int32))))) (ix (2 : Int32)) (v_M (ix (((s_X_wordsOf ((v_o (ix (3 : Int32))) &&& (31 : Int32))) + (4 : Int32)) + (2 : Int32))))) (ix (3 : Int32)) (v_M (ix (((s_X_wordsOf ((v_o (ix (3 : Int32))) &&& (31 : Int32))) + (4 : Int32)) + (3 : Int32)))), upd (upd (upd v_a (ix (7 : Int32)) (v_M (ix ((s_X_wordsOf ((v_o (ix (3 : Int32))) &&& (31 : Int32))) + (1 : Int32))))) (ix (2 : Int32)) (v_M (ix ((s_X_wordsOf ((v_o (ix (3 : Int32))) &&& (31 : Int32))) + (2 : Int32))))) (ix (3 : Int32)) (v_M (ix ((s_X_wordsOf ((v_o (ix (3 : Int32))) &&& (31 : Int32))) + (3 : Int32)))), upd (upd v_o (ix (3 : Int32)) (v_M (ix (s_X_wordsOf ((v_o (ix (3 : Int32))) &&& (31 : Int32)))))) (ix (1 : Int32)) ((v_o (ix (3 : Int32))) &&& (31 : Int32)))
def s_X_enter (v_x : Nat → Int32) (v_M : Nat → Int32) (v_d : Nat → Int32) (v_a : Nat → Int32) (v_o : Nat → Int32) (v_lo : Nat → Int32) (v_hi : Nat → Int32) (v_ri : Nat → Int32) (a1 : Int32) (a2 : Int32) : Int32 × (Nat → Int32) × (Nat → Int32) × (Nat → Int32) × (Nat → Int32) :=
  if (s_X_keepU v_x v_M v_d v_a v_o v_lo v_hi v_ri).1 = 0 then ((0 : Int32), (s_X_keepU v_x v_M v_d v_a v_o v_lo v_hi v_ri).2.1, (s_X_keepU v_x v_M v_d v_a v_o v_lo v_hi v_ri).2.2.1, v_a, (s_X_keepU v_x v_M v_d v_a v_o v_lo v_hi v_ri).2.2.2) else ((1 : Int32), upd (upd (upd (upd ((s_X_keepU v_x v_M v_d v_a v_o v_lo v_hi v_ri).2.1) 1 (2 : Int32)) 2 (0 : Int32)) 3 (0 : Int32)) 5 (0 : Int32), (s_X_keepU v_x v_M v_d v_a v_o v_lo v_hi v_ri).2.2.1, upd v_a (ix (7 : Int32)) a1, upd ((s_X_keepU v_x v_M v_d v_a v_o v_lo v_hi v_ri).2.2.2) (ix (0 : Int32)) a2)
def s_X_take (v_x : Nat → Int32) (v_M : Nat → Int32) (v_d : Nat → Int32) (v_a : Nat → Int32) (v_o : Nat → Int32) (v_lo : Nat → Int32) (v_hi : Nat → Int32) (v_ri : Nat → Int32) (a1 : Int32) (a2 : Int32) : (Nat → Int32) × (Nat → Int32) × (Nat → Int32) × (Nat → Int32) × (Nat → Int32) :=
  if (s_X_enter (upd v_x 18 (if (v_x 18) = 0 then (if a1 = (3 : Int32) then (1 : Int32) else (0 : Int32)) else (1 : Int32))) v_M v_d v_a v_o v_lo v_hi v_ri (if a1 = (6 : Int32) then ((v_o (ix (0 : Int32))) + (1 : Int32)) else (v_o (ix (0 : Int32)))) ((v_x 11) + ((4 : Int32) * a1))).1 = 0 then ((s_X_enter (upd v_x 18 (if (v_x 18) = 0 then (if a1 = (3 : Int32) then (1 : Int32) else (0 : Int32)) else (1 : Int32))) v_M v_d v_a v_o v_lo v_hi v_ri (if a1 = (6 : Int32) then ((v_o (ix (0 : Int32))) + (1 : Int32)) else (v_o (ix (0 : Int32)))) ((v_x 11) + ((4 : Int32) * a1))).2.1, (s_X_enter (upd v_x 18 (if (v_x 18) = 0 then (if a1 = (3 : Int32) then (1 : Int32) else (0 : Int32)) else (1 : Int32))) v_M v_d v_a v_o v_lo v_hi v_ri (if a1 = (6 : Int32) then ((v_o (ix (0 : Int32))) + (1 : Int32)) else (v_o (ix (0 : Int32)))) ((v_x 11) + ((4 : Int32) * a1))).2.2.1, v_d, (s_X_enter (upd v_x 18 (if (v_x 18) = 0 then (if a1 = (3 : Int32) then (1 : Int32) else (0 : Int32)) else (1 : Int32))) v_M v_d v_a v_o v_lo v_hi v_ri (if a1 = (6 : Int32) then ((v_o (ix (0 : Int32))) + (1 : Int32)) else (v_o (ix (0 : Int32)))) ((v_x 11) + ((4 : Int32) * a1))).2.2.2.1, (s_X_enter (upd v_x 18 (if (v_x 18) = 0 then (if a1 = (3 : Int32) then (1 : Int32) else (0 : Int32)) else (1 : Int32))) v_M v_d v_a v_o v_lo v_hi v_ri (if a1 = (6 : Int32) then ((v_o (ix (0 : Int32))) + (1 : Int32)) else (v_o (ix (0 : Int32)))) ((v_x 11) + ((4 : Int32) * a1))).2.2.2.2) else (upd (upd ((s_X_enter (upd v_x 18 (if (v_x 18) = 0 then (if a1 = (3 : Int32) then (1 : Int32) else (0 : Int32)) else (1 : Int32))) v_M v_d v_a v_o v_lo v_hi v_ri (if a1 = (6 : Int32) then ((v_o (ix (0 : Int32))) + (1 : Int32)) else (v_o (ix (0 : Int32)))) ((v_x 11) + ((4 : Int32) * a1))).2.1) 14 ((((s_X_enter (upd v_x 18 (if (v_x 18) = 0 then (if a1 = (3 : Int32) then (1 : Int32) else (0 : Int32)) else (1 : Int32))) v_M v_d v_a v_o v_lo v_hi v_ri (if a1 = (6 : Int32) then ((v_o (ix (0 : Int32))) + (1 : Int32)) else (v_o (ix (0 : Int32)))) ((v_x 11) + ((4 : Int32) * a1))).2.1) 14) + (1 : Int32))) 15 (((16 : Int32) * a1) + (a2 &&& (15 : Int32))), (s_X_enter (upd v_x 18 (if (v_x 18) = 0 then (if a1 = (3 : Int32) then (1 : Int32) else (0 : Int32)) else (1 : Int32))) v_M v_d v_a v_o v_lo v_hi v_ri (if a1 = (6 : Int32) then ((v_o (ix (0 : Int32))) + (1 : Int32)) else (v_o (ix (0 : Int32)))) ((v_x 11) + ((4 : Int32) * a1))).2.2.1, upd v_d (ix (7 : Int32)) a2, (s_X_enter (upd v_x 18 (if (v_x 18) = 0 then (if a1 = (3 : Int32) then (1 : Int32) else (0 : Int32)) else (1 : Int32))) v_M v_d v_a v_o v_lo v_hi v_ri (if a1 = (6 : Int32) then ((v_o (ix (0 : Int32))) + (1 : Int32)) else (v_o (ix (0 : Int32)))) ((v_x 11) + ((4 : Int32) * a1))).2.2.2.1, (s_X_enter (upd v_x 18 (if (v_x 18) = 0 then (if a1 = (3 : Int32) then (1 : Int32) else (0 : Int32)) else (1 : Int32))) v_M v_d v_a v_o v_lo v_hi v_ri (if a1 = (6 : Int32) then ((v_o (ix (0 : Int32))) + (1 : Int32)) else (v_o (ix (0 : Int32)))) ((v_x 11) + ((4 : Int32) * a1))).2.2.2.2)
def s_X_guarded (v_x : Nat → Int32) (v_M : Nat → Int32) (v_d : Nat → Int32) (v_a : Nat → Int32) (v_o : Nat → Int32) (v_lo : Nat → Int32) (v_hi : Nat → Int32) (v_ri : Nat → Int32) : Int32 :=
  if (v_x 13) = 0 then (0 : Int32) else (if (v_x 1) = (2 : Int32) then (0 : Int32) else (1 : Int32))
def s_X_mayR0 (v_x : Nat → Int32) (v_M : Nat → Int32) (v_d : Nat → Int32) (v_a : Nat → Int32) (v_o : Nat → Int32) (v_lo : Nat → Int32) (v_hi : Nat → Int32) (v_ri : Nat → Int32) (a1 : Int32) : Int32 × (Nat → Int32) :=
  if (if a1 < 0 then (0 : Int32) else (if (512 : Int32) ≤ a1 then (0 : Int32) else (1 : Int32))) = 0 then ((0 : Int32), upd v_x 19 (if (if a1 < 0 then (0 : Int32) else (if (512 : Int32) ≤ a1 then (0 : Int32) else (1 : Int32))) = 0 then (1025 : Int32) else (if (if (if (if (s_X_guarded v_x v_M v_d v_a v_o v_lo v_hi v_ri) = 0 then (1 : Int32) else (0 : Int32)) = 0 then (if a1 < (v_lo (ix (0 : Int32))) then (0 : Int32) else (if (v_hi (ix (0 : Int32))) ≤ a1 then (0 : Int32) else (if ((v_ri (ix (0 : Int32))) &&& (1 : Int32)) = 0 then (0 : Int32) else (1 : Int32)))) else (1 : Int32)) = 0 then (if a1 < (v_lo (ix (1 : Int32))) then (0 : Int32) else (if (v_hi (ix (1 : Int32))) ≤ a1 then (0 : Int32) else (if ((v_ri (ix (1 : Int32))) &&& (1 : Int32)) = 0 then (0 : Int32) else (1 : Int32)))) else (1 : Int32)) = 0 then (258 : Int32) else (v_x 19)))) else (if (if (if (if (s_X_guarded v_x v_M v_d v_a v_o v_lo v_hi v_ri) = 0 then (1 : Int32) else (0 : Int32)) = 0 then (if a1 < (v_lo (ix (0 : Int32))) then (0 : Int32) else (if (v_hi (ix (0 : Int32))) ≤ a1 then (0 : Int32) else (if ((v_ri (ix (0 : Int32))) &&& (1 : Int32)) = 0 then (0 : Int32) else (1 : Int32)))) else (1 : Int32)) = 0 then (if a1 < (v_lo (ix (1 : Int32))) then (0 : Int32) else (if (v_hi (ix (1 : Int32))) ≤ a1 then (0 : Int32) else (if ((v_ri (ix (1 : Int32))) &&& (1 : Int32)) = 0 then (0 : Int32) else (1 : Int32)))) else (1 : Int32)) = 0 then ((0 : Int32), upd v_x 19 (if (if a1 < 0 then (0 : Int32) else (if (512 : Int32) ≤ a1 then (0 : Int32) else (1 : Int32))) = 0 then (1025 : Int32) else (if (if (if (if (s_X_guarded v_x v_M v_d v_a v_o v_lo v_hi v_ri) = 0 then (1 : Int32) else (0 : Int32)) = 0 then (if a1 < (v_lo (ix (0 : Int32))) then (0 : Int32) else (if (v_hi (ix (0 : Int32))) ≤ a1 then (0 : Int32) else (if ((v_ri (ix (0 : Int32))) &&& (1 : Int32)) = 0 then (0 : Int32) else (1 : Int32)))) else (1 : Int32)) = 0 then (if a1 < (v_lo (ix (1 : Int32))) then (0 : Int32) else (if (v_hi (ix (1 : Int32))) ≤ a1 then (0 : Int32) else (if ((v_ri (ix (1 : Int32))) &&& (1 : Int32)) = 0 then (0 : Int32) else (1 : Int32)))) else (1 : Int32)) = 0 then (258 : Int32) else (v_x 19)))) else ((1 : Int32), upd v_x 19 (if (if a1 < 0 then (0 : Int32) else (if (512 : Int32) ≤ a1 then (0 : Int32) else (1 : Int32))) = 0 then (1025 : Int32) else (if (if (if (if (s_X_guarded v_x v_M v_d v_a v_o v_lo v_hi v_ri) = 0 then (1 : Int32) else (0 : Int32)) = 0 then (if a1 < (v_lo (ix (0 : Int32))) then (0 : Int32) else (if (v_hi (ix (0 : Int32))) ≤ a1 then (0 : Int32) else (if ((v_ri (ix (0 : Int32))) &&& (1 : Int32)) = 0 then (0 : Int32) else (1 : Int32)))) else (1 : Int32)) = 0 then (if a1 < (v_lo (ix (1 : Int32))) then (0 : Int32) else (if (v_hi (ix (1 : Int32))) ≤ a1 then (0 : Int32) else (if ((v_ri (ix (1 : Int32))) &&& (1 : Int32)) = 0 then (0 : Int32) else (1 : Int32)))) else (1 : Int32)) = 0 then (258 : Int32) else (v_x 19)))))
def s_X_mayR1 (v_x : Nat → Int32) (v_M : Nat → Int32) (v_d : Nat → Int32) (v_a : Nat → Int32) (v_o : Nat → Int32) (v_lo : Nat → Int32) (v_hi : Nat → Int32) (v_ri : Nat → Int32) (a1 : Int32) : Int32 × (Nat → Int32) :=
  if (if a1 < 0 then (0 : Int32) else (if (512 : Int32) ≤ a1 then (0 : Int32) else (1 : Int32))) = 0 then ((0 : Int32), upd v_x 19 (if (if a1 < 0 then (0 : Int32) else (if (512 : Int32) ≤ a1 then (0 : Int32) else (1 : Int32))) = 0 then (1025 : Int32) else (if (if (if (if (s_X_guarded v_x v_M v_d v_a v_o v_lo v_hi v_ri) = 0 then (1 : Int32) else (0 : Int32)) = 0 then (if a1 < (v_lo (ix (3 : Int32))) then (0 : Int32) else (if (v_hi (ix (3 : Int32))) ≤ a1 then (0 : Int32) else (if ((v_ri (ix (3 : Int32))) &&& (1 : Int32)) = 0 then (0 : Int32) else (1 : Int32)))) else (1 : Int32)) = 0 then (if a1 < (v_lo (ix (4 : Int32))) then (0 : Int32) else (if (v_hi (ix (4 : Int32))) ≤ a1 then (0 : Int32) else (if ((v_ri (ix (4 : Int32))) &&& (1 : Int32)) = 0 then (0 : Int32) else (1 : Int32)))) else (1 : Int32)) = 0 then (258 : Int32) else (v_x 19)))) else (if (if (if (if (s_X_guarded v_x v_M v_d v_a v_o v_lo v_hi v_ri) = 0 then (1 : Int32) else (0 : Int32)) = 0 then (if a1 < (v_lo (ix (3 : Int32))) then (0 : Int32) else (if (v_hi (ix (3 : Int32))) ≤ a1 then (0 : Int32) else (if ((v_ri (ix (3 : Int32))) &&& (1 : Int32)) = 0 then (0 : Int32) else (1 : Int32)))) else (1 : Int32)) = 0 then (if a1 < (v_lo (ix (4 : Int32))) then (0 : Int32) else (if (v_hi (ix (4 : Int32))) ≤ a1 then (0 : Int32) else (if ((v_ri (ix (4 : Int32))) &&& (1 : Int32)) = 0 then (0 : Int32) else (1 : Int32)))) else (1 : Int32)) = 0 then ((0 : Int32), upd v_x 19 (if (if a1 < 0 then (0 : Int32) else (if (512 : Int32) ≤ a1 then (0 : Int32) else (1 : Int32))) = 0 then (1025 : Int32) else (if (if (if (if (s_X_guarded v_x v_M v_d v_a v_o v_lo v_hi v_ri) = 0 then (1 : Int32) else (0 : Int32)) = 0 then (if a1 < (v_lo (ix (3 : Int32))) then (0 : Int32) else (if (v_hi (ix (3 : Int32))) ≤ a1 then (0 : Int32) else (if ((v_ri (ix (3 : Int32))) &&& (1 : Int32)) = 0 then (0 : Int32) else (1 : Int32)))) else (1 : Int32)) = 0 then (if a1 < (v_lo (ix (4 : Int32))) then (0 : Int32) else (if (v_hi (ix (4 : Int32))) ≤ a1 then (0 : Int32) else (if ((v_ri (ix (4 : Int32))) &&& (1 : Int32)) = 0 then (0 : Int32) else (1 : Int32)))) else (1 : Int32)) = 0 then (258 : Int32) else (v_x 19)))) else ((1 : Int32), upd v_x 19 (if (if a1 < 0 then (0 : Int32) else (if (512 : Int32) ≤ a1 then (0 : Int32) else (1 : Int32))) = 0 then (1025 : Int32) else (if (if (if (if (s_X_guarded v_x v_M v_d v_a v_o v_lo v_hi v_ri) = 0 then (1 : Int32) else (0 : Int32)) = 0 then (if a1 < (v_lo (ix (3 : Int32))) then (0 : Int32) else (if (v_hi (ix (3 : Int32))) ≤ a1 then (0 : Int32) else (if ((v_ri (ix (3 : Int32))) &&& (1 : Int32)) = 0 then (0 : Int32) else (1 : Int32)))) else (1 : Int32)) = 0 then (if a1 < (v_lo (ix (4 : Int32))) then (0 : Int32) else (if (v_hi (ix (4 : Int32))) ≤ a1 then (0 : Int32) else (if ((v_ri (ix (4 : Int32))) &&& (1 : Int32)) = 0 then (0 : Int32) else (1 : Int32)))) else (1 : Int32)) = 0 then (258 : Int32) else (v_x 19)))))
def s_X_mayR (v_x : Nat → Int32) (v_M : Nat → Int32) (v_d : Nat → Int32) (v_a : Nat → Int32) (v_o : Nat → Int32) (v_lo : Nat → Int32) (v_hi : Nat → Int32) (v_ri : Nat → Int32) (a1 : Int32) : Int32 × (Nat → Int32) :=
  if v_x 2 = (0 : Int32) then s_X_mayR0 v_x v_M v_d v_a v_o v_lo v_hi v_ri a1 else s_X_mayR1 v_x v_M v_d v_a v_o v_lo v_hi v_ri a1
def s_X_mayW0 (v_x : Nat → Int32) (v_M : Nat → Int32) (v_d : Nat → Int32) (v_a : Nat → Int32) (v_o : Nat → Int32) (v_lo : Nat → Int32) (v_hi : Nat → Int32) (v_ri : Nat → Int32) (a1 : Int32) : Int32 × (Nat → Int32) :=
  if (if a1 < 0 then (0 : Int32) else (if (512 : Int32) ≤ a1 then (0 : Int32) else (1 : Int32))) = 0 then ((0 : Int32), upd v_x 19 (if (if a1 < 0 then (0 : Int32) else (if (512 : Int32) ≤ a1 then (0 : Int32) else (1 : Int32))) = 0 then (1025 : Int32) else (if (if (if (if (s_X_guarded v_x v_M v_d v_a v_o v_lo v_hi v_ri) = 0 then (1 : Int32) else (0 : Int32)) = 0 then (if a1 < (v_lo (ix (0 : Int32))) then (0 : Int32) else (if (v_hi (ix (0 : Int32))) ≤ a1 then (0 : Int32) else (if ((v_ri (ix (0 : Int32))) &&& (2 : Int32)) = 0 then (0 : Int32) else (1 : Int32)))) else (1 : Int32)) = 0 then (if a1 < (v_lo (ix (1 : Int32))) then (0 : Int32) else (if (v_hi (ix (1 : Int32))) ≤ a1 then (0 : Int32) else (if ((v_ri (ix (1 : Int32))) &&& (2 : Int32)) = 0 then (0 : Int32) else (1 : Int32)))) else (1 : Int32)) = 0 then (259 : Int32) else (v_x 19)))) else (if (if (if (if (s_X_guarded v_x v_M v_d v_a v_o v_lo v_hi v_ri) = 0 then (1 : Int32) else (0 : Int32)) = 0 then (if a1 < (v_lo (ix (0 : Int32))) then (0 : Int32) else (if (v_hi (ix (0 : Int32))) ≤ a1 then (0 : Int32) else (if ((v_ri (ix (0 : Int32))) &&& (2 : Int32)) = 0 then (0 : Int32) else (1 : Int32)))) else (1 : Int32)) = 0 then (if a1 < (v_lo (ix (1 : Int32))) then (0 : Int32) else (if (v_hi (ix (1 : Int32))) ≤ a1 then (0 : Int32) else (if ((v_ri (ix (1 : Int32))) &&& (2 : Int32)) = 0 then (0 : Int32) else (1 : Int32)))) else (1 : Int32)) = 0 then ((0 : Int32), upd v_x 19 (if (if a1 < 0 then (0 : Int32) else (if (512 : Int32) ≤ a1 then (0 : Int32) else (1 : Int32))) = 0 then (1025 : Int32) else (if (if (if (if (s_X_guarded v_x v_M v_d v_a v_o v_lo v_hi v_ri) = 0 then (1 : Int32) else (0 : Int32)) = 0 then (if a1 < (v_lo (ix (0 : Int32))) then (0 : Int32) else (if (v_hi (ix (0 : Int32))) ≤ a1 then (0 : Int32) else (if ((v_ri (ix (0 : Int32))) &&& (2 : Int32)) = 0 then (0 : Int32) else (1 : Int32)))) else (1 : Int32)) = 0 then (if a1 < (v_lo (ix (1 : Int32))) then (0 : Int32) else (if (v_hi (ix (1 : Int32))) ≤ a1 then (0 : Int32) else (if ((v_ri (ix (1 : Int32))) &&& (2 : Int32)) = 0 then (0 : Int32) else (1 : Int32)))) else (1 : Int32)) = 0 then (259 : Int32) else (v_x 19)))) else ((1 : Int32), upd v_x 19 (if (if a1 < 0 then (0 : Int32) else (if (512 : Int32) ≤ a1 then (0 : Int32) else (1 : Int32))) = 0 then (1025 : Int32) else (if (if (if (if (s_X_guarded v_x v_M v_d v_a v_o v_lo v_hi v_ri) = 0 then (1 : Int32) else (0 : Int32)) = 0 then (if a1 < (v_lo (ix (0 : Int32))) then (0 : Int32) else (if (v_hi (ix (0 : Int32))) ≤ a1 then (0 : Int32) else (if ((v_ri (ix (0 : Int32))) &&& (2 : Int32)) = 0 then (0 : Int32) else (1 : Int32)))) else (1 : Int32)) = 0 then (if a1 < (v_lo (ix (1 : Int32))) then (0 : Int32) else (if (v_hi (ix (1 : Int32))) ≤ a1 then (0 : Int32) else (if ((v_ri (ix (1 : Int32))) &&& (2 : Int32)) = 0 then (0 : Int32) else (1 : Int32)))) else (1 : Int32)) = 0 then (259 : Int32) else (v_x 19)))))
def s_X_mayW1 (v_x : Nat → Int32) (v_M : Nat → Int32) (v_d : Nat → Int32) (v_a : Nat → Int32) (v_o : Nat → Int32) (v_lo : Nat → Int32) (v_hi : Nat → Int32) (v_ri : Nat → Int32) (a1 : Int32) : Int32 × (Nat → Int32) :=
  if (if a1 < 0 then (0 : Int32) else (if (512 : Int32) ≤ a1 then (0 : Int32) else (1 : Int32))) = 0 then ((0 : Int32), upd v_x 19 (if (if a1 < 0 then (0 : Int32) else (if (512 : Int32) ≤ a1 then (0 : Int32) else (1 : Int32))) = 0 then (1025 : Int32) else (if (if (if (if (s_X_guarded v_x v_M v_d v_a v_o v_lo v_hi v_ri) = 0 then (1 : Int32) else (0 : Int32)) = 0 then (if a1 < (v_lo (ix (3 : Int32))) then (0 : Int32) else (if (v_hi (ix (3 : Int32))) ≤ a1 then (0 : Int32) else (if ((v_ri (ix (3 : Int32))) &&& (2 : Int32)) = 0 then (0 : Int32) else (1 : Int32)))) else (1 : Int32)) = 0 then (if a1 < (v_lo (ix (4 : Int32))) then (0 : Int32) else (if (v_hi (ix (4 : Int32))) ≤ a1 then (0 : Int32) else (if ((v_ri (ix (4 : Int32))) &&& (2 : Int32)) = 0 then (0 : Int32) else (1 : Int32)))) else (1 : Int32)) = 0 then (259 : Int32) else (v_x 19)))) else (if (if (if (if (s_X_guarded v_x v_M v_d v_a v_o v_lo v_hi v_ri) = 0 then (1 : Int32) else (0 : Int32)) = 0 then (if a1 < (v_lo (ix (3 : Int32))) then (0 : Int32) else (if (v_hi (ix (3 : Int32))) ≤ a1 then (0 : Int32) else (if ((v_ri (ix (3 : Int32))) &&& (2 : Int32)) = 0 then (0 : Int32) else (1 : Int32)))) else (1 : Int32)) = 0 then (if a1 < (v_lo (ix (4 : Int32))) then (0 : Int32) else (if (v_hi (ix (4 : Int32))) ≤ a1 then (0 : Int32) else (if ((v_ri (ix (4 : Int32))) &&& (2 : Int32)) = 0 then (0 : Int32) else (1 : Int32)))) else (1 : Int32)) = 0 then ((0 : Int32), upd v_x 19 (if (if a1 < 0 then (0 : Int32) else (if (512 : Int32) ≤ a1 then (0 : Int32) else (1 : Int32))) = 0 then (1025 : Int32) else (if (if (if (if (s_X_guarded v_x v_M v_d v_a v_o v_lo v_hi v_ri) = 0 then (1 : Int32) else (0 : Int32)) = 0 then (if a1 < (v_lo (ix (3 : Int32))) then (0 : Int32) else (if (v_hi (ix (3 : Int32))) ≤ a1 then (0 : Int32) else (if ((v_ri (ix (3 : Int32))) &&& (2 : Int32)) = 0 then (0 : Int32) else (1 : Int32)))) else (1 : Int32)) = 0 then (if a1 < (v_lo (ix (4 : Int32))) then (0 : Int32) else (if (v_hi (ix (4 : Int32))) ≤ a1 then (0 : Int32) else (if ((v_ri (ix (4 : Int32))) &&& (2 : Int32)) = 0 then (0 : Int32) else (1 : Int32)))) else (1 : Int32)) = 0 then (259 : Int32) else (v_x 19)))) else ((1 : Int32), upd v_x 19 (if (if a1 < 0 then (0 : Int32) else (if (512 : Int32) ≤ a1 then (0 : Int32) else (1 : Int32))) = 0 then (1025 : Int32) else (if (if (if (if (s_X_guarded v_x v_M v_d v_a v_o v_lo v_hi v_ri) = 0 then (1 : Int32) else (0 : Int32)) = 0 then (if a1 < (v_lo (ix (3 : Int32))) then (0 : Int32) else (if (v_hi (ix (3 : Int32))) ≤ a1 then (0 : Int32) else (if ((v_ri (ix (3 : Int32))) &&& (2 : Int32)) = 0 then (0 : Int32) else (1 : Int32)))) else (1 : Int32)) = 0 then (if a1 < (v_lo (ix (4 : Int32))) then (0 : Int32) else (if (v_hi (ix (4 : Int32))) ≤ a1 then (0 : Int32) else (if ((v_ri (ix (4 : Int32))) &&& (2 : Int32)) = 0 then (0 : Int32) else (1 : Int32)))) else (1 : Int32)) = 0 then (259 : Int32) else (v_x 19)))))
def s_X_mayW (v_x : Nat → Int32) (v_M : Nat → Int32) (v_d : Nat → Int32) (v_a : Nat → Int32) (v_o : Nat → Int32) (v_lo : Nat → Int32) (v_hi : Nat → Int32) (v_ri : Nat → Int32) (a1 : Int32) : Int32 × (Nat → Int32) :=
  if v_x 2 = (0 : Int32) then s_X_mayW0 v_x v_M v_d v_a v_o v_lo v_hi v_ri a1 else s_X_mayW1 v_x v_M v_d v_a v_o v_lo v_hi v_ri a1
def s_X_reckon1 (v_x : Nat → Int32) (v_M : Nat → Int32) (v_d : Nat → Int32) (v_a : Nat → Int32) (v_o : Nat → Int32) (v_lo : Nat → Int32) (v_hi : Nat → Int32) (v_ri : Nat → Int32) (a2 : Int32) (a3 : Int32) (a4 : Int32) (a5 : Int32) : (Nat → Int32) :=
  (upd v_d (ix a2) a5)
def s_X_reckon2 (v_x : Nat → Int32) (v_M : Nat → Int32) (v_d : Nat → Int32) (v_a : Nat → Int32) (v_o : Nat → Int32) (v_lo : Nat → Int32) (v_hi : Nat → Int32) (v_ri : Nat → Int32) (a2 : Int32) (a3 : Int32) (a4 : Int32) (a5 : Int32) : (Nat → Int32) :=
  (upd v_d (ix a2) ((v_d (ix a3)) + a5))
def s_X_reckon3 (v_x : Nat → Int32) (v_M : Nat → Int32) (v_d : Nat → Int32) (v_a : Nat → Int32) (v_o : Nat → Int32) (v_lo : Nat → Int32) (v_hi : Nat → Int32) (v_ri : Nat → Int32) (a2 : Int32) (a3 : Int32) (a4 : Int32) (a5 : Int32) : (Nat → Int32) :=
  (upd v_d (ix a2) ((v_d (ix a3)) + (v_d (ix a4))))
def s_X_reckon4 (v_x : Nat → Int32) (v_M : Nat → Int32) (v_d : Nat → Int32) (v_a : Nat → Int32) (v_o : Nat → Int32) (v_lo : Nat → Int32) (v_hi : Nat → Int32) (v_ri : Nat → Int32) (a2 : Int32) (a3 : Int32) (a4 : Int32) (a5 : Int32) : (Nat → Int32) :=
  (upd v_d (ix a2) ((v_d (ix a3)) - (v_d (ix a4))))
def s_X_reckon5 (v_x : Nat → Int32) (v_M : Nat → Int32) (v_d : Nat → Int32) (v_a : Nat → Int32) (v_o : Nat → Int32) (v_lo : Nat → Int32) (v_hi : Nat → Int32) (v_ri : Nat → Int32) (a2 : Int32) (a3 : Int32) (a4 : Int32) (a5 : Int32) : (Nat → Int32) :=
  (upd v_d (ix a2) ((v_d (ix a3)) * (v_d (ix a4))))
def s_X_reckon6 (v_x : Nat → Int32) (v_M : Nat → Int32) (v_d : Nat → Int32) (v_a : Nat → Int32) (v_o : Nat → Int32) (v_lo : Nat → Int32) (v_hi : Nat → Int32) (v_ri : Nat → Int32) (a2 : Int32) (a3 : Int32) (a4 : Int32) (a5 : Int32) : (Nat → Int32) :=
  (upd v_d (ix a2) ((v_d (ix a3)) &&& (v_d (ix a4))))
def s_X_reckon7 (v_x : Nat → Int32) (v_M : Nat → Int32) (v_d : Nat → Int32) (v_a : Nat → Int32) (v_o : Nat → Int32) (v_lo : Nat → Int32) (v_hi : Nat → Int32) (v_ri : Nat → Int32) (a2 : Int32) (a3 : Int32) (a4 : Int32) (a5 : Int32) : (Nat → Int32) :=
  (upd v_d (ix a2) ((v_d (ix a3)) ^^^ (v_d (ix a4))))
def s_X_reckon8 (v_x : Nat → Int32) (v_M : Nat → Int32) (v_d : Nat → Int32) (v_a : Nat → Int32) (v_o : Nat → Int32) (v_lo : Nat → Int32) (v_hi : Nat → Int32) (v_ri : Nat → Int32) (a2 : Int32) (a3 : Int32) (a4 : Int32) (a5 : Int32) : (Nat → Int32) :=
  (upd v_d (ix a2) (if 0 ≤ a5 then ((v_d (ix a3)) <<< (a5 &&& 31)) else ((v_d (ix a3)) >>> ((-a5) &&& 31))))
def s_X_reckon9 (v_x : Nat → Int32) (v_M : Nat → Int32) (v_d : Nat → Int32) (v_a : Nat → Int32) (v_o : Nat → Int32) (v_lo : Nat → Int32) (v_hi : Nat → Int32) (v_ri : Nat → Int32) (a2 : Int32) (a3 : Int32) (a4 : Int32) (a5 : Int32) : (Nat → Int32) :=
  (upd v_a (ix a2) a5)
def s_X_reckon10 (v_x : Nat → Int32) (v_M : Nat → Int32) (v_d : Nat → Int32) (v_a : Nat → Int32) (v_o : Nat → Int32) (v_lo : Nat → Int32) (v_hi : Nat → Int32) (v_ri : Nat → Int32) (a2 : Int32) (a3 : Int32) (a4 : Int32) (a5 : Int32) : (Nat → Int32) :=
  (upd v_a (ix a2) ((v_a (ix a3)) + a5))
def s_X_reckon11 (v_x : Nat → Int32) (v_M : Nat → Int32) (v_d : Nat → Int32) (v_a : Nat → Int32) (v_o : Nat → Int32) (v_lo : Nat → Int32) (v_hi : Nat → Int32) (v_ri : Nat → Int32) (a2 : Int32) (a3 : Int32) (a4 : Int32) (a5 : Int32) : (Nat → Int32) :=
  (upd v_a (ix a2) (v_d (ix a3)))
def s_X_reckon12 (v_x : Nat → Int32) (v_M : Nat → Int32) (v_d : Nat → Int32) (v_a : Nat → Int32) (v_o : Nat → Int32) (v_lo : Nat → Int32) (v_hi : Nat → Int32) (v_ri : Nat → Int32) (a2 : Int32) (a3 : Int32) (a4 : Int32) (a5 : Int32) : (Nat → Int32) :=
  (upd v_d (ix a2) (v_a (ix a3)))
def s_X_move13 (v_x : Nat → Int32) (v_M : Nat → Int32) (v_d : Nat → Int32) (v_a : Nat → Int32) (v_o : Nat → Int32) (v_lo : Nat → Int32) (v_hi : Nat → Int32) (v_ri : Nat → Int32) (a2 : Int32) (a3 : Int32) (a4 : Int32) : (Nat → Int32) × (Nat → Int32) :=
  if (s_X_mayR v_x v_M v_d v_a v_o v_lo v_hi v_ri ((v_a (ix a3)) + a4)).1 = 0 then ((s_X_mayR v_x v_M v_d v_a v_o v_lo v_hi v_ri ((v_a (ix a3)) + a4)).2, v_d) else ((s_X_mayR v_x v_M v_d v_a v_o v_lo v_hi v_ri ((v_a (ix a3)) + a4)).2, upd v_d (ix a2) (v_M (ix ((v_a (ix a3)) + a4))))
def s_X_move14 (v_x : Nat → Int32) (v_M : Nat → Int32) (v_d : Nat → Int32) (v_a : Nat → Int32) (v_o : Nat → Int32) (v_lo : Nat → Int32) (v_hi : Nat → Int32) (v_ri : Nat → Int32) (a2 : Int32) (a3 : Int32) (a4 : Int32) : (Nat → Int32) × (Nat → Int32) :=
  if (s_X_mayW v_x v_M v_d v_a v_o v_lo v_hi v_ri ((v_a (ix a3)) + a4)).1 = 0 then ((s_X_mayW v_x v_M v_d v_a v_o v_lo v_hi v_ri ((v_a (ix a3)) + a4)).2, v_M) else ((s_X_mayW v_x v_M v_d v_a v_o v_lo v_hi v_ri ((v_a (ix a3)) + a4)).2, upd v_M (ix ((v_a (ix a3)) + a4)) (v_d (ix a2)))
def s_X_move15 (v_x : Nat → Int32) (v_M : Nat → Int32) (v_d : Nat → Int32) (v_a : Nat → Int32) (v_o : Nat → Int32) (v_lo : Nat → Int32) (v_hi : Nat → Int32) (v_ri : Nat → Int32) (a2 : Int32) (a3 : Int32) (a4 : Int32) : (Nat → Int32) × (Nat → Int32) × (Nat → Int32) :=
  if (s_X_mayR v_x v_M v_d v_a v_o v_lo v_hi v_ri (v_a (ix a3))).1 = 0 then ((s_X_mayR v_x v_M v_d v_a v_o v_lo v_hi v_ri (v_a (ix a3))).2, v_d, v_a) else ((s_X_mayR v_x v_M v_d v_a v_o v_lo v_hi v_ri (v_a (ix a3))).2, upd v_d (ix a2) (v_M (ix (v_a (ix a3)))), upd v_a (ix a3) ((v_a (ix a3)) + a4))
def s_X_move16 (v_x : Nat → Int32) (v_M : Nat → Int32) (v_d : Nat → Int32) (v_a : Nat → Int32) (v_o : Nat → Int32) (v_lo : Nat → Int32) (v_hi : Nat → Int32) (v_ri : Nat → Int32) (a2 : Int32) (a3 : Int32) (a4 : Int32) : (Nat → Int32) × (Nat → Int32) × (Nat → Int32) :=
  if (s_X_mayW v_x v_M v_d v_a v_o v_lo v_hi v_ri (v_a (ix a3))).1 = 0 then ((s_X_mayW v_x v_M v_d v_a v_o v_lo v_hi v_ri (v_a (ix a3))).2, v_M, v_a) else ((s_X_mayW v_x v_M v_d v_a v_o v_lo v_hi v_ri (v_a (ix a3))).2, upd v_M (ix (v_a (ix a3))) (v_d (ix a2)), upd v_a (ix a3) ((v_a (ix a3)) + a4))
def s_X_move17 (v_x : Nat → Int32) (v_M : Nat → Int32) (v_d : Nat → Int32) (v_a : Nat → Int32) (v_o : Nat → Int32) (v_lo : Nat → Int32) (v_hi : Nat → Int32) (v_ri : Nat → Int32) (a2 : Int32) (a3 : Int32) (a4 : Int32) : (Nat → Int32) × (Nat → Int32) × (Nat → Int32) :=
  if ((v_a (ix ((a3 + (1 : Int32)) &&& (7 : Int32)))) &&& (65535 : Int32)) < (ushr (v_a (ix ((a3 + (1 : Int32)) &&& (7 : Int32)))) (16 : Int32)) then (if (s_X_mayR v_x v_M v_d v_a v_o v_lo v_hi v_ri ((v_a (ix a3)) + ((v_a (ix ((a3 + (1 : Int32)) &&& (7 : Int32)))) &&& (65535 : Int32)))).1 = 0 then ((s_X_mayR v_x v_M v_d v_a v_o v_lo v_hi v_ri ((v_a (ix a3)) + ((v_a (ix ((a3 + (1 : Int32)) &&& (7 : Int32)))) &&& (65535 : Int32)))).2, v_d, v_a) else ((s_X_mayR v_x v_M v_d v_a v_o v_lo v_hi v_ri ((v_a (ix a3)) + ((v_a (ix ((a3 + (1 : Int32)) &&& (7 : Int32)))) &&& (65535 : Int32)))).2, upd v_d (ix a2) (v_M (ix ((v_a (ix a3)) + ((v_a (ix ((a3 + (1 : Int32)) &&& (7 : Int32)))) &&& (65535 : Int32))))), upd v_a (ix ((a3 + (1 : Int32)) &&& (7 : Int32))) (((ushr (v_a (ix ((a3 + (1 : Int32)) &&& (7 : Int32)))) (16 : Int32)) * (65536 : Int32)) + (if 0 ≤ ((((v_a (ix ((a3 + (1 : Int32)) &&& (7 : Int32)))) &&& (65535 : Int32)) + a4) - (((v_a (ix ((a3 + (1 : Int32)) &&& (7 : Int32)))) &&& (65535 : Int32)) + a4) / (if (ushr (v_a (ix ((a3 + (1 : Int32)) &&& (7 : Int32)))) (16 : Int32)) = 0 then (1 : Int32) else (ushr (v_a (ix ((a3 + (1 : Int32)) &&& (7 : Int32)))) (16 : Int32))) * (if (ushr (v_a (ix ((a3 + (1 : Int32)) &&& (7 : Int32)))) (16 : Int32)) = 0 then (1 : Int32) else (ushr (v_a (ix ((a3 + (1 : Int32)) &&& (7 : Int32)))) (16 : Int32)))) then ((((v_a (ix ((a3 + (1 : Int32)) &&& (7 : Int32)))) &&& (65535 : Int32)) + a4) - (((v_a (ix ((a3 + (1 : Int32)) &&& (7 : Int32)))) &&& (65535 : Int32)) + a4) / (if (ushr (v_a (ix ((a3 + (1 : Int32)) &&& (7 : Int32)))) (16 : Int32)) = 0 then (1 : Int32) else (ushr (v_a (ix ((a3 + (1 : Int32)) &&& (7 : Int32)))) (16 : Int32))) * (if (ushr (v_a (ix ((a3 + (1 : Int32)) &&& (7 : Int32)))) (16 : Int32)) = 0 then (1 : Int32) else (ushr (v_a (ix ((a3 + (1 : Int32)) &&& (7 : Int32)))) (16 : Int32)))) else (((((v_a (ix ((a3 + (1 : Int32)) &&& (7 : Int32)))) &&& (65535 : Int32)) + a4) - (((v_a (ix ((a3 + (1 : Int32)) &&& (7 : Int32)))) &&& (65535 : Int32)) + a4) / (if (ushr (v_a (ix ((a3 + (1 : Int32)) &&& (7 : Int32)))) (16 : Int32)) = 0 then (1 : Int32) else (ushr (v_a (ix ((a3 + (1 : Int32)) &&& (7 : Int32)))) (16 : Int32))) * (if (ushr (v_a (ix ((a3 + (1 : Int32)) &&& (7 : Int32)))) (16 : Int32)) = 0 then (1 : Int32) else (ushr (v_a (ix ((a3 + (1 : Int32)) &&& (7 : Int32)))) (16 : Int32)))) + (ushr (v_a (ix ((a3 + (1 : Int32)) &&& (7 : Int32)))) (16 : Int32))))))) else (upd v_x 19 (514 : Int32), v_d, v_a)
def s_X_jump18 (a2 : Int32) (a3 : Int32) (a4 : Int32) (a5 : Int32) : Int32 :=
  (a2 + a3)
def s_X_jump19 (a2 : Int32) (a3 : Int32) (a4 : Int32) (a5 : Int32) : Int32 :=
  if a4 = 0 then (a2 + a3) else (a2 + (1 : Int32))
def s_X_jump20 (a2 : Int32) (a3 : Int32) (a4 : Int32) (a5 : Int32) : Int32 :=
  if a5 ≤ a4 then (a2 + (1 : Int32)) else (a2 + a3)
def s_X_context21 (v_x : Nat → Int32) (v_M : Nat → Int32) (v_d : Nat → Int32) (v_a : Nat → Int32) (v_o : Nat → Int32) (v_lo : Nat → Int32) (v_hi : Nat → Int32) (v_ri : Nat → Int32) (a2 : Int32) : Int32 × (Nat → Int32) × (Nat → Int32) × (Nat → Int32) × (Nat → Int32) :=
  if (v_x 3) = (15 : Int32) then (((v_o (ix (0 : Int32))) + (1 : Int32)), upd v_x 19 (770 : Int32), v_M, v_a, v_o) else (if (s_X_keepU v_x v_M v_d v_a v_o v_lo v_hi v_ri).1 = 0 then (((v_o (ix (0 : Int32))) + (1 : Int32)), (s_X_keepU v_x v_M v_d v_a v_o v_lo v_hi v_ri).2.1, (s_X_keepU v_x v_M v_d v_a v_o v_lo v_hi v_ri).2.2.1, v_a, (s_X_keepU v_x v_M v_d v_a v_o v_lo v_hi v_ri).2.2.2) else (((v_o (ix (0 : Int32))) + a2), upd ((s_X_keepU v_x v_M v_d v_a v_o v_lo v_hi v_ri).2.1) 3 ((((s_X_keepU v_x v_M v_d v_a v_o v_lo v_hi v_ri).2.1) 3) + (1 : Int32)), (s_X_keepU v_x v_M v_d v_a v_o v_lo v_hi v_ri).2.2.1, upd v_a (ix (7 : Int32)) ((v_o (ix (0 : Int32))) + (1 : Int32)), (s_X_keepU v_x v_M v_d v_a v_o v_lo v_hi v_ri).2.2.2))
def s_X_context22 (v_x : Nat → Int32) (v_M : Nat → Int32) (v_d : Nat → Int32) (v_a : Nat → Int32) (v_o : Nat → Int32) (v_lo : Nat → Int32) (v_hi : Nat → Int32) (v_ri : Nat → Int32) (a2 : Int32) : Int32 × (Nat → Int32) × (Nat → Int32) × (Nat → Int32) × (Nat → Int32) × (Nat → Int32) :=
  if (v_x 3) = 0 then (((v_o (ix (0 : Int32))) + (1 : Int32)), upd v_x 19 (771 : Int32), v_M, v_d, v_a, v_o) else (if (s_X_canBringU v_x v_M v_d v_a v_o v_lo v_hi v_ri).1 = 0 then (((v_o (ix (0 : Int32))) + (1 : Int32)), (s_X_canBringU v_x v_M v_d v_a v_o v_lo v_hi v_ri).2, v_M, v_d, v_a, v_o) else ((v_a (ix (7 : Int32))), (s_X_bringU (upd (upd ((s_X_canBringU v_x v_M v_d v_a v_o v_lo v_hi v_ri).2) 4 (((s_X_canBringU v_x v_M v_d v_a v_o v_lo v_hi v_ri).2) 4)) 5 (((s_X_canBringU v_x v_M v_d v_a v_o v_lo v_hi v_ri).2) 5)) v_M v_d v_a v_o v_lo v_hi v_ri).1, (s_X_bringU (upd (upd ((s_X_canBringU v_x v_M v_d v_a v_o v_lo v_hi v_ri).2) 4 (((s_X_canBringU v_x v_M v_d v_a v_o v_lo v_hi v_ri).2) 4)) 5 (((s_X_canBringU v_x v_M v_d v_a v_o v_lo v_hi v_ri).2) 5)) v_M v_d v_a v_o v_lo v_hi v_ri).2.1, (s_X_bringU (upd (upd ((s_X_canBringU v_x v_M v_d v_a v_o v_lo v_hi v_ri).2) 4 (((s_X_canBringU v_x v_M v_d v_a v_o v_lo v_hi v_ri).2) 4)) 5 (((s_X_canBringU v_x v_M v_d v_a v_o v_lo v_hi v_ri).2) 5)) v_M v_d v_a v_o v_lo v_hi v_ri).2.2.1, (s_X_bringU (upd (upd ((s_X_canBringU v_x v_M v_d v_a v_o v_lo v_hi v_ri).2) 4 (((s_X_canBringU v_x v_M v_d v_a v_o v_lo v_hi v_ri).2) 4)) 5 (((s_X_canBringU v_x v_M v_d v_a v_o v_lo v_hi v_ri).2) 5)) v_M v_d v_a v_o v_lo v_hi v_ri).2.2.2.1, (s_X_bringU (upd (upd ((s_X_canBringU v_x v_M v_d v_a v_o v_lo v_hi v_ri).2) 4 (((s_X_canBringU v_x v_M v_d v_a v_o v_lo v_hi v_ri).2) 4)) 5 (((s_X_canBringU v_x v_M v_d v_a v_o v_lo v_hi v_ri).2) 5)) v_M v_d v_a v_o v_lo v_hi v_ri).2.2.2.2))
def s_X_context23 (v_x : Nat → Int32) (v_M : Nat → Int32) (v_d : Nat → Int32) (v_a : Nat → Int32) (v_o : Nat → Int32) (v_lo : Nat → Int32) (v_hi : Nat → Int32) (v_ri : Nat → Int32) (a2 : Int32) : Int32 × (Nat → Int32) × (Nat → Int32) × (Nat → Int32) :=
  if (s_X_keepL v_x v_M v_d v_a v_o v_lo v_hi v_ri).1 = 0 then (((v_o (ix (0 : Int32))) + (1 : Int32)), (s_X_keepL v_x v_M v_d v_a v_o v_lo v_hi v_ri).2.1, (s_X_keepL v_x v_M v_d v_a v_o v_lo v_hi v_ri).2.2.1, (s_X_keepL v_x v_M v_d v_a v_o v_lo v_hi v_ri).2.2.2) else (((v_o (ix (0 : Int32))) + (1 : Int32)), (s_X_keepL v_x v_M v_d v_a v_o v_lo v_hi v_ri).2.1, (s_X_keepL v_x v_M v_d v_a v_o v_lo v_hi v_ri).2.2.1, (s_X_keepL v_x v_M v_d v_a v_o v_lo v_hi v_ri).2.2.2)
def s_X_context24 (v_x : Nat → Int32) (v_M : Nat → Int32) (v_d : Nat → Int32) (v_a : Nat → Int32) (v_o : Nat → Int32) (v_lo : Nat → Int32) (v_hi : Nat → Int32) (v_ri : Nat → Int32) (a2 : Int32) : Int32 × (Nat → Int32) × (Nat → Int32) × (Nat → Int32) × (Nat → Int32) × (Nat → Int32) :=
  if (s_X_canBringL v_x v_M v_d v_a v_o v_lo v_hi v_ri).1 = 0 then (((v_o (ix (0 : Int32))) + (1 : Int32)), (s_X_canBringL v_x v_M v_d v_a v_o v_lo v_hi v_ri).2, v_M, v_d, v_a, v_o) else (((v_o (ix (0 : Int32))) + (1 : Int32)), (s_X_canBringL v_x v_M v_d v_a v_o v_lo v_hi v_ri).2, (s_X_bringL ((s_X_canBringL v_x v_M v_d v_a v_o v_lo v_hi v_ri).2) v_M v_d v_a v_o v_lo v_hi v_ri).1, (s_X_bringL ((s_X_canBringL v_x v_M v_d v_a v_o v_lo v_hi v_ri).2) v_M v_d v_a v_o v_lo v_hi v_ri).2.1, (s_X_bringL ((s_X_canBringL v_x v_M v_d v_a v_o v_lo v_hi v_ri).2) v_M v_d v_a v_o v_lo v_hi v_ri).2.2.1, (s_X_bringL ((s_X_canBringL v_x v_M v_d v_a v_o v_lo v_hi v_ri).2) v_M v_d v_a v_o v_lo v_hi v_ri).2.2.2)
def s_X_context25 (v_x : Nat → Int32) (v_M : Nat → Int32) (v_d : Nat → Int32) (v_a : Nat → Int32) (v_o : Nat → Int32) (v_lo : Nat → Int32) (v_hi : Nat → Int32) (v_ri : Nat → Int32) (a2 : Int32) : Int32 × (Nat → Int32) × (Nat → Int32) × (Nat → Int32) :=
  if (s_X_keepL v_x v_M v_d v_a v_o v_lo v_hi v_ri).1 = 0 then (((v_o (ix (0 : Int32))) + (1 : Int32)), (s_X_keepL v_x v_M v_d v_a v_o v_lo v_hi v_ri).2.1, (s_X_keepL v_x v_M v_d v_a v_o v_lo v_hi v_ri).2.2.1, (s_X_keepL v_x v_M v_d v_a v_o v_lo v_hi v_ri).2.2.2) else (((v_o (ix (0 : Int32))) + (1 : Int32)), upd (upd ((s_X_keepL v_x v_M v_d v_a v_o v_lo v_hi v_ri).2.1) 4 (a2 &&& (15 : Int32))) 5 (1 : Int32), (s_X_keepL v_x v_M v_d v_a v_o v_lo v_hi v_ri).2.2.1, (s_X_keepL v_x v_M v_d v_a v_o v_lo v_hi v_ri).2.2.2)
def s_X_context26 (v_x : Nat → Int32) (v_M : Nat → Int32) (v_d : Nat → Int32) (v_a : Nat → Int32) (v_o : Nat → Int32) (v_lo : Nat → Int32) (v_hi : Nat → Int32) (v_ri : Nat → Int32) (a2 : Int32) : Int32 × (Nat → Int32) × (Nat → Int32) × (Nat → Int32) × (Nat → Int32) × (Nat → Int32) :=
  if (s_X_canBringU v_x v_M v_d v_a v_o v_lo v_hi v_ri).1 = 0 then (((v_o (ix (0 : Int32))) + (1 : Int32)), (s_X_canBringU v_x v_M v_d v_a v_o v_lo v_hi v_ri).2, v_M, v_d, v_a, v_o) else ((v_a (ix (7 : Int32))), (s_X_bringU (upd (upd ((s_X_canBringU v_x v_M v_d v_a v_o v_lo v_hi v_ri).2) 4 (((v_o (ix (3 : Int32))) >>> ((8 : Int32) &&& 31)) &&& (15 : Int32))) 5 (if ((v_o (ix (3 : Int32))) &&& (4096 : Int32)) = 0 then (0 : Int32) else (1 : Int32))) v_M v_d v_a v_o v_lo v_hi v_ri).1, (s_X_bringU (upd (upd ((s_X_canBringU v_x v_M v_d v_a v_o v_lo v_hi v_ri).2) 4 (((v_o (ix (3 : Int32))) >>> ((8 : Int32) &&& 31)) &&& (15 : Int32))) 5 (if ((v_o (ix (3 : Int32))) &&& (4096 : Int32)) = 0 then (0 : Int32) else (1 : Int32))) v_M v_d v_a v_o v_lo v_hi v_ri).2.1, (s_X_bringU (upd (upd ((s_X_canBringU v_x v_M v_d v_a v_o v_lo v_hi v_ri).2) 4 (((v_o (ix (3 : Int32))) >>> ((8 : Int32) &&& 31)) &&& (15 : Int32))) 5 (if ((v_o (ix (3 : Int32))) &&& (4096 : Int32)) = 0 then (0 : Int32) else (1 : Int32))) v_M v_d v_a v_o v_lo v_hi v_ri).2.2.1, (s_X_bringU (upd (upd ((s_X_canBringU v_x v_M v_d v_a v_o v_lo v_hi v_ri).2) 4 (((v_o (ix (3 : Int32))) >>> ((8 : Int32) &&& 31)) &&& (15 : Int32))) 5 (if ((v_o (ix (3 : Int32))) &&& (4096 : Int32)) = 0 then (0 : Int32) else (1 : Int32))) v_M v_d v_a v_o v_lo v_hi v_ri).2.2.2.1, (s_X_bringU (upd (upd ((s_X_canBringU v_x v_M v_d v_a v_o v_lo v_hi v_ri).2) 4 (((v_o (ix (3 : Int32))) >>> ((8 : Int32) &&& 31)) &&& (15 : Int32))) 5 (if ((v_o (ix (3 : Int32))) &&& (4096 : Int32)) = 0 then (0 : Int32) else (1 : Int32))) v_M v_d v_a v_o v_lo v_hi v_ri).2.2.2.2)
def s_X_system0 (v_x : Nat → Int32) (v_M : Nat → Int32) (v_d : Nat → Int32) (v_a : Nat → Int32) (v_o : Nat → Int32) (v_lo : Nat → Int32) (v_hi : Nat → Int32) (v_ri : Nat → Int32) (a2 : Int32) : (Nat → Int32) :=
  (upd v_x 19 (513 : Int32))
def s_X_system27 (v_x : Nat → Int32) (v_M : Nat → Int32) (v_d : Nat → Int32) (v_a : Nat → Int32) (v_o : Nat → Int32) (v_lo : Nat → Int32) (v_hi : Nat → Int32) (v_ri : Nat → Int32) (a2 : Int32) : (Nat → Int32) :=
  (upd v_x 19 ((1536 : Int32) + (a2 &&& (255 : Int32))))
def s_X_system28 (v_x : Nat → Int32) (v_M : Nat → Int32) (v_d : Nat → Int32) (v_a : Nat → Int32) (v_o : Nat → Int32) (v_lo : Nat → Int32) (v_hi : Nat → Int32) (v_ri : Nat → Int32) (a2 : Int32) : (Nat → Int32) :=
  if (a2 &&& (1 : Int32)) = (1 : Int32) then (upd v_x 5 (1 : Int32)) else (upd v_x 5 (0 : Int32))
def s_X_system29 (v_x : Nat → Int32) (v_M : Nat → Int32) (v_d : Nat → Int32) (v_a : Nat → Int32) (v_o : Nat → Int32) (v_lo : Nat → Int32) (v_hi : Nat → Int32) (v_ri : Nat → Int32) (a2 : Int32) : (Nat → Int32) :=
  (upd v_x 2 (a2 &&& (1 : Int32)))
def s_X_system30 (v_x : Nat → Int32) (v_M : Nat → Int32) (v_d : Nat → Int32) (v_a : Nat → Int32) (v_o : Nat → Int32) (v_lo : Nat → Int32) (v_hi : Nat → Int32) (v_ri : Nat → Int32) (a2 : Int32) : (Nat → Int32) :=
  (upd v_x 1 (a2 &&& (1 : Int32)))
def s_X_system31 (v_x : Nat → Int32) (v_M : Nat → Int32) (v_d : Nat → Int32) (v_a : Nat → Int32) (v_o : Nat → Int32) (v_lo : Nat → Int32) (v_hi : Nat → Int32) (v_ri : Nat → Int32) (a2 : Int32) : (Nat → Int32) :=
  (upd v_x 7 (0 : Int32))
def s_X_instr0 (v_x : Nat → Int32) (v_M : Nat → Int32) (v_d : Nat → Int32) (v_a : Nat → Int32) (v_o : Nat → Int32) (v_lo : Nat → Int32) (v_hi : Nat → Int32) (v_ri : Nat → Int32) (a1 : Int32) : (Nat → Int32) × (Nat → Int32) :=
  ((s_X_system0 v_x v_M v_d v_a v_o v_lo v_hi v_ri (a1 >>> ((16 : Int32) &&& 31))), upd v_o (ix (0 : Int32)) (if ((s_X_system0 v_x v_M v_d v_a v_o v_lo v_hi v_ri (a1 >>> ((16 : Int32) &&& 31))) 19) = 0 then (if ((s_X_system0 v_x v_M v_d v_a v_o v_lo v_hi v_ri (a1 >>> ((16 : Int32) &&& 31))) 7) = 0 then (v_o (ix (0 : Int32))) else ((v_o (ix (0 : Int32))) + (1 : Int32))) else (v_o (ix (0 : Int32)))))
def s_X_instr1 (v_x : Nat → Int32) (v_M : Nat → Int32) (v_d : Nat → Int32) (v_a : Nat → Int32) (v_o : Nat → Int32) (v_lo : Nat → Int32) (v_hi : Nat → Int32) (v_ri : Nat → Int32) (a1 : Int32) : (Nat → Int32) × (Nat → Int32) :=
  ((s_X_reckon1 v_x v_M v_d v_a v_o v_lo v_hi v_ri ((a1 >>> ((5 : Int32) &&& 31)) &&& (7 : Int32)) ((a1 >>> ((8 : Int32) &&& 31)) &&& (7 : Int32)) ((a1 >>> ((11 : Int32) &&& 31)) &&& (7 : Int32)) (a1 >>> ((16 : Int32) &&& 31))), upd v_o (ix (0 : Int32)) (if (v_x 19) = 0 then (if (v_x 7) = 0 then (v_o (ix (0 : Int32))) else ((v_o (ix (0 : Int32))) + (1 : Int32))) else (v_o (ix (0 : Int32)))))
def s_X_instr2 (v_x : Nat → Int32) (v_M : Nat → Int32) (v_d : Nat → Int32) (v_a : Nat → Int32) (v_o : Nat → Int32) (v_lo : Nat → Int32) (v_hi : Nat → Int32) (v_ri : Nat → Int32) (a1 : Int32) : (Nat → Int32) × (Nat → Int32) :=
  ((s_X_reckon2 v_x v_M v_d v_a v_o v_lo v_hi v_ri ((a1 >>> ((5 : Int32) &&& 31)) &&& (7 : Int32)) ((a1 >>> ((8 : Int32) &&& 31)) &&& (7 : Int32)) ((a1 >>> ((11 : Int32) &&& 31)) &&& (7 : Int32)) (a1 >>> ((16 : Int32) &&& 31))), upd v_o (ix (0 : Int32)) (if (v_x 19) = 0 then (if (v_x 7) = 0 then (v_o (ix (0 : Int32))) else ((v_o (ix (0 : Int32))) + (1 : Int32))) else (v_o (ix (0 : Int32)))))
def s_X_instr3 (v_x : Nat → Int32) (v_M : Nat → Int32) (v_d : Nat → Int32) (v_a : Nat → Int32) (v_o : Nat → Int32) (v_lo : Nat → Int32) (v_hi : Nat → Int32) (v_ri : Nat → Int32) (a1 : Int32) : (Nat → Int32) × (Nat → Int32) :=
  ((s_X_reckon3 v_x v_M v_d v_a v_o v_lo v_hi v_ri ((a1 >>> ((5 : Int32) &&& 31)) &&& (7 : Int32)) ((a1 >>> ((8 : Int32) &&& 31)) &&& (7 : Int32)) ((a1 >>> ((11 : Int32) &&& 31)) &&& (7 : Int32)) (a1 >>> ((16 : Int32) &&& 31))), upd v_o (ix (0 : Int32)) (if (v_x 19) = 0 then (if (v_x 7) = 0 then (v_o (ix (0 : Int32))) else ((v_o (ix (0 : Int32))) + (1 : Int32))) else (v_o (ix (0 : Int32)))))
def s_X_instr4 (v_x : Nat → Int32) (v_M : Nat → Int32) (v_d : Nat → Int32) (v_a : Nat → Int32) (v_o : Nat → Int32) (v_lo : Nat → Int32) (v_hi : Nat → Int32) (v_ri : Nat → Int32) (a1 : Int32) : (Nat → Int32) × (Nat → Int32) :=
  ((s_X_reckon4 v_x v_M v_d v_a v_o v_lo v_hi v_ri ((a1 >>> ((5 : Int32) &&& 31)) &&& (7 : Int32)) ((a1 >>> ((8 : Int32) &&& 31)) &&& (7 : Int32)) ((a1 >>> ((11 : Int32) &&& 31)) &&& (7 : Int32)) (a1 >>> ((16 : Int32) &&& 31))), upd v_o (ix (0 : Int32)) (if (v_x 19) = 0 then (if (v_x 7) = 0 then (v_o (ix (0 : Int32))) else ((v_o (ix (0 : Int32))) + (1 : Int32))) else (v_o (ix (0 : Int32)))))
def s_X_instr5 (v_x : Nat → Int32) (v_M : Nat → Int32) (v_d : Nat → Int32) (v_a : Nat → Int32) (v_o : Nat → Int32) (v_lo : Nat → Int32) (v_hi : Nat → Int32) (v_ri : Nat → Int32) (a1 : Int32) : (Nat → Int32) × (Nat → Int32) :=
  ((s_X_reckon5 v_x v_M v_d v_a v_o v_lo v_hi v_ri ((a1 >>> ((5 : Int32) &&& 31)) &&& (7 : Int32)) ((a1 >>> ((8 : Int32) &&& 31)) &&& (7 : Int32)) ((a1 >>> ((11 : Int32) &&& 31)) &&& (7 : Int32)) (a1 >>> ((16 : Int32) &&& 31))), upd v_o (ix (0 : Int32)) (if (v_x 19) = 0 then (if (v_x 7) = 0 then (v_o (ix (0 : Int32))) else ((v_o (ix (0 : Int32))) + (1 : Int32))) else (v_o (ix (0 : Int32)))))
def s_X_instr6 (v_x : Nat → Int32) (v_M : Nat → Int32) (v_d : Nat → Int32) (v_a : Nat → Int32) (v_o : Nat → Int32) (v_lo : Nat → Int32) (v_hi : Nat → Int32) (v_ri : Nat → Int32) (a1 : Int32) : (Nat → Int32) × (Nat → Int32) :=
  ((s_X_reckon6 v_x v_M v_d v_a v_o v_lo v_hi v_ri ((a1 >>> ((5 : Int32) &&& 31)) &&& (7 : Int32)) ((a1 >>> ((8 : Int32) &&& 31)) &&& (7 : Int32)) ((a1 >>> ((11 : Int32) &&& 31)) &&& (7 : Int32)) (a1 >>> ((16 : Int32) &&& 31))), upd v_o (ix (0 : Int32)) (if (v_x 19) = 0 then (if (v_x 7) = 0 then (v_o (ix (0 : Int32))) else ((v_o (ix (0 : Int32))) + (1 : Int32))) else (v_o (ix (0 : Int32)))))
def s_X_instr7 (v_x : Nat → Int32) (v_M : Nat → Int32) (v_d : Nat → Int32) (v_a : Nat → Int32) (v_o : Nat → Int32) (v_lo : Nat → Int32) (v_hi : Nat → Int32) (v_ri : Nat → Int32) (a1 : Int32) : (Nat → Int32) × (Nat → Int32) :=
  ((s_X_reckon7 v_x v_M v_d v_a v_o v_lo v_hi v_ri ((a1 >>> ((5 : Int32) &&& 31)) &&& (7 : Int32)) ((a1 >>> ((8 : Int32) &&& 31)) &&& (7 : Int32)) ((a1 >>> ((11 : Int32) &&& 31)) &&& (7 : Int32)) (a1 >>> ((16 : Int32) &&& 31))), upd v_o (ix (0 : Int32)) (if (v_x 19) = 0 then (if (v_x 7) = 0 then (v_o (ix (0 : Int32))) else ((v_o (ix (0 : Int32))) + (1 : Int32))) else (v_o (ix (0 : Int32)))))
def s_X_instr8 (v_x : Nat → Int32) (v_M : Nat → Int32) (v_d : Nat → Int32) (v_a : Nat → Int32) (v_o : Nat → Int32) (v_lo : Nat → Int32) (v_hi : Nat → Int32) (v_ri : Nat → Int32) (a1 : Int32) : (Nat → Int32) × (Nat → Int32) :=
  ((s_X_reckon8 v_x v_M v_d v_a v_o v_lo v_hi v_ri ((a1 >>> ((5 : Int32) &&& 31)) &&& (7 : Int32)) ((a1 >>> ((8 : Int32) &&& 31)) &&& (7 : Int32)) ((a1 >>> ((11 : Int32) &&& 31)) &&& (7 : Int32)) (a1 >>> ((16 : Int32) &&& 31))), upd v_o (ix (0 : Int32)) (if (v_x 19) = 0 then (if (v_x 7) = 0 then (v_o (ix (0 : Int32))) else ((v_o (ix (0 : Int32))) + (1 : Int32))) else (v_o (ix (0 : Int32)))))
def s_X_instr9 (v_x : Nat → Int32) (v_M : Nat → Int32) (v_d : Nat → Int32) (v_a : Nat → Int32) (v_o : Nat → Int32) (v_lo : Nat → Int32) (v_hi : Nat → Int32) (v_ri : Nat → Int32) (a1 : Int32) : (Nat → Int32) × (Nat → Int32) :=
  ((s_X_reckon9 v_x v_M v_d v_a v_o v_lo v_hi v_ri ((a1 >>> ((5 : Int32) &&& 31)) &&& (7 : Int32)) ((a1 >>> ((8 : Int32) &&& 31)) &&& (7 : Int32)) ((a1 >>> ((11 : Int32) &&& 31)) &&& (7 : Int32)) (a1 >>> ((16 : Int32) &&& 31))), upd v_o (ix (0 : Int32)) (if (v_x 19) = 0 then (if (v_x 7) = 0 then (v_o (ix (0 : Int32))) else ((v_o (ix (0 : Int32))) + (1 : Int32))) else (v_o (ix (0 : Int32)))))
def s_X_instr10 (v_x : Nat → Int32) (v_M : Nat → Int32) (v_d : Nat → Int32) (v_a : Nat → Int32) (v_o : Nat → Int32) (v_lo : Nat → Int32) (v_hi : Nat → Int32) (v_ri : Nat → Int32) (a1 : Int32) : (Nat → Int32) × (Nat → Int32) :=
  ((s_X_reckon10 v_x v_M v_d v_a v_o v_lo v_hi v_ri ((a1 >>> ((5 : Int32) &&& 31)) &&& (7 : Int32)) ((a1 >>> ((8 : Int32) &&& 31)) &&& (7 : Int32)) ((a1 >>> ((11 : Int32) &&& 31)) &&& (7 : Int32)) (a1 >>> ((16 : Int32) &&& 31))), upd v_o (ix (0 : Int32)) (if (v_x 19) = 0 then (if (v_x 7) = 0 then (v_o (ix (0 : Int32))) else ((v_o (ix (0 : Int32))) + (1 : Int32))) else (v_o (ix (0 : Int32)))))
def s_X_instr11 (v_x : Nat → Int32) (v_M : Nat → Int32) (v_d : Nat → Int32) (v_a : Nat → Int32) (v_o : Nat → Int32) (v_lo : Nat → Int32) (v_hi : Nat → Int32) (v_ri : Nat → Int32) (a1 : Int32) : (Nat → Int32) × (Nat → Int32) :=
  ((s_X_reckon11 v_x v_M v_d v_a v_o v_lo v_hi v_ri ((a1 >>> ((5 : Int32) &&& 31)) &&& (7 : Int32)) ((a1 >>> ((8 : Int32) &&& 31)) &&& (7 : Int32)) ((a1 >>> ((11 : Int32) &&& 31)) &&& (7 : Int32)) (a1 >>> ((16 : Int32) &&& 31))), upd v_o (ix (0 : Int32)) (if (v_x 19) = 0 then (if (v_x 7) = 0 then (v_o (ix (0 : Int32))) else ((v_o (ix (0 : Int32))) + (1 : Int32))) else (v_o (ix (0 : Int32)))))
def s_X_instr12 (v_x : Nat → Int32) (v_M : Nat → Int32) (v_d : Nat → Int32) (v_a : Nat → Int32) (v_o : Nat → Int32) (v_lo : Nat → Int32) (v_hi : Nat → Int32) (v_ri : Nat → Int32) (a1 : Int32) : (Nat → Int32) × (Nat → Int32) :=
  ((s_X_reckon12 v_x v_M v_d v_a v_o v_lo v_hi v_ri ((a1 >>> ((5 : Int32) &&& 31)) &&& (7 : Int32)) ((a1 >>> ((8 : Int32) &&& 31)) &&& (7 : Int32)) ((a1 >>> ((11 : Int32) &&& 31)) &&& (7 : Int32)) (a1 >>> ((16 : Int32) &&& 31))), upd v_o (ix (0 : Int32)) (if (v_x 19) = 0 then (if (v_x 7) = 0 then (v_o (ix (0 : Int32))) else ((v_o (ix (0 : Int32))) + (1 : Int32))) else (v_o (ix (0 : Int32)))))
def s_X_instr13 (v_x : Nat → Int32) (v_M : Nat → Int32) (v_d : Nat → Int32) (v_a : Nat → Int32) (v_o : Nat → Int32) (v_lo : Nat → Int32) (v_hi : Nat → Int32) (v_ri : Nat → Int32) (a1 : Int32) : (Nat → Int32) × (Nat → Int32) × (Nat → Int32) :=
  ((s_X_move13 v_x v_M v_d v_a v_o v_lo v_hi v_ri ((a1 >>> ((5 : Int32) &&& 31)) &&& (7 : Int32)) ((a1 >>> ((8 : Int32) &&& 31)) &&& (7 : Int32)) (a1 >>> ((16 : Int32) &&& 31))).1, (s_X_move13 v_x v_M v_d v_a v_o v_lo v_hi v_ri ((a1 >>> ((5 : Int32) &&& 31)) &&& (7 : Int32)) ((a1 >>> ((8 : Int32) &&& 31)) &&& (7 : Int32)) (a1 >>> ((16 : Int32) &&& 31))).2, upd v_o (ix (0 : Int32)) (if (((s_X_move13 v_x v_M v_d v_a v_o v_lo v_hi v_ri ((a1 >>> ((5 : Int32) &&& 31)) &&& (7 : Int32)) ((a1 >>> ((8 : Int32) &&& 31)) &&& (7 : Int32)) (a1 >>> ((16 : Int32) &&& 31))).1) 19) = 0 then (if (((s_X_move13 v_x v_M v_d v_a v_o v_lo v_hi v_ri ((a1 >>> ((5 : Int32) &&& 31)) &&& (7 : Int32)) ((a1 >>> ((8 : Int32) &&& 31)) &&& (7 : Int32)) (a1 >>> ((16 : Int32) &&& 31))).1) 7) = 0 then (v_o (ix (0 : Int32))) else ((v_o (ix (0 : Int32))) + (1 : Int32))) else (v_o (ix (0 : Int32)))))
def s_X_instr14 (v_x : Nat → Int32) (v_M : Nat → Int32) (v_d : Nat → Int32) (v_a : Nat → Int32) (v_o : Nat → Int32) (v_lo : Nat → Int32) (v_hi : Nat → Int32) (v_ri : Nat → Int32) (a1 : Int32) : (Nat → Int32) × (Nat → Int32) × (Nat → Int32) :=
  ((s_X_move14 v_x v_M v_d v_a v_o v_lo v_hi v_ri ((a1 >>> ((5 : Int32) &&& 31)) &&& (7 : Int32)) ((a1 >>> ((8 : Int32) &&& 31)) &&& (7 : Int32)) (a1 >>> ((16 : Int32) &&& 31))).1, (s_X_move14 v_x v_M v_d v_a v_o v_lo v_hi v_ri ((a1 >>> ((5 : Int32) &&& 31)) &&& (7 : Int32)) ((a1 >>> ((8 : Int32) &&& 31)) &&& (7 : Int32)) (a1 >>> ((16 : Int32) &&& 31))).2, upd v_o (ix (0 : Int32)) (if (((s_X_move14 v_x v_M v_d v_a v_o v_lo v_hi v_ri ((a1 >>> ((5 : Int32) &&& 31)) &&& (7 : Int32)) ((a1 >>> ((8 : Int32) &&& 31)) &&& (7 : Int32)) (a1 >>> ((16 : Int32) &&& 31))).1) 19) = 0 then (if (((s_X_move14 v_x v_M v_d v_a v_o v_lo v_hi v_ri ((a1 >>> ((5 : Int32) &&& 31)) &&& (7 : Int32)) ((a1 >>> ((8 : Int32) &&& 31)) &&& (7 : Int32)) (a1 >>> ((16 : Int32) &&& 31))).1) 7) = 0 then (v_o (ix (0 : Int32))) else ((v_o (ix (0 : Int32))) + (1 : Int32))) else (v_o (ix (0 : Int32)))))
def s_X_instr15 (v_x : Nat → Int32) (v_M : Nat → Int32) (v_d : Nat → Int32) (v_a : Nat → Int32) (v_o : Nat → Int32) (v_lo : Nat → Int32) (v_hi : Nat → Int32) (v_ri : Nat → Int32) (a1 : Int32) : (Nat → Int32) × (Nat → Int32) × (Nat → Int32) × (Nat → Int32) :=
  ((s_X_move15 v_x v_M v_d v_a v_o v_lo v_hi v_ri ((a1 >>> ((5 : Int32) &&& 31)) &&& (7 : Int32)) ((a1 >>> ((8 : Int32) &&& 31)) &&& (7 : Int32)) (a1 >>> ((16 : Int32) &&& 31))).1, (s_X_move15 v_x v_M v_d v_a v_o v_lo v_hi v_ri ((a1 >>> ((5 : Int32) &&& 31)) &&& (7 : Int32)) ((a1 >>> ((8 : Int32) &&& 31)) &&& (7 : Int32)) (a1 >>> ((16 : Int32) &&& 31))).2.1, (s_X_move15 v_x v_M v_d v_a v_o v_lo v_hi v_ri ((a1 >>> ((5 : Int32) &&& 31)) &&& (7 : Int32)) ((a1 >>> ((8 : Int32) &&& 31)) &&& (7 : Int32)) (a1 >>> ((16 : Int32) &&& 31))).2.2, upd v_o (ix (0 : Int32)) (if (((s_X_move15 v_x v_M v_d v_a v_o v_lo v_hi v_ri ((a1 >>> ((5 : Int32) &&& 31)) &&& (7 : Int32)) ((a1 >>> ((8 : Int32) &&& 31)) &&& (7 : Int32)) (a1 >>> ((16 : Int32) &&& 31))).1) 19) = 0 then (if (((s_X_move15 v_x v_M v_d v_a v_o v_lo v_hi v_ri ((a1 >>> ((5 : Int32) &&& 31)) &&& (7 : Int32)) ((a1 >>> ((8 : Int32) &&& 31)) &&& (7 : Int32)) (a1 >>> ((16 : Int32) &&& 31))).1) 7) = 0 then (v_o (ix (0 : Int32))) else ((v_o (ix (0 : Int32))) + (1 : Int32))) else (v_o (ix (0 : Int32)))))
def s_X_instr16 (v_x : Nat → Int32) (v_M : Nat → Int32) (v_d : Nat → Int32) (v_a : Nat → Int32) (v_o : Nat → Int32) (v_lo : Nat → Int32) (v_hi : Nat → Int32) (v_ri : Nat → Int32) (a1 : Int32) : (Nat → Int32) × (Nat → Int32) × (Nat → Int32) × (Nat → Int32) :=
  ((s_X_move16 v_x v_M v_d v_a v_o v_lo v_hi v_ri ((a1 >>> ((5 : Int32) &&& 31)) &&& (7 : Int32)) ((a1 >>> ((8 : Int32) &&& 31)) &&& (7 : Int32)) (a1 >>> ((16 : Int32) &&& 31))).1, (s_X_move16 v_x v_M v_d v_a v_o v_lo v_hi v_ri ((a1 >>> ((5 : Int32) &&& 31)) &&& (7 : Int32)) ((a1 >>> ((8 : Int32) &&& 31)) &&& (7 : Int32)) (a1 >>> ((16 : Int32) &&& 31))).2.1, (s_X_move16 v_x v_M v_d v_a v_o v_lo v_hi v_ri ((a1 >>> ((5 : Int32) &&& 31)) &&& (7 : Int32)) ((a1 >>> ((8 : Int32) &&& 31)) &&& (7 : Int32)) (a1 >>> ((16 : Int32) &&& 31))).2.2, upd v_o (ix (0 : Int32)) (if (((s_X_move16 v_x v_M v_d v_a v_o v_lo v_hi v_ri ((a1 >>> ((5 : Int32) &&& 31)) &&& (7 : Int32)) ((a1 >>> ((8 : Int32) &&& 31)) &&& (7 : Int32)) (a1 >>> ((16 : Int32) &&& 31))).1) 19) = 0 then (if (((s_X_move16 v_x v_M v_d v_a v_o v_lo v_hi v_ri ((a1 >>> ((5 : Int32) &&& 31)) &&& (7 : Int32)) ((a1 >>> ((8 : Int32) &&& 31)) &&& (7 : Int32)) (a1 >>> ((16 : Int32) &&& 31))).1) 7) = 0 then (v_o (ix (0 : Int32))) else ((v_o (ix (0 : Int32))) + (1 : Int32))) else (v_o (ix (0 : Int32)))))
def s_X_instr17 (v_x : Nat → Int32) (v_M : Nat → Int32) (v_d : Nat → Int32) (v_a : Nat → Int32) (v_o : Nat → Int32) (v_lo : Nat → Int32) (v_hi : Nat → Int32) (v_ri : Nat → Int32) (a1 : Int32) : (Nat → Int32) × (Nat → Int32) × (Nat → Int32) × (Nat → Int32) :=
  ((s_X_move17 v_x v_M v_d v_a v_o v_lo v_hi v_ri ((a1 >>> ((5 : Int32) &&& 31)) &&& (7 : Int32)) ((a1 >>> ((8 : Int32) &&& 31)) &&& (7 : Int32)) (a1 >>> ((16 : Int32) &&& 31))).1, (s_X_move17 v_x v_M v_d v_a v_o v_lo v_hi v_ri ((a1 >>> ((5 : Int32) &&& 31)) &&& (7 : Int32)) ((a1 >>> ((8 : Int32) &&& 31)) &&& (7 : Int32)) (a1 >>> ((16 : Int32) &&& 31))).2.1, (s_X_move17 v_x v_M v_d v_a v_o v_lo v_hi v_ri ((a1 >>> ((5 : Int32) &&& 31)) &&& (7 : Int32)) ((a1 >>> ((8 : Int32) &&& 31)) &&& (7 : Int32)) (a1 >>> ((16 : Int32) &&& 31))).2.2, upd v_o (ix (0 : Int32)) (if (((s_X_move17 v_x v_M v_d v_a v_o v_lo v_hi v_ri ((a1 >>> ((5 : Int32) &&& 31)) &&& (7 : Int32)) ((a1 >>> ((8 : Int32) &&& 31)) &&& (7 : Int32)) (a1 >>> ((16 : Int32) &&& 31))).1) 19) = 0 then (if (((s_X_move17 v_x v_M v_d v_a v_o v_lo v_hi v_ri ((a1 >>> ((5 : Int32) &&& 31)) &&& (7 : Int32)) ((a1 >>> ((8 : Int32) &&& 31)) &&& (7 : Int32)) (a1 >>> ((16 : Int32) &&& 31))).1) 7) = 0 then (v_o (ix (0 : Int32))) else ((v_o (ix (0 : Int32))) + (1 : Int32))) else (v_o (ix (0 : Int32)))))
def s_X_instr18 (v_x : Nat → Int32) (v_M : Nat → Int32) (v_d : Nat → Int32) (v_a : Nat → Int32) (v_o : Nat → Int32) (v_lo : Nat → Int32) (v_hi : Nat → Int32) (v_ri : Nat → Int32) (a1 : Int32) : (Nat → Int32) :=
  (upd v_o (ix (0 : Int32)) (if (v_x 19) = 0 then (if (v_x 7) = 0 then (v_o (ix (0 : Int32))) else (s_X_jump18 (v_o (ix (0 : Int32))) (a1 >>> ((16 : Int32) &&& 31)) (v_d (ix ((a1 >>> ((5 : Int32) &&& 31)) &&& (7 : Int32)))) (v_d (ix ((a1 >>> ((8 : Int32) &&& 31)) &&& (7 : Int32)))))) else (v_o (ix (0 : Int32)))))
def s_X_instr19 (v_x : Nat → Int32) (v_M : Nat → Int32) (v_d : Nat → Int32) (v_a : Nat → Int32) (v_o : Nat → Int32) (v_lo : Nat → Int32) (v_hi : Nat → Int32) (v_ri : Nat → Int32) (a1 : Int32) : (Nat → Int32) :=
  (upd v_o (ix (0 : Int32)) (if (v_x 19) = 0 then (if (v_x 7) = 0 then (v_o (ix (0 : Int32))) else (s_X_jump19 (v_o (ix (0 : Int32))) (a1 >>> ((16 : Int32) &&& 31)) (v_d (ix ((a1 >>> ((5 : Int32) &&& 31)) &&& (7 : Int32)))) (v_d (ix ((a1 >>> ((8 : Int32) &&& 31)) &&& (7 : Int32)))))) else (v_o (ix (0 : Int32)))))
def s_X_instr20 (v_x : Nat → Int32) (v_M : Nat → Int32) (v_d : Nat → Int32) (v_a : Nat → Int32) (v_o : Nat → Int32) (v_lo : Nat → Int32) (v_hi : Nat → Int32) (v_ri : Nat → Int32) (a1 : Int32) : (Nat → Int32) :=
  (upd v_o (ix (0 : Int32)) (if (v_x 19) = 0 then (if (v_x 7) = 0 then (v_o (ix (0 : Int32))) else (s_X_jump20 (v_o (ix (0 : Int32))) (a1 >>> ((16 : Int32) &&& 31)) (v_d (ix ((a1 >>> ((5 : Int32) &&& 31)) &&& (7 : Int32)))) (v_d (ix ((a1 >>> ((8 : Int32) &&& 31)) &&& (7 : Int32)))))) else (v_o (ix (0 : Int32)))))
def s_X_instr21 (v_x : Nat → Int32) (v_M : Nat → Int32) (v_d : Nat → Int32) (v_a : Nat → Int32) (v_o : Nat → Int32) (v_lo : Nat → Int32) (v_hi : Nat → Int32) (v_ri : Nat → Int32) (a1 : Int32) : (Nat → Int32) × (Nat → Int32) × (Nat → Int32) × (Nat → Int32) :=
  ((s_X_context21 v_x v_M v_d v_a v_o v_lo v_hi v_ri (a1 >>> ((16 : Int32) &&& 31))).2.1, (s_X_context21 v_x v_M v_d v_a v_o v_lo v_hi v_ri (a1 >>> ((16 : Int32) &&& 31))).2.2.1, (s_X_context21 v_x v_M v_d v_a v_o v_lo v_hi v_ri (a1 >>> ((16 : Int32) &&& 31))).2.2.2.1, upd ((s_X_context21 v_x v_M v_d v_a v_o v_lo v_hi v_ri (a1 >>> ((16 : Int32) &&& 31))).2.2.2.2) (ix (0 : Int32)) (if (((s_X_context21 v_x v_M v_d v_a v_o v_lo v_hi v_ri (a1 >>> ((16 : Int32) &&& 31))).2.1) 19) = 0 then (if (((s_X_context21 v_x v_M v_d v_a v_o v_lo v_hi v_ri (a1 >>> ((16 : Int32) &&& 31))).2.1) 7) = 0 then (((s_X_context21 v_x v_M v_d v_a v_o v_lo v_hi v_ri (a1 >>> ((16 : Int32) &&& 31))).2.2.2.2) (ix (0 : Int32))) else (s_X_context21 v_x v_M v_d v_a v_o v_lo v_hi v_ri (a1 >>> ((16 : Int32) &&& 31))).1) else (((s_X_context21 v_x v_M v_d v_a v_o v_lo v_hi v_ri (a1 >>> ((16 : Int32) &&& 31))).2.2.2.2) (ix (0 : Int32)))))
def s_X_instr22 (v_x : Nat → Int32) (v_M : Nat → Int32) (v_d : Nat → Int32) (v_a : Nat → Int32) (v_o : Nat → Int32) (v_lo : Nat → Int32) (v_hi : Nat → Int32) (v_ri : Nat → Int32) (a1 : Int32) : (Nat → Int32) × (Nat → Int32) × (Nat → Int32) × (Nat → Int32) × (Nat → Int32) :=
  ((s_X_context22 v_x v_M v_d v_a v_o v_lo v_hi v_ri (a1 >>> ((16 : Int32) &&& 31))).2.1, (s_X_context22 v_x v_M v_d v_a v_o v_lo v_hi v_ri (a1 >>> ((16 : Int32) &&& 31))).2.2.1, (s_X_context22 v_x v_M v_d v_a v_o v_lo v_hi v_ri (a1 >>> ((16 : Int32) &&& 31))).2.2.2.1, (s_X_context22 v_x v_M v_d v_a v_o v_lo v_hi v_ri (a1 >>> ((16 : Int32) &&& 31))).2.2.2.2.1, upd ((s_X_context22 v_x v_M v_d v_a v_o v_lo v_hi v_ri (a1 >>> ((16 : Int32) &&& 31))).2.2.2.2.2) (ix (0 : Int32)) (if (((s_X_context22 v_x v_M v_d v_a v_o v_lo v_hi v_ri (a1 >>> ((16 : Int32) &&& 31))).2.1) 19) = 0 then (if (((s_X_context22 v_x v_M v_d v_a v_o v_lo v_hi v_ri (a1 >>> ((16 : Int32) &&& 31))).2.1) 7) = 0 then (((s_X_context22 v_x v_M v_d v_a v_o v_lo v_hi v_ri (a1 >>> ((16 : Int32) &&& 31))).2.2.2.2.2) (ix (0 : Int32))) else (s_X_context22 v_x v_M v_d v_a v_o v_lo v_hi v_ri (a1 >>> ((16 : Int32) &&& 31))).1) else (((s_X_context22 v_x v_M v_d v_a v_o v_lo v_hi v_ri (a1 >>> ((16 : Int32) &&& 31))).2.2.2.2.2) (ix (0 : Int32)))))
def s_X_instr23 (v_x : Nat → Int32) (v_M : Nat → Int32) (v_d : Nat → Int32) (v_a : Nat → Int32) (v_o : Nat → Int32) (v_lo : Nat → Int32) (v_hi : Nat → Int32) (v_ri : Nat → Int32) (a1 : Int32) : (Nat → Int32) × (Nat → Int32) × (Nat → Int32) :=
  ((s_X_context23 v_x v_M v_d v_a v_o v_lo v_hi v_ri (a1 >>> ((16 : Int32) &&& 31))).2.1, (s_X_context23 v_x v_M v_d v_a v_o v_lo v_hi v_ri (a1 >>> ((16 : Int32) &&& 31))).2.2.1, upd ((s_X_context23 v_x v_M v_d v_a v_o v_lo v_hi v_ri (a1 >>> ((16 : Int32) &&& 31))).2.2.2) (ix (0 : Int32)) (if (((s_X_context23 v_x v_M v_d v_a v_o v_lo v_hi v_ri (a1 >>> ((16 : Int32) &&& 31))).2.1) 19) = 0 then (if (((s_X_context23 v_x v_M v_d v_a v_o v_lo v_hi v_ri (a1 >>> ((16 : Int32) &&& 31))).2.1) 7) = 0 then (((s_X_context23 v_x v_M v_d v_a v_o v_lo v_hi v_ri (a1 >>> ((16 : Int32) &&& 31))).2.2.2) (ix (0 : Int32))) else (s_X_context23 v_x v_M v_d v_a v_o v_lo v_hi v_ri (a1 >>> ((16 : Int32) &&& 31))).1) else (((s_X_context23 v_x v_M v_d v_a v_o v_lo v_hi v_ri (a1 >>> ((16 : Int32) &&& 31))).2.2.2) (ix (0 : Int32)))))
def s_X_instr24 (v_x : Nat → Int32) (v_M : Nat → Int32) (v_d : Nat → Int32) (v_a : Nat → Int32) (v_o : Nat → Int32) (v_lo : Nat → Int32) (v_hi : Nat → Int32) (v_ri : Nat → Int32) (a1 : Int32) : (Nat → Int32) × (Nat → Int32) × (Nat → Int32) × (Nat → Int32) × (Nat → Int32) :=
  ((s_X_context24 v_x v_M v_d v_a v_o v_lo v_hi v_ri (a1 >>> ((16 : Int32) &&& 31))).2.1, (s_X_context24 v_x v_M v_d v_a v_o v_lo v_hi v_ri (a1 >>> ((16 : Int32) &&& 31))).2.2.1, (s_X_context24 v_x v_M v_d v_a v_o v_lo v_hi v_ri (a1 >>> ((16 : Int32) &&& 31))).2.2.2.1, (s_X_context24 v_x v_M v_d v_a v_o v_lo v_hi v_ri (a1 >>> ((16 : Int32) &&& 31))).2.2.2.2.1, upd ((s_X_context24 v_x v_M v_d v_a v_o v_lo v_hi v_ri (a1 >>> ((16 : Int32) &&& 31))).2.2.2.2.2) (ix (0 : Int32)) (if (((s_X_context24 v_x v_M v_d v_a v_o v_lo v_hi v_ri (a1 >>> ((16 : Int32) &&& 31))).2.1) 19) = 0 then (if (((s_X_context24 v_x v_M v_d v_a v_o v_lo v_hi v_ri (a1 >>> ((16 : Int32) &&& 31))).2.1) 7) = 0 then (((s_X_context24 v_x v_M v_d v_a v_o v_lo v_hi v_ri (a1 >>> ((16 : Int32) &&& 31))).2.2.2.2.2) (ix (0 : Int32))) else (s_X_context24 v_x v_M v_d v_a v_o v_lo v_hi v_ri (a1 >>> ((16 : Int32) &&& 31))).1) else (((s_X_context24 v_x v_M v_d v_a v_o v_lo v_hi v_ri (a1 >>> ((16 : Int32) &&& 31))).2.2.2.2.2) (ix (0 : Int32)))))
def s_X_instr25 (v_x : Nat → Int32) (v_M : Nat → Int32) (v_d : Nat → Int32) (v_a : Nat → Int32) (v_o : Nat → Int32) (v_lo : Nat → Int32) (v_hi : Nat → Int32) (v_ri : Nat → Int32) (a1 : Int32) : (Nat → Int32) × (Nat → Int32) × (Nat → Int32) :=
  if (v_x 1) = (2 : Int32) then ((s_X_context25 v_x v_M v_d v_a v_o v_lo v_hi v_ri (a1 >>> ((16 : Int32) &&& 31))).2.1, (s_X_context25 v_x v_M v_d v_a v_o v_lo v_hi v_ri (a1 >>> ((16 : Int32) &&& 31))).2.2.1, upd ((s_X_context25 v_x v_M v_d v_a v_o v_lo v_hi v_ri (a1 >>> ((16 : Int32) &&& 31))).2.2.2) (ix (0 : Int32)) (if (((s_X_context25 v_x v_M v_d v_a v_o v_lo v_hi v_ri (a1 >>> ((16 : Int32) &&& 31))).2.1) 19) = 0 then (if (((s_X_context25 v_x v_M v_d v_a v_o v_lo v_hi v_ri (a1 >>> ((16 : Int32) &&& 31))).2.1) 7) = 0 then (((s_X_context25 v_x v_M v_d v_a v_o v_lo v_hi v_ri (a1 >>> ((16 : Int32) &&& 31))).2.2.2) (ix (0 : Int32))) else (s_X_context25 v_x v_M v_d v_a v_o v_lo v_hi v_ri (a1 >>> ((16 : Int32) &&& 31))).1) else (((s_X_context25 v_x v_M v_d v_a v_o v_lo v_hi v_ri (a1 >>> ((16 : Int32) &&& 31))).2.2.2) (ix (0 : Int32))))) else (upd v_x 19 (257 : Int32), v_M, v_o)
def s_X_instr26 (v_x : Nat → Int32) (v_M : Nat → Int32) (v_d : Nat → Int32) (v_a : Nat → Int32) (v_o : Nat → Int32) (v_lo : Nat → Int32) (v_hi : Nat → Int32) (v_ri : Nat → Int32) (a1 : Int32) : (Nat → Int32) × (Nat → Int32) × (Nat → Int32) × (Nat → Int32) × (Nat → Int32) :=
  if (v_x 1) = (2 : Int32) then ((s_X_context26 v_x v_M v_d v_a v_o v_lo v_hi v_ri (a1 >>> ((16 : Int32) &&& 31))).2.1, (s_X_context26 v_x v_M v_d v_a v_o v_lo v_hi v_ri (a1 >>> ((16 : Int32) &&& 31))).2.2.1, (s_X_context26 v_x v_M v_d v_a v_o v_lo v_hi v_ri (a1 >>> ((16 : Int32) &&& 31))).2.2.2.1, (s_X_context26 v_x v_M v_d v_a v_o v_lo v_hi v_ri (a1 >>> ((16 : Int32) &&& 31))).2.2.2.2.1, upd ((s_X_context26 v_x v_M v_d v_a v_o v_lo v_hi v_ri (a1 >>> ((16 : Int32) &&& 31))).2.2.2.2.2) (ix (0 : Int32)) (if (((s_X_context26 v_x v_M v_d v_a v_o v_lo v_hi v_ri (a1 >>> ((16 : Int32) &&& 31))).2.1) 19) = 0 then (if (((s_X_context26 v_x v_M v_d v_a v_o v_lo v_hi v_ri (a1 >>> ((16 : Int32) &&& 31))).2.1) 7) = 0 then (((s_X_context26 v_x v_M v_d v_a v_o v_lo v_hi v_ri (a1 >>> ((16 : Int32) &&& 31))).2.2.2.2.2) (ix (0 : Int32))) else (s_X_context26 v_x v_M v_d v_a v_o v_lo v_hi v_ri (a1 >>> ((16 : Int32) &&& 31))).1) else (((s_X_context26 v_x v_M v_d v_a v_o v_lo v_hi v_ri (a1 >>> ((16 : Int32) &&& 31))).2.2.2.2.2) (ix (0 : Int32))))) else (upd v_x 19 (257 : Int32), v_M, v_d, v_a, v_o)
def s_X_instr27 (v_x : Nat → Int32) (v_M : Nat → Int32) (v_d : Nat → Int32) (v_a : Nat → Int32) (v_o : Nat → Int32) (v_lo : Nat → Int32) (v_hi : Nat → Int32) (v_ri : Nat → Int32) (a1 : Int32) : (Nat → Int32) × (Nat → Int32) :=
  ((s_X_system27 v_x v_M v_d v_a v_o v_lo v_hi v_ri (a1 >>> ((16 : Int32) &&& 31))), upd v_o (ix (0 : Int32)) (if ((s_X_system27 v_x v_M v_d v_a v_o v_lo v_hi v_ri (a1 >>> ((16 : Int32) &&& 31))) 19) = 0 then (if ((s_X_system27 v_x v_M v_d v_a v_o v_lo v_hi v_ri (a1 >>> ((16 : Int32) &&& 31))) 7) = 0 then (v_o (ix (0 : Int32))) else ((v_o (ix (0 : Int32))) + (1 : Int32))) else (v_o (ix (0 : Int32)))))
def s_X_instr28 (v_x : Nat → Int32) (v_M : Nat → Int32) (v_d : Nat → Int32) (v_a : Nat → Int32) (v_o : Nat → Int32) (v_lo : Nat → Int32) (v_hi : Nat → Int32) (v_ri : Nat → Int32) (a1 : Int32) : (Nat → Int32) × (Nat → Int32) :=
  if (v_x 1) = (2 : Int32) then ((s_X_system28 v_x v_M v_d v_a v_o v_lo v_hi v_ri (a1 >>> ((16 : Int32) &&& 31))), upd v_o (ix (0 : Int32)) (if ((s_X_system28 v_x v_M v_d v_a v_o v_lo v_hi v_ri (a1 >>> ((16 : Int32) &&& 31))) 19) = 0 then (if ((s_X_system28 v_x v_M v_d v_a v_o v_lo v_hi v_ri (a1 >>> ((16 : Int32) &&& 31))) 7) = 0 then (v_o (ix (0 : Int32))) else ((v_o (ix (0 : Int32))) + (1 : Int32))) else (v_o (ix (0 : Int32))))) else (upd v_x 19 (257 : Int32), v_o)
def s_X_instr29 (v_x : Nat → Int32) (v_M : Nat → Int32) (v_d : Nat → Int32) (v_a : Nat → Int32) (v_o : Nat → Int32) (v_lo : Nat → Int32) (v_hi : Nat → Int32) (v_ri : Nat → Int32) (a1 : Int32) : (Nat → Int32) × (Nat → Int32) :=
  if (v_x 1) = (2 : Int32) then ((s_X_system29 v_x v_M v_d v_a v_o v_lo v_hi v_ri (a1 >>> ((16 : Int32) &&& 31))), upd v_o (ix (0 : Int32)) (if ((s_X_system29 v_x v_M v_d v_a v_o v_lo v_hi v_ri (a1 >>> ((16 : Int32) &&& 31))) 19) = 0 then (if ((s_X_system29 v_x v_M v_d v_a v_o v_lo v_hi v_ri (a1 >>> ((16 : Int32) &&& 31))) 7) = 0 then (v_o (ix (0 : Int32))) else ((v_o (ix (0 : Int32))) + (1 : Int32))) else (v_o (ix (0 : Int32))))) else (upd v_x 19 (257 : Int32), v_o)
def s_X_instr30 (v_x : Nat → Int32) (v_M : Nat → Int32) (v_d : Nat → Int32) (v_a : Nat → Int32) (v_o : Nat → Int32) (v_lo : Nat → Int32) (v_hi : Nat → Int32) (v_ri : Nat → Int32) (a1 : Int32) : (Nat → Int32) × (Nat → Int32) :=
  if ((a1 >>> ((16 : Int32) &&& 31)) &&& (1 : Int32)) ≤ (v_x 1) then ((s_X_system30 v_x v_M v_d v_a v_o v_lo v_hi v_ri (a1 >>> ((16 : Int32) &&& 31))), upd v_o (ix (0 : Int32)) (if ((s_X_system30 v_x v_M v_d v_a v_o v_lo v_hi v_ri (a1 >>> ((16 : Int32) &&& 31))) 19) = 0 then (if ((s_X_system30 v_x v_M v_d v_a v_o v_lo v_hi v_ri (a1 >>> ((16 : Int32) &&& 31))) 7) = 0 then (v_o (ix (0 : Int32))) else ((v_o (ix (0 : Int32))) + (1 : Int32))) else (v_o (ix (0 : Int32))))) else (upd v_x 19 (257 : Int32), v_o)
def s_X_instr31 (v_x : Nat → Int32) (v_M : Nat → Int32) (v_d : Nat → Int32) (v_a : Nat → Int32) (v_o : Nat → Int32) (v_lo : Nat → Int32) (v_hi : Nat → Int32) (v_ri : Nat → Int32) (a1 : Int32) : (Nat → Int32) × (Nat → Int32) :=
  if (v_x 1) = (2 : Int32) then ((s_X_system31 v_x v_M v_d v_a v_o v_lo v_hi v_ri (a1 >>> ((16 : Int32) &&& 31))), upd v_o (ix (0 : Int32)) (if ((s_X_system31 v_x v_M v_d v_a v_o v_lo v_hi v_ri (a1 >>> ((16 : Int32) &&& 31))) 19) = 0 then (if ((s_X_system31 v_x v_M v_d v_a v_o v_lo v_hi v_ri (a1 >>> ((16 : Int32) &&& 31))) 7) = 0 then (v_o (ix (0 : Int32))) else ((v_o (ix (0 : Int32))) + (1 : Int32))) else (v_o (ix (0 : Int32))))) else (upd v_x 19 (257 : Int32), v_o)
def s_X_instr (v_x : Nat → Int32) (v_M : Nat → Int32) (v_d : Nat → Int32) (v_a : Nat → Int32) (v_o : Nat → Int32) (v_lo : Nat → Int32) (v_hi : Nat → Int32) (v_ri : Nat → Int32) (a1 : Int32) : (Nat → Int32) × (Nat → Int32) × (Nat → Int32) × (Nat → Int32) × (Nat → Int32) :=
  if (a1 &&& (31 : Int32)) = (0 : Int32) then ((s_X_instr0 v_x v_M v_d v_a v_o v_lo v_hi v_ri a1).1, v_M, v_d, v_a, (s_X_instr0 v_x v_M v_d v_a v_o v_lo v_hi v_ri a1).2) else
  if (a1 &&& (31 : Int32)) = (1 : Int32) then (v_x, v_M, (s_X_instr1 v_x v_M v_d v_a v_o v_lo v_hi v_ri a1).1, v_a, (s_X_instr1 v_x v_M v_d v_a v_o v_lo v_hi v_ri a1).2) else
  if (a1 &&& (31 : Int32)) = (2 : Int32) then (v_x, v_M, (s_X_instr2 v_x v_M v_d v_a v_o v_lo v_hi v_ri a1).1, v_a, (s_X_instr2 v_x v_M v_d v_a v_o v_lo v_hi v_ri a1).2) else
  if (a1 &&& (31 : Int32)) = (3 : Int32) then (v_x, v_M, (s_X_instr3 v_x v_M v_d v_a v_o v_lo v_hi v_ri a1).1, v_a, (s_X_instr3 v_x v_M v_d v_a v_o v_lo v_hi v_ri a1).2) else
  if (a1 &&& (31 : Int32)) = (4 : Int32) then (v_x, v_M, (s_X_instr4 v_x v_M v_d v_a v_o v_lo v_hi v_ri a1).1, v_a, (s_X_instr4 v_x v_M v_d v_a v_o v_lo v_hi v_ri a1).2) else
  if (a1 &&& (31 : Int32)) = (5 : Int32) then (v_x, v_M, (s_X_instr5 v_x v_M v_d v_a v_o v_lo v_hi v_ri a1).1, v_a, (s_X_instr5 v_x v_M v_d v_a v_o v_lo v_hi v_ri a1).2) else
  if (a1 &&& (31 : Int32)) = (6 : Int32) then (v_x, v_M, (s_X_instr6 v_x v_M v_d v_a v_o v_lo v_hi v_ri a1).1, v_a, (s_X_instr6 v_x v_M v_d v_a v_o v_lo v_hi v_ri a1).2) else
  if (a1 &&& (31 : Int32)) = (7 : Int32) then (v_x, v_M, (s_X_instr7 v_x v_M v_d v_a v_o v_lo v_hi v_ri a1).1, v_a, (s_X_instr7 v_x v_M v_d v_a v_o v_lo v_hi v_ri a1).2) else
  if (a1 &&& (31 : Int32)) = (8 : Int32) then (v_x, v_M, (s_X_instr8 v_x v_M v_d v_a v_o v_lo v_hi v_ri a1).1, v_a, (s_X_instr8 v_x v_M v_d v_a v_o v_lo v_hi v_ri a1).2) else
  if (a1 &&& (31 : Int32)) = (9 : Int32) then (v_x, v_M, v_d, (s_X_instr9 v_x v_M v_d v_a v_o v_lo v_hi v_ri a1).1, (s_X_instr9 v_x v_M v_d v_a v_o v_lo v_hi v_ri a1).2) else
  if (a1 &&& (31 : Int32)) = (10 : Int32) then (v_x, v_M, v_d, (s_X_instr10 v_x v_M v_d v_a v_o v_lo v_hi v_ri a1).1, (s_X_instr10 v_x v_M v_d v_a v_o v_lo v_hi v_ri a1).2) else
  if (a1 &&& (31 : Int32)) = (11 : Int32) then (v_x, v_M, v_d, (s_X_instr11 v_x v_M v_d v_a v_o v_lo v_hi v_ri a1).1, (s_X_instr11 v_x v_M v_d v_a v_o v_lo v_hi v_ri a1).2) else
  if (a1 &&& (31 : Int32)) = (12 : Int32) then (v_x, v_M, (s_X_instr12 v_x v_M v_d v_a v_o v_lo v_hi v_ri a1).1, v_a, (s_X_instr12 v_x v_M v_d v_a v_o v_lo v_hi v_ri a1).2) else
  if (a1 &&& (31 : Int32)) = (13 : Int32) then ((s_X_instr13 v_x v_M v_d v_a v_o v_lo v_hi v_ri a1).1, v_M, (s_X_instr13 v_x v_M v_d v_a v_o v_lo v_hi v_ri a1).2.1, v_a, (s_X_instr13 v_x v_M v_d v_a v_o v_lo v_hi v_ri a1).2.2) else
  if (a1 &&& (31 : Int32)) = (14 : Int32) then ((s_X_instr14 v_x v_M v_d v_a v_o v_lo v_hi v_ri a1).1, (s_X_instr14 v_x v_M v_d v_a v_o v_lo v_hi v_ri a1).2.1, v_d, v_a, (s_X_instr14 v_x v_M v_d v_a v_o v_lo v_hi v_ri a1).2.2) else
  if (a1 &&& (31 : Int32)) = (15 : Int32) then ((s_X_instr15 v_x v_M v_d v_a v_o v_lo v_hi v_ri a1).1, v_M, (s_X_instr15 v_x v_M v_d v_a v_o v_lo v_hi v_ri a1).2.1, (s_X_instr15 v_x v_M v_d v_a v_o v_lo v_hi v_ri a1).2.2.1, (s_X_instr15 v_x v_M v_d v_a v_o v_lo v_hi v_ri a1).2.2.2) else
  if (a1 &&& (31 : Int32)) = (16 : Int32) then ((s_X_instr16 v_x v_M v_d v_a v_o v_lo v_hi v_ri a1).1, (s_X_instr16 v_x v_M v_d v_a v_o v_lo v_hi v_ri a1).2.1, v_d, (s_X_instr16 v_x v_M v_d v_a v_o v_lo v_hi v_ri a1).2.2.1, (s_X_instr16 v_x v_M v_d v_a v_o v_lo v_hi v_ri a1).2.2.2) else
  if (a1 &&& (31 : Int32)) = (17 : Int32) then ((s_X_instr17 v_x v_M v_d v_a v_o v_lo v_hi v_ri a1).1, v_M, (s_X_instr17 v_x v_M v_d v_a v_o v_lo v_hi v_ri a1).2.1, (s_X_instr17 v_x v_M v_d v_a v_o v_lo v_hi v_ri a1).2.2.1, (s_X_instr17 v_x v_M v_d v_a v_o v_lo v_hi v_ri a1).2.2.2) else
  if (a1 &&& (31 : Int32)) = (18 : Int32) then (v_x, v_M, v_d, v_a, (s_X_instr18 v_x v_M v_d v_a v_o v_lo v_hi v_ri a1)) else
  if (a1 &&& (31 : Int32)) = (19 : Int32) then (v_x, v_M, v_d, v_a, (s_X_instr19 v_x v_M v_d v_a v_o v_lo v_hi v_ri a1)) else
  if (a1 &&& (31 : Int32)) = (20 : Int32) then (v_x, v_M, v_d, v_a, (s_X_instr20 v_x v_M v_d v_a v_o v_lo v_hi v_ri a1)) else
  if (a1 &&& (31 : Int32)) = (21 : Int32) then ((s_X_instr21 v_x v_M v_d v_a v_o v_lo v_hi v_ri a1).1, (s_X_instr21 v_x v_M v_d v_a v_o v_lo v_hi v_ri a1).2.1, v_d, (s_X_instr21 v_x v_M v_d v_a v_o v_lo v_hi v_ri a1).2.2.1, (s_X_instr21 v_x v_M v_d v_a v_o v_lo v_hi v_ri a1).2.2.2) else
  if (a1 &&& (31 : Int32)) = (22 : Int32) then ((s_X_instr22 v_x v_M v_d v_a v_o v_lo v_hi v_ri a1).1, (s_X_instr22 v_x v_M v_d v_a v_o v_lo v_hi v_ri a1).2.1, (s_X_instr22 v_x v_M v_d v_a v_o v_lo v_hi v_ri a1).2.2.1, (s_X_instr22 v_x v_M v_d v_a v_o v_lo v_hi v_ri a1).2.2.2.1, (s_X_instr22 v_x v_M v_d v_a v_o v_lo v_hi v_ri a1).2.2.2.2) else
  if (a1 &&& (31 : Int32)) = (23 : Int32) then ((s_X_instr23 v_x v_M v_d v_a v_o v_lo v_hi v_ri a1).1, (s_X_instr23 v_x v_M v_d v_a v_o v_lo v_hi v_ri a1).2.1, v_d, v_a, (s_X_instr23 v_x v_M v_d v_a v_o v_lo v_hi v_ri a1).2.2) else
  if (a1 &&& (31 : Int32)) = (24 : Int32) then ((s_X_instr24 v_x v_M v_d v_a v_o v_lo v_hi v_ri a1).1, (s_X_instr24 v_x v_M v_d v_a v_o v_lo v_hi v_ri a1).2.1, (s_X_instr24 v_x v_M v_d v_a v_o v_lo v_hi v_ri a1).2.2.1, (s_X_instr24 v_x v_M v_d v_a v_o v_lo v_hi v_ri a1).2.2.2.1, (s_X_instr24 v_x v_M v_d v_a v_o v_lo v_hi v_ri a1).2.2.2.2) else
  if (a1 &&& (31 : Int32)) = (25 : Int32) then ((s_X_instr25 v_x v_M v_d v_a v_o v_lo v_hi v_ri a1).1, (s_X_instr25 v_x v_M v_d v_a v_o v_lo v_hi v_ri a1).2.1, v_d, v_a, (s_X_instr25 v_x v_M v_d v_a v_o v_lo v_hi v_ri a1).2.2) else
  if (a1 &&& (31 : Int32)) = (26 : Int32) then ((s_X_instr26 v_x v_M v_d v_a v_o v_lo v_hi v_ri a1).1, (s_X_instr26 v_x v_M v_d v_a v_o v_lo v_hi v_ri a1).2.1, (s_X_instr26 v_x v_M v_d v_a v_o v_lo v_hi v_ri a1).2.2.1, (s_X_instr26 v_x v_M v_d v_a v_o v_lo v_hi v_ri a1).2.2.2.1, (s_X_instr26 v_x v_M v_d v_a v_o v_lo v_hi v_ri a1).2.2.2.2) else
  if (a1 &&& (31 : Int32)) = (27 : Int32) then ((s_X_instr27 v_x v_M v_d v_a v_o v_lo v_hi v_ri a1).1, v_M, v_d, v_a, (s_X_instr27 v_x v_M v_d v_a v_o v_lo v_hi v_ri a1).2) else
  if (a1 &&& (31 : Int32)) = (28 : Int32) then ((s_X_instr28 v_x v_M v_d v_a v_o v_lo v_hi v_ri a1).1, v_M, v_d, v_a, (s_X_instr28 v_x v_M v_d v_a v_o v_lo v_hi v_ri a1).2) else
  if (a1 &&& (31 : Int32)) = (29 : Int32) then ((s_X_instr29 v_x v_M v_d v_a v_o v_lo v_hi v_ri a1).1, v_M, v_d, v_a, (s_X_instr29 v_x v_M v_d v_a v_o v_lo v_hi v_ri a1).2) else
  if (a1 &&& (31 : Int32)) = (30 : Int32) then ((s_X_instr30 v_x v_M v_d v_a v_o v_lo v_hi v_ri a1).1, v_M, v_d, v_a, (s_X_instr30 v_x v_M v_d v_a v_o v_lo v_hi v_ri a1).2) else
  if (a1 &&& (31 : Int32)) = (31 : Int32) then ((s_X_instr31 v_x v_M v_d v_a v_o v_lo v_hi v_ri a1).1, v_M, v_d, v_a, (s_X_instr31 v_x v_M v_d v_a v_o v_lo v_hi v_ri a1).2) else
  (v_x, v_M, v_d, v_a, v_o)
def s_X_step_c270 (v_lo : Nat → Int32) (v_hi : Nat → Int32) (v_ri : Nat → Int32) (v_x' : Nat → Int32) (v_M' : Nat → Int32) (v_d' : Nat → Int32) (v_a' : Nat → Int32) (v_o' : Nat → Int32) : (Nat → Int32) × (Nat → Int32) × (Nat → Int32) × (Nat → Int32) × (Nat → Int32) :=
  if (v_x' 7) = 0 then (v_x', v_M', v_d', v_a', v_o') else (if (v_x' 17) = 0 then (v_x', v_M', v_d', v_a', v_o') else (if (v_x' 18) = 0 then ((s_X_take v_x' v_M' v_d' v_a' v_o' v_lo v_hi v_ri (3 : Int32) (1 : Int32)).1, (s_X_take v_x' v_M' v_d' v_a' v_o' v_lo v_hi v_ri (3 : Int32) (1 : Int32)).2.1, (s_X_take v_x' v_M' v_d' v_a' v_o' v_lo v_hi v_ri (3 : Int32) (1 : Int32)).2.2.1, (s_X_take v_x' v_M' v_d' v_a' v_o' v_lo v_hi v_ri (3 : Int32) (1 : Int32)).2.2.2.1, (s_X_take v_x' v_M' v_d' v_a' v_o' v_lo v_hi v_ri (3 : Int32) (1 : Int32)).2.2.2.2) else (v_x', v_M', v_d', v_a', v_o')))
def s_X_step_c94 (v_lo : Nat → Int32) (v_hi : Nat → Int32) (v_ri : Nat → Int32) (v_x' : Nat → Int32) (v_M' : Nat → Int32) (v_d' : Nat → Int32) (v_a' : Nat → Int32) (v_o' : Nat → Int32) (p_ : Int32) : (Nat → Int32) × (Nat → Int32) × (Nat → Int32) × (Nat → Int32) × (Nat → Int32) :=
  if (v_x' 5) = 0 then (if (v_o' (ix (0 : Int32))) < 0 then s_X_step_c270 v_lo v_hi v_ri ((s_X_take v_x' v_M' v_d' v_a' v_o' v_lo v_hi v_ri (4 : Int32) (1 : Int32)).1) ((s_X_take v_x' v_M' v_d' v_a' v_o' v_lo v_hi v_ri (4 : Int32) (1 : Int32)).2.1) ((s_X_take v_x' v_M' v_d' v_a' v_o' v_lo v_hi v_ri (4 : Int32) (1 : Int32)).2.2.1) ((s_X_take v_x' v_M' v_d' v_a' v_o' v_lo v_hi v_ri (4 : Int32) (1 : Int32)).2.2.2.1) ((s_X_take v_x' v_M' v_d' v_a' v_o' v_lo v_hi v_ri (4 : Int32) (1 : Int32)).2.2.2.2) else (if (v_o' (ix (0 : Int32))) < (512 : Int32) then (if (s_X_guarded v_x' v_M' v_d' v_a' v_o' v_lo v_hi v_ri) = 0 then (if (((s_X_instr v_x' v_M' v_d' v_a' v_o' v_lo v_hi v_ri (v_M' (ix (v_o' (ix (0 : Int32)))))).1) 19) ≤ 0 then s_X_step_c270 v_lo v_hi v_ri ((s_X_instr v_x' v_M' v_d' v_a' v_o' v_lo v_hi v_ri (v_M' (ix (v_o' (ix (0 : Int32)))))).1) ((s_X_instr v_x' v_M' v_d' v_a' v_o' v_lo v_hi v_ri (v_M' (ix (v_o' (ix (0 : Int32)))))).2.1) ((s_X_instr v_x' v_M' v_d' v_a' v_o' v_lo v_hi v_ri (v_M' (ix (v_o' (ix (0 : Int32)))))).2.2.1) ((s_X_instr v_x' v_M' v_d' v_a' v_o' v_lo v_hi v_ri (v_M' (ix (v_o' (ix (0 : Int32)))))).2.2.2.1) ((s_X_instr v_x' v_M' v_d' v_a' v_o' v_lo v_hi v_ri (v_M' (ix (v_o' (ix (0 : Int32)))))).2.2.2.2) else s_X_step_c270 v_lo v_hi v_ri ((s_X_take ((s_X_instr v_x' v_M' v_d' v_a' v_o' v_lo v_hi v_ri (v_M' (ix (v_o' (ix (0 : Int32)))))).1) ((s_X_instr v_x' v_M' v_d' v_a' v_o' v_lo v_hi v_ri (v_M' (ix (v_o' (ix (0 : Int32)))))).2.1) ((s_X_instr v_x' v_M' v_d' v_a' v_o' v_lo v_hi v_ri (v_M' (ix (v_o' (ix (0 : Int32)))))).2.2.1) ((s_X_instr v_x' v_M' v_d' v_a' v_o' v_lo v_hi v_ri (v_M' (ix (v_o' (ix (0 : Int32)))))).2.2.2.1) ((s_X_instr v_x' v_M' v_d' v_a' v_o' v_lo v_hi v_ri (v_M' (ix (v_o' (ix (0 : Int32)))))).2.2.2.2) v_lo v_hi v_ri ((((s_X_instr v_x' v_M' v_d' v_a' v_o' v_lo v_hi v_ri (v_M' (ix (v_o' (ix (0 : Int32)))))).1) 19) >>> ((8 : Int32) &&& 31)) ((((s_X_instr v_x' v_M' v_d' v_a' v_o' v_lo v_hi v_ri (v_M' (ix (v_o' (ix (0 : Int32)))))).1) 19) &&& (255 : Int32))).1) ((s_X_take ((s_X_instr v_x' v_M' v_d' v_a' v_o' v_lo v_hi v_ri (v_M' (ix (v_o' (ix (0 : Int32)))))).1) ((s_X_instr v_x' v_M' v_d' v_a' v_o' v_lo v_hi v_ri (v_M' (ix (v_o' (ix (0 : Int32)))))).2.1) ((s_X_instr v_x' v_M' v_d' v_a' v_o' v_lo v_hi v_ri (v_M' (ix (v_o' (ix (0 : Int32)))))).2.2.1) ((s_X_instr v_x' v_M' v_d' v_a' v_o' v_lo v_hi v_ri (v_M' (ix (v_o' (ix (0 : Int32)))))).2.2.2.1) ((s_X_instr v_x' v_M' v_d' v_a' v_o' v_lo v_hi v_ri (v_M' (ix (v_o' (ix (0 : Int32)))))).2.2.2.2) v_lo v_hi v_ri ((((s_X_instr v_x' v_M' v_d' v_a' v_o' v_lo v_hi v_ri (v_M' (ix (v_o' (ix (0 : Int32)))))).1) 19) >>> ((8 : Int32) &&& 31)) ((((s_X_instr v_x' v_M' v_d' v_a' v_o' v_lo v_hi v_ri (v_M' (ix (v_o' (ix (0 : Int32)))))).1) 19) &&& (255 : Int32))).2.1) ((s_X_take ((s_X_instr v_x' v_M' v_d' v_a' v_o' v_lo v_hi v_ri (v_M' (ix (v_o' (ix (0 : Int32)))))).1) ((s_X_instr v_x' v_M' v_d' v_a' v_o' v_lo v_hi v_ri (v_M' (ix (v_o' (ix (0 : Int32)))))).2.1) ((s_X_instr v_x' v_M' v_d' v_a' v_o' v_lo v_hi v_ri (v_M' (ix (v_o' (ix (0 : Int32)))))).2.2.1) ((s_X_instr v_x' v_M' v_d' v_a' v_o' v_lo v_hi v_ri (v_M' (ix (v_o' (ix (0 : Int32)))))).2.2.2.1) ((s_X_instr v_x' v_M' v_d' v_a' v_o' v_lo v_hi v_ri (v_M' (ix (v_o' (ix (0 : Int32)))))).2.2.2.2) v_lo v_hi v_ri ((((s_X_instr v_x' v_M' v_d' v_a' v_o' v_lo v_hi v_ri (v_M' (ix (v_o' (ix (0 : Int32)))))).1) 19) >>> ((8 : Int32) &&& 31)) ((((s_X_instr v_x' v_M' v_d' v_a' v_o' v_lo v_hi v_ri (v_M' (ix (v_o' (ix (0 : Int32)))))).1) 19) &&& (255 : Int32))).2.2.1) ((s_X_take ((s_X_instr v_x' v_M' v_d' v_a' v_o' v_lo v_hi v_ri (v_M' (ix (v_o' (ix (0 : Int32)))))).1) ((s_X_instr v_x' v_M' v_d' v_a' v_o' v_lo v_hi v_ri (v_M' (ix (v_o' (ix (0 : Int32)))))).2.1) ((s_X_instr v_x' v_M' v_d' v_a' v_o' v_lo v_hi v_ri (v_M' (ix (v_o' (ix (0 : Int32)))))).2.2.1) ((s_X_instr v_x' v_M' v_d' v_a' v_o' v_lo v_hi v_ri (v_M' (ix (v_o' (ix (0 : Int32)))))).2.2.2.1) ((s_X_instr v_x' v_M' v_d' v_a' v_o' v_lo v_hi v_ri (v_M' (ix (v_o' (ix (0 : Int32)))))).2.2.2.2) v_lo v_hi v_ri ((((s_X_instr v_x' v_M' v_d' v_a' v_o' v_lo v_hi v_ri (v_M' (ix (v_o' (ix (0 : Int32)))))).1) 19) >>> ((8 : Int32) &&& 31)) ((((s_X_instr v_x' v_M' v_d' v_a' v_o' v_lo v_hi v_ri (v_M' (ix (v_o' (ix (0 : Int32)))))).1) 19) &&& (255 : Int32))).2.2.2.1) ((s_X_take ((s_X_instr v_x' v_M' v_d' v_a' v_o' v_lo v_hi v_ri (v_M' (ix (v_o' (ix (0 : Int32)))))).1) ((s_X_instr v_x' v_M' v_d' v_a' v_o' v_lo v_hi v_ri (v_M' (ix (v_o' (ix (0 : Int32)))))).2.1) ((s_X_instr v_x' v_M' v_d' v_a' v_o' v_lo v_hi v_ri (v_M' (ix (v_o' (ix (0 : Int32)))))).2.2.1) ((s_X_instr v_x' v_M' v_d' v_a' v_o' v_lo v_hi v_ri (v_M' (ix (v_o' (ix (0 : Int32)))))).2.2.2.1) ((s_X_instr v_x' v_M' v_d' v_a' v_o' v_lo v_hi v_ri (v_M' (ix (v_o' (ix (0 : Int32)))))).2.2.2.2) v_lo v_hi v_ri ((((s_X_instr v_x' v_M' v_d' v_a' v_o' v_lo v_hi v_ri (v_M' (ix (v_o' (ix (0 : Int32)))))).1) 19) >>> ((8 : Int32) &&& 31)) ((((s_X_instr v_x' v_M' v_d' v_a' v_o' v_lo v_hi v_ri (v_M' (ix (v_o' (ix (0 : Int32)))))).1) 19) &&& (255 : Int32))).2.2.2.2)) else (if (v_o' (ix (0 : Int32))) < (v_lo (ix (((3 : Int32) * (v_x' 2)) + (2 : Int32)))) then s_X_step_c270 v_lo v_hi v_ri ((s_X_take v_x' v_M' v_d' v_a' v_o' v_lo v_hi v_ri (1 : Int32) (4 : Int32)).1) ((s_X_take v_x' v_M' v_d' v_a' v_o' v_lo v_hi v_ri (1 : Int32) (4 : Int32)).2.1) ((s_X_take v_x' v_M' v_d' v_a' v_o' v_lo v_hi v_ri (1 : Int32) (4 : Int32)).2.2.1) ((s_X_take v_x' v_M' v_d' v_a' v_o' v_lo v_hi v_ri (1 : Int32) (4 : Int32)).2.2.2.1) ((s_X_take v_x' v_M' v_d' v_a' v_o' v_lo v_hi v_ri (1 : Int32) (4 : Int32)).2.2.2.2) else (if (v_o' (ix (0 : Int32))) < (v_hi (ix (((3 : Int32) * (v_x' 2)) + (2 : Int32)))) then (if (((s_X_instr v_x' v_M' v_d' v_a' v_o' v_lo v_hi v_ri (v_M' (ix (v_o' (ix (0 : Int32)))))).1) 19) ≤ 0 then s_X_step_c270 v_lo v_hi v_ri ((s_X_instr v_x' v_M' v_d' v_a' v_o' v_lo v_hi v_ri (v_M' (ix (v_o' (ix (0 : Int32)))))).1) ((s_X_instr v_x' v_M' v_d' v_a' v_o' v_lo v_hi v_ri (v_M' (ix (v_o' (ix (0 : Int32)))))).2.1) ((s_X_instr v_x' v_M' v_d' v_a' v_o' v_lo v_hi v_ri (v_M' (ix (v_o' (ix (0 : Int32)))))).2.2.1) ((s_X_instr v_x' v_M' v_d' v_a' v_o' v_lo v_hi v_ri (v_M' (ix (v_o' (ix (0 : Int32)))))).2.2.2.1) ((s_X_instr v_x' v_M' v_d' v_a' v_o' v_lo v_hi v_ri (v_M' (ix (v_o' (ix (0 : Int32)))))).2.2.2.2) else s_X_step_c270 v_lo v_hi v_ri ((s_X_take ((s_X_instr v_x' v_M' v_d' v_a' v_o' v_lo v_hi v_ri (v_M' (ix (v_o' (ix (0 : Int32)))))).1) ((s_X_instr v_x' v_M' v_d' v_a' v_o' v_lo v_hi v_ri (v_M' (ix (v_o' (ix (0 : Int32)))))).2.1) ((s_X_instr v_x' v_M' v_d' v_a' v_o' v_lo v_hi v_ri (v_M' (ix (v_o' (ix (0 : Int32)))))).2.2.1) ((s_X_instr v_x' v_M' v_d' v_a' v_o' v_lo v_hi v_ri (v_M' (ix (v_o' (ix (0 : Int32)))))).2.2.2.1) ((s_X_instr v_x' v_M' v_d' v_a' v_o' v_lo v_hi v_ri (v_M' (ix (v_o' (ix (0 : Int32)))))).2.2.2.2) v_lo v_hi v_ri ((((s_X_instr v_x' v_M' v_d' v_a' v_o' v_lo v_hi v_ri (v_M' (ix (v_o' (ix (0 : Int32)))))).1) 19) >>> ((8 : Int32) &&& 31)) ((((s_X_instr v_x' v_M' v_d' v_a' v_o' v_lo v_hi v_ri (v_M' (ix (v_o' (ix (0 : Int32)))))).1) 19) &&& (255 : Int32))).1) ((s_X_take ((s_X_instr v_x' v_M' v_d' v_a' v_o' v_lo v_hi v_ri (v_M' (ix (v_o' (ix (0 : Int32)))))).1) ((s_X_instr v_x' v_M' v_d' v_a' v_o' v_lo v_hi v_ri (v_M' (ix (v_o' (ix (0 : Int32)))))).2.1) ((s_X_instr v_x' v_M' v_d' v_a' v_o' v_lo v_hi v_ri (v_M' (ix (v_o' (ix (0 : Int32)))))).2.2.1) ((s_X_instr v_x' v_M' v_d' v_a' v_o' v_lo v_hi v_ri (v_M' (ix (v_o' (ix (0 : Int32)))))).2.2.2.1) ((s_X_instr v_x' v_M' v_d' v_a' v_o' v_lo v_hi v_ri (v_M' (ix (v_o' (ix (0 : Int32)))))).2.2.2.2) v_lo v_hi v_ri ((((s_X_instr v_x' v_M' v_d' v_a' v_o' v_lo v_hi v_ri (v_M' (ix (v_o' (ix (0 : Int32)))))).1) 19) >>> ((8 : Int32) &&& 31)) ((((s_X_instr v_x' v_M' v_d' v_a' v_o' v_lo v_hi v_ri (v_M' (ix (v_o' (ix (0 : Int32)))))).1) 19) &&& (255 : Int32))).2.1) ((s_X_take ((s_X_instr v_x' v_M' v_d' v_a' v_o' v_lo v_hi v_ri (v_M' (ix (v_o' (ix (0 : Int32)))))).1) ((s_X_instr v_x' v_M' v_d' v_a' v_o' v_lo v_hi v_ri (v_M' (ix (v_o' (ix (0 : Int32)))))).2.1) ((s_X_instr v_x' v_M' v_d' v_a' v_o' v_lo v_hi v_ri (v_M' (ix (v_o' (ix (0 : Int32)))))).2.2.1) ((s_X_instr v_x' v_M' v_d' v_a' v_o' v_lo v_hi v_ri (v_M' (ix (v_o' (ix (0 : Int32)))))).2.2.2.1) ((s_X_instr v_x' v_M' v_d' v_a' v_o' v_lo v_hi v_ri (v_M' (ix (v_o' (ix (0 : Int32)))))).2.2.2.2) v_lo v_hi v_ri ((((s_X_instr v_x' v_M' v_d' v_a' v_o' v_lo v_hi v_ri (v_M' (ix (v_o' (ix (0 : Int32)))))).1) 19) >>> ((8 : Int32) &&& 31)) ((((s_X_instr v_x' v_M' v_d' v_a' v_o' v_lo v_hi v_ri (v_M' (ix (v_o' (ix (0 : Int32)))))).1) 19) &&& (255 : Int32))).2.2.1) ((s_X_take ((s_X_instr v_x' v_M' v_d' v_a' v_o' v_lo v_hi v_ri (v_M' (ix (v_o' (ix (0 : Int32)))))).1) ((s_X_instr v_x' v_M' v_d' v_a' v_o' v_lo v_hi v_ri (v_M' (ix (v_o' (ix (0 : Int32)))))).2.1) ((s_X_instr v_x' v_M' v_d' v_a' v_o' v_lo v_hi v_ri (v_M' (ix (v_o' (ix (0 : Int32)))))).2.2.1) ((s_X_instr v_x' v_M' v_d' v_a' v_o' v_lo v_hi v_ri (v_M' (ix (v_o' (ix (0 : Int32)))))).2.2.2.1) ((s_X_instr v_x' v_M' v_d' v_a' v_o' v_lo v_hi v_ri (v_M' (ix (v_o' (ix (0 : Int32)))))).2.2.2.2) v_lo v_hi v_ri ((((s_X_instr v_x' v_M' v_d' v_a' v_o' v_lo v_hi v_ri (v_M' (ix (v_o' (ix (0 : Int32)))))).1) 19) >>> ((8 : Int32) &&& 31)) ((((s_X_instr v_x' v_M' v_d' v_a' v_o' v_lo v_hi v_ri (v_M' (ix (v_o' (ix (0 : Int32)))))).1) 19) &&& (255 : Int32))).2.2.2.1) ((s_X_take ((s_X_instr v_x' v_M' v_d' v_a' v_o' v_lo v_hi v_ri (v_M' (ix (v_o' (ix (0 : Int32)))))).1) ((s_X_instr v_x' v_M' v_d' v_a' v_o' v_lo v_hi v_ri (v_M' (ix (v_o' (ix (0 : Int32)))))).2.1) ((s_X_instr v_x' v_M' v_d' v_a' v_o' v_lo v_hi v_ri (v_M' (ix (v_o' (ix (0 : Int32)))))).2.2.1) ((s_X_instr v_x' v_M' v_d' v_a' v_o' v_lo v_hi v_ri (v_M' (ix (v_o' (ix (0 : Int32)))))).2.2.2.1) ((s_X_instr v_x' v_M' v_d' v_a' v_o' v_lo v_hi v_ri (v_M' (ix (v_o' (ix (0 : Int32)))))).2.2.2.2) v_lo v_hi v_ri ((((s_X_instr v_x' v_M' v_d' v_a' v_o' v_lo v_hi v_ri (v_M' (ix (v_o' (ix (0 : Int32)))))).1) 19) >>> ((8 : Int32) &&& 31)) ((((s_X_instr v_x' v_M' v_d' v_a' v_o' v_lo v_hi v_ri (v_M' (ix (v_o' (ix (0 : Int32)))))).1) 19) &&& (255 : Int32))).2.2.2.2)) else s_X_step_c270 v_lo v_hi v_ri ((s_X_take v_x' v_M' v_d' v_a' v_o' v_lo v_hi v_ri (1 : Int32) (4 : Int32)).1) ((s_X_take v_x' v_M' v_d' v_a' v_o' v_lo v_hi v_ri (1 : Int32) (4 : Int32)).2.1) ((s_X_take v_x' v_M' v_d' v_a' v_o' v_lo v_hi v_ri (1 : Int32) (4 : Int32)).2.2.1) ((s_X_take v_x' v_M' v_d' v_a' v_o' v_lo v_hi v_ri (1 : Int32) (4 : Int32)).2.2.2.1) ((s_X_take v_x' v_M' v_d' v_a' v_o' v_lo v_hi v_ri (1 : Int32) (4 : Int32)).2.2.2.2)))) else s_X_step_c270 v_lo v_hi v_ri ((s_X_take v_x' v_M' v_d' v_a' v_o' v_lo v_hi v_ri (4 : Int32) (1 : Int32)).1) ((s_X_take v_x' v_M' v_d' v_a' v_o' v_lo v_hi v_ri (4 : Int32) (1 : Int32)).2.1) ((s_X_take v_x' v_M' v_d' v_a' v_o' v_lo v_hi v_ri (4 : Int32) (1 : Int32)).2.2.1) ((s_X_take v_x' v_M' v_d' v_a' v_o' v_lo v_hi v_ri (4 : Int32) (1 : Int32)).2.2.2.1) ((s_X_take v_x' v_M' v_d' v_a' v_o' v_lo v_hi v_ri (4 : Int32) (1 : Int32)).2.2.2.2))) else (if p_ ≤ (v_x' 4) then (if (v_o' (ix (0 : Int32))) < 0 then s_X_step_c270 v_lo v_hi v_ri ((s_X_take v_x' v_M' v_d' v_a' v_o' v_lo v_hi v_ri (4 : Int32) (1 : Int32)).1) ((s_X_take v_x' v_M' v_d' v_a' v_o' v_lo v_hi v_ri (4 : Int32) (1 : Int32)).2.1) ((s_X_take v_x' v_M' v_d' v_a' v_o' v_lo v_hi v_ri (4 : Int32) (1 : Int32)).2.2.1) ((s_X_take v_x' v_M' v_d' v_a' v_o' v_lo v_hi v_ri (4 : Int32) (1 : Int32)).2.2.2.1) ((s_X_take v_x' v_M' v_d' v_a' v_o' v_lo v_hi v_ri (4 : Int32) (1 : Int32)).2.2.2.2) else (if (v_o' (ix (0 : Int32))) < (512 : Int32) then (if (s_X_guarded v_x' v_M' v_d' v_a' v_o' v_lo v_hi v_ri) = 0 then (if (((s_X_instr v_x' v_M' v_d' v_a' v_o' v_lo v_hi v_ri (v_M' (ix (v_o' (ix (0 : Int32)))))).1) 19) ≤ 0 then s_X_step_c270 v_lo v_hi v_ri ((s_X_instr v_x' v_M' v_d' v_a' v_o' v_lo v_hi v_ri (v_M' (ix (v_o' (ix (0 : Int32)))))).1) ((s_X_instr v_x' v_M' v_d' v_a' v_o' v_lo v_hi v_ri (v_M' (ix (v_o' (ix (0 : Int32)))))).2.1) ((s_X_instr v_x' v_M' v_d' v_a' v_o' v_lo v_hi v_ri (v_M' (ix (v_o' (ix (0 : Int32)))))).2.2.1) ((s_X_instr v_x' v_M' v_d' v_a' v_o' v_lo v_hi v_ri (v_M' (ix (v_o' (ix (0 : Int32)))))).2.2.2.1) ((s_X_instr v_x' v_M' v_d' v_a' v_o' v_lo v_hi v_ri (v_M' (ix (v_o' (ix (0 : Int32)))))).2.2.2.2) else s_X_step_c270 v_lo v_hi v_ri ((s_X_take ((s_X_instr v_x' v_M' v_d' v_a' v_o' v_lo v_hi v_ri (v_M' (ix (v_o' (ix (0 : Int32)))))).1) ((s_X_instr v_x' v_M' v_d' v_a' v_o' v_lo v_hi v_ri (v_M' (ix (v_o' (ix (0 : Int32)))))).2.1) ((s_X_instr v_x' v_M' v_d' v_a' v_o' v_lo v_hi v_ri (v_M' (ix (v_o' (ix (0 : Int32)))))).2.2.1) ((s_X_instr v_x' v_M' v_d' v_a' v_o' v_lo v_hi v_ri (v_M' (ix (v_o' (ix (0 : Int32)))))).2.2.2.1) ((s_X_instr v_x' v_M' v_d' v_a' v_o' v_lo v_hi v_ri (v_M' (ix (v_o' (ix (0 : Int32)))))).2.2.2.2) v_lo v_hi v_ri ((((s_X_instr v_x' v_M' v_d' v_a' v_o' v_lo v_hi v_ri (v_M' (ix (v_o' (ix (0 : Int32)))))).1) 19) >>> ((8 : Int32) &&& 31)) ((((s_X_instr v_x' v_M' v_d' v_a' v_o' v_lo v_hi v_ri (v_M' (ix (v_o' (ix (0 : Int32)))))).1) 19) &&& (255 : Int32))).1) ((s_X_take ((s_X_instr v_x' v_M' v_d' v_a' v_o' v_lo v_hi v_ri (v_M' (ix (v_o' (ix (0 : Int32)))))).1) ((s_X_instr v_x' v_M' v_d' v_a' v_o' v_lo v_hi v_ri (v_M' (ix (v_o' (ix (0 : Int32)))))).2.1) ((s_X_instr v_x' v_M' v_d' v_a' v_o' v_lo v_hi v_ri (v_M' (ix (v_o' (ix (0 : Int32)))))).2.2.1) ((s_X_instr v_x' v_M' v_d' v_a' v_o' v_lo v_hi v_ri (v_M' (ix (v_o' (ix (0 : Int32)))))).2.2.2.1) ((s_X_instr v_x' v_M' v_d' v_a' v_o' v_lo v_hi v_ri (v_M' (ix (v_o' (ix (0 : Int32)))))).2.2.2.2) v_lo v_hi v_ri ((((s_X_instr v_x' v_M' v_d' v_a' v_o' v_lo v_hi v_ri (v_M' (ix (v_o' (ix (0 : Int32)))))).1) 19) >>> ((8 : Int32) &&& 31)) ((((s_X_instr v_x' v_M' v_d' v_a' v_o' v_lo v_hi v_ri (v_M' (ix (v_o' (ix (0 : Int32)))))).1) 19) &&& (255 : Int32))).2.1) ((s_X_take ((s_X_instr v_x' v_M' v_d' v_a' v_o' v_lo v_hi v_ri (v_M' (ix (v_o' (ix (0 : Int32)))))).1) ((s_X_instr v_x' v_M' v_d' v_a' v_o' v_lo v_hi v_ri (v_M' (ix (v_o' (ix (0 : Int32)))))).2.1) ((s_X_instr v_x' v_M' v_d' v_a' v_o' v_lo v_hi v_ri (v_M' (ix (v_o' (ix (0 : Int32)))))).2.2.1) ((s_X_instr v_x' v_M' v_d' v_a' v_o' v_lo v_hi v_ri (v_M' (ix (v_o' (ix (0 : Int32)))))).2.2.2.1) ((s_X_instr v_x' v_M' v_d' v_a' v_o' v_lo v_hi v_ri (v_M' (ix (v_o' (ix (0 : Int32)))))).2.2.2.2) v_lo v_hi v_ri ((((s_X_instr v_x' v_M' v_d' v_a' v_o' v_lo v_hi v_ri (v_M' (ix (v_o' (ix (0 : Int32)))))).1) 19) >>> ((8 : Int32) &&& 31)) ((((s_X_instr v_x' v_M' v_d' v_a' v_o' v_lo v_hi v_ri (v_M' (ix (v_o' (ix (0 : Int32)))))).1) 19) &&& (255 : Int32))).2.2.1) ((s_X_take ((s_X_instr v_x' v_M' v_d' v_a' v_o' v_lo v_hi v_ri (v_M' (ix (v_o' (ix (0 : Int32)))))).1) ((s_X_instr v_x' v_M' v_d' v_a' v_o' v_lo v_hi v_ri (v_M' (ix (v_o' (ix (0 : Int32)))))).2.1) ((s_X_instr v_x' v_M' v_d' v_a' v_o' v_lo v_hi v_ri (v_M' (ix (v_o' (ix (0 : Int32)))))).2.2.1) ((s_X_instr v_x' v_M' v_d' v_a' v_o' v_lo v_hi v_ri (v_M' (ix (v_o' (ix (0 : Int32)))))).2.2.2.1) ((s_X_instr v_x' v_M' v_d' v_a' v_o' v_lo v_hi v_ri (v_M' (ix (v_o' (ix (0 : Int32)))))).2.2.2.2) v_lo v_hi v_ri ((((s_X_instr v_x' v_M' v_d' v_a' v_o' v_lo v_hi v_ri (v_M' (ix (v_o' (ix (0 : Int32)))))).1) 19) >>> ((8 : Int32) &&& 31)) ((((s_X_instr v_x' v_M' v_d' v_a' v_o' v_lo v_hi v_ri (v_M' (ix (v_o' (ix (0 : Int32)))))).1) 19) &&& (255 : Int32))).2.2.2.1) ((s_X_take ((s_X_instr v_x' v_M' v_d' v_a' v_o' v_lo v_hi v_ri (v_M' (ix (v_o' (ix (0 : Int32)))))).1) ((s_X_instr v_x' v_M' v_d' v_a' v_o' v_lo v_hi v_ri (v_M' (ix (v_o' (ix (0 : Int32)))))).2.1) ((s_X_instr v_x' v_M' v_d' v_a' v_o' v_lo v_hi v_ri (v_M' (ix (v_o' (ix (0 : Int32)))))).2.2.1) ((s_X_instr v_x' v_M' v_d' v_a' v_o' v_lo v_hi v_ri (v_M' (ix (v_o' (ix (0 : Int32)))))).2.2.2.1) ((s_X_instr v_x' v_M' v_d' v_a' v_o' v_lo v_hi v_ri (v_M' (ix (v_o' (ix (0 : Int32)))))).2.2.2.2) v_lo v_hi v_ri ((((s_X_instr v_x' v_M' v_d' v_a' v_o' v_lo v_hi v_ri (v_M' (ix (v_o' (ix (0 : Int32)))))).1) 19) >>> ((8 : Int32) &&& 31)) ((((s_X_instr v_x' v_M' v_d' v_a' v_o' v_lo v_hi v_ri (v_M' (ix (v_o' (ix (0 : Int32)))))).1) 19) &&& (255 : Int32))).2.2.2.2)) else (if (v_o' (ix (0 : Int32))) < (v_lo (ix (((3 : Int32) * (v_x' 2)) + (2 : Int32)))) then s_X_step_c270 v_lo v_hi v_ri ((s_X_take v_x' v_M' v_d' v_a' v_o' v_lo v_hi v_ri (1 : Int32) (4 : Int32)).1) ((s_X_take v_x' v_M' v_d' v_a' v_o' v_lo v_hi v_ri (1 : Int32) (4 : Int32)).2.1) ((s_X_take v_x' v_M' v_d' v_a' v_o' v_lo v_hi v_ri (1 : Int32) (4 : Int32)).2.2.1) ((s_X_take v_x' v_M' v_d' v_a' v_o' v_lo v_hi v_ri (1 : Int32) (4 : Int32)).2.2.2.1) ((s_X_take v_x' v_M' v_d' v_a' v_o' v_lo v_hi v_ri (1 : Int32) (4 : Int32)).2.2.2.2) else (if (v_o' (ix (0 : Int32))) < (v_hi (ix (((3 : Int32) * (v_x' 2)) + (2 : Int32)))) then (if (((s_X_instr v_x' v_M' v_d' v_a' v_o' v_lo v_hi v_ri (v_M' (ix (v_o' (ix (0 : Int32)))))).1) 19) ≤ 0 then s_X_step_c270 v_lo v_hi v_ri ((s_X_instr v_x' v_M' v_d' v_a' v_o' v_lo v_hi v_ri (v_M' (ix (v_o' (ix (0 : Int32)))))).1) ((s_X_instr v_x' v_M' v_d' v_a' v_o' v_lo v_hi v_ri (v_M' (ix (v_o' (ix (0 : Int32)))))).2.1) ((s_X_instr v_x' v_M' v_d' v_a' v_o' v_lo v_hi v_ri (v_M' (ix (v_o' (ix (0 : Int32)))))).2.2.1) ((s_X_instr v_x' v_M' v_d' v_a' v_o' v_lo v_hi v_ri (v_M' (ix (v_o' (ix (0 : Int32)))))).2.2.2.1) ((s_X_instr v_x' v_M' v_d' v_a' v_o' v_lo v_hi v_ri (v_M' (ix (v_o' (ix (0 : Int32)))))).2.2.2.2) else s_X_step_c270 v_lo v_hi v_ri ((s_X_take ((s_X_instr v_x' v_M' v_d' v_a' v_o' v_lo v_hi v_ri (v_M' (ix (v_o' (ix (0 : Int32)))))).1) ((s_X_instr v_x' v_M' v_d' v_a' v_o' v_lo v_hi v_ri (v_M' (ix (v_o' (ix (0 : Int32)))))).2.1) ((s_X_instr v_x' v_M' v_d' v_a' v_o' v_lo v_hi v_ri (v_M' (ix (v_o' (ix (0 : Int32)))))).2.2.1) ((s_X_instr v_x' v_M' v_d' v_a' v_o' v_lo v_hi v_ri (v_M' (ix (v_o' (ix (0 : Int32)))))).2.2.2.1) ((s_X_instr v_x' v_M' v_d' v_a' v_o' v_lo v_hi v_ri (v_M' (ix (v_o' (ix (0 : Int32)))))).2.2.2.2) v_lo v_hi v_ri ((((s_X_instr v_x' v_M' v_d' v_a' v_o' v_lo v_hi v_ri (v_M' (ix (v_o' (ix (0 : Int32)))))).1) 19) >>> ((8 : Int32) &&& 31)) ((((s_X_instr v_x' v_M' v_d' v_a' v_o' v_lo v_hi v_ri (v_M' (ix (v_o' (ix (0 : Int32)))))).1) 19) &&& (255 : Int32))).1) ((s_X_take ((s_X_instr v_x' v_M' v_d' v_a' v_o' v_lo v_hi v_ri (v_M' (ix (v_o' (ix (0 : Int32)))))).1) ((s_X_instr v_x' v_M' v_d' v_a' v_o' v_lo v_hi v_ri (v_M' (ix (v_o' (ix (0 : Int32)))))).2.1) ((s_X_instr v_x' v_M' v_d' v_a' v_o' v_lo v_hi v_ri (v_M' (ix (v_o' (ix (0 : Int32)))))).2.2.1) ((s_X_instr v_x' v_M' v_d' v_a' v_o' v_lo v_hi v_ri (v_M' (ix (v_o' (ix (0 : Int32)))))).2.2.2.1) ((s_X_instr v_x' v_M' v_d' v_a' v_o' v_lo v_hi v_ri (v_M' (ix (v_o' (ix (0 : Int32)))))).2.2.2.2) v_lo v_hi v_ri ((((s_X_instr v_x' v_M' v_d' v_a' v_o' v_lo v_hi v_ri (v_M' (ix (v_o' (ix (0 : Int32)))))).1) 19) >>> ((8 : Int32) &&& 31)) ((((s_X_instr v_x' v_M' v_d' v_a' v_o' v_lo v_hi v_ri (v_M' (ix (v_o' (ix (0 : Int32)))))).1) 19) &&& (255 : Int32))).2.1) ((s_X_take ((s_X_instr v_x' v_M' v_d' v_a' v_o' v_lo v_hi v_ri (v_M' (ix (v_o' (ix (0 : Int32)))))).1) ((s_X_instr v_x' v_M' v_d' v_a' v_o' v_lo v_hi v_ri (v_M' (ix (v_o' (ix (0 : Int32)))))).2.1) ((s_X_instr v_x' v_M' v_d' v_a' v_o' v_lo v_hi v_ri (v_M' (ix (v_o' (ix (0 : Int32)))))).2.2.1) ((s_X_instr v_x' v_M' v_d' v_a' v_o' v_lo v_hi v_ri (v_M' (ix (v_o' (ix (0 : Int32)))))).2.2.2.1) ((s_X_instr v_x' v_M' v_d' v_a' v_o' v_lo v_hi v_ri (v_M' (ix (v_o' (ix (0 : Int32)))))).2.2.2.2) v_lo v_hi v_ri ((((s_X_instr v_x' v_M' v_d' v_a' v_o' v_lo v_hi v_ri (v_M' (ix (v_o' (ix (0 : Int32)))))).1) 19) >>> ((8 : Int32) &&& 31)) ((((s_X_instr v_x' v_M' v_d' v_a' v_o' v_lo v_hi v_ri (v_M' (ix (v_o' (ix (0 : Int32)))))).1) 19) &&& (255 : Int32))).2.2.1) ((s_X_take ((s_X_instr v_x' v_M' v_d' v_a' v_o' v_lo v_hi v_ri (v_M' (ix (v_o' (ix (0 : Int32)))))).1) ((s_X_instr v_x' v_M' v_d' v_a' v_o' v_lo v_hi v_ri (v_M' (ix (v_o' (ix (0 : Int32)))))).2.1) ((s_X_instr v_x' v_M' v_d' v_a' v_o' v_lo v_hi v_ri (v_M' (ix (v_o' (ix (0 : Int32)))))).2.2.1) ((s_X_instr v_x' v_M' v_d' v_a' v_o' v_lo v_hi v_ri (v_M' (ix (v_o' (ix (0 : Int32)))))).2.2.2.1) ((s_X_instr v_x' v_M' v_d' v_a' v_o' v_lo v_hi v_ri (v_M' (ix (v_o' (ix (0 : Int32)))))).2.2.2.2) v_lo v_hi v_ri ((((s_X_instr v_x' v_M' v_d' v_a' v_o' v_lo v_hi v_ri (v_M' (ix (v_o' (ix (0 : Int32)))))).1) 19) >>> ((8 : Int32) &&& 31)) ((((s_X_instr v_x' v_M' v_d' v_a' v_o' v_lo v_hi v_ri (v_M' (ix (v_o' (ix (0 : Int32)))))).1) 19) &&& (255 : Int32))).2.2.2.1) ((s_X_take ((s_X_instr v_x' v_M' v_d' v_a' v_o' v_lo v_hi v_ri (v_M' (ix (v_o' (ix (0 : Int32)))))).1) ((s_X_instr v_x' v_M' v_d' v_a' v_o' v_lo v_hi v_ri (v_M' (ix (v_o' (ix (0 : Int32)))))).2.1) ((s_X_instr v_x' v_M' v_d' v_a' v_o' v_lo v_hi v_ri (v_M' (ix (v_o' (ix (0 : Int32)))))).2.2.1) ((s_X_instr v_x' v_M' v_d' v_a' v_o' v_lo v_hi v_ri (v_M' (ix (v_o' (ix (0 : Int32)))))).2.2.2.1) ((s_X_instr v_x' v_M' v_d' v_a' v_o' v_lo v_hi v_ri (v_M' (ix (v_o' (ix (0 : Int32)))))).2.2.2.2) v_lo v_hi v_ri ((((s_X_instr v_x' v_M' v_d' v_a' v_o' v_lo v_hi v_ri (v_M' (ix (v_o' (ix (0 : Int32)))))).1) 19) >>> ((8 : Int32) &&& 31)) ((((s_X_instr v_x' v_M' v_d' v_a' v_o' v_lo v_hi v_ri (v_M' (ix (v_o' (ix (0 : Int32)))))).1) 19) &&& (255 : Int32))).2.2.2.2)) else s_X_step_c270 v_lo v_hi v_ri ((s_X_take v_x' v_M' v_d' v_a' v_o' v_lo v_hi v_ri (1 : Int32) (4 : Int32)).1) ((s_X_take v_x' v_M' v_d' v_a' v_o' v_lo v_hi v_ri (1 : Int32) (4 : Int32)).2.1) ((s_X_take v_x' v_M' v_d' v_a' v_o' v_lo v_hi v_ri (1 : Int32) (4 : Int32)).2.2.1) ((s_X_take v_x' v_M' v_d' v_a' v_o' v_lo v_hi v_ri (1 : Int32) (4 : Int32)).2.2.2.1) ((s_X_take v_x' v_M' v_d' v_a' v_o' v_lo v_hi v_ri (1 : Int32) (4 : Int32)).2.2.2.2)))) else s_X_step_c270 v_lo v_hi v_ri ((s_X_take v_x' v_M' v_d' v_a' v_o' v_lo v_hi v_ri (4 : Int32) (1 : Int32)).1) ((s_X_take v_x' v_M' v_d' v_a' v_o' v_lo v_hi v_ri (4 : Int32) (1 : Int32)).2.1) ((s_X_take v_x' v_M' v_d' v_a' v_o' v_lo v_hi v_ri (4 : Int32) (1 : Int32)).2.2.1) ((s_X_take v_x' v_M' v_d' v_a' v_o' v_lo v_hi v_ri (4 : Int32) (1 : Int32)).2.2.2.1) ((s_X_take v_x' v_M' v_d' v_a' v_o' v_lo v_hi v_ri (4 : Int32) (1 : Int32)).2.2.2.2))) else (if (s_X_enter v_x' v_M' v_d' v_a' v_o' v_lo v_hi v_ri (v_o' (ix (0 : Int32))) ((v_x' 12) + ((4 : Int32) * p_))).1 = 0 then s_X_step_c270 v_lo v_hi v_ri ((s_X_enter v_x' v_M' v_d' v_a' v_o' v_lo v_hi v_ri (v_o' (ix (0 : Int32))) ((v_x' 12) + ((4 : Int32) * p_))).2.1) ((s_X_enter v_x' v_M' v_d' v_a' v_o' v_lo v_hi v_ri (v_o' (ix (0 : Int32))) ((v_x' 12) + ((4 : Int32) * p_))).2.2.1) v_d' ((s_X_enter v_x' v_M' v_d' v_a' v_o' v_lo v_hi v_ri (v_o' (ix (0 : Int32))) ((v_x' 12) + ((4 : Int32) * p_))).2.2.2.1) ((s_X_enter v_x' v_M' v_d' v_a' v_o' v_lo v_hi v_ri (v_o' (ix (0 : Int32))) ((v_x' 12) + ((4 : Int32) * p_))).2.2.2.2) else s_X_step_c270 v_lo v_hi v_ri (upd (upd (upd ((s_X_enter v_x' v_M' v_d' v_a' v_o' v_lo v_hi v_ri (v_o' (ix (0 : Int32))) ((v_x' 12) + ((4 : Int32) * p_))).2.1) 6 ((((s_X_enter v_x' v_M' v_d' v_a' v_o' v_lo v_hi v_ri (v_o' (ix (0 : Int32))) ((v_x' 12) + ((4 : Int32) * p_))).2.1) 6) &&& (((1 : Int32) <<< (p_ &&& 31)) ^^^ (-1 : Int32)))) 4 p_) 16 ((((s_X_enter v_x' v_M' v_d' v_a' v_o' v_lo v_hi v_ri (v_o' (ix (0 : Int32))) ((v_x' 12) + ((4 : Int32) * p_))).2.1) 16) + (1 : Int32))) ((s_X_enter v_x' v_M' v_d' v_a' v_o' v_lo v_hi v_ri (v_o' (ix (0 : Int32))) ((v_x' 12) + ((4 : Int32) * p_))).2.2.1) v_d' ((s_X_enter v_x' v_M' v_d' v_a' v_o' v_lo v_hi v_ri (v_o' (ix (0 : Int32))) ((v_x' 12) + ((4 : Int32) * p_))).2.2.2.1) ((s_X_enter v_x' v_M' v_d' v_a' v_o' v_lo v_hi v_ri (v_o' (ix (0 : Int32))) ((v_x' 12) + ((4 : Int32) * p_))).2.2.2.2)))
def s_X_step_loop (v_lo : Nat → Int32) (v_hi : Nat → Int32) (v_ri : Nat → Int32) : Nat → (Nat → Int32) → (Nat → Int32) → (Nat → Int32) → (Nat → Int32) → (Nat → Int32) → Nat → (Nat → Int32) × (Nat → Int32) × (Nat → Int32) × (Nat → Int32) × (Nat → Int32)
  | 0, v_x', v_M', v_d', v_a', v_o', _ => (v_x', v_M', v_d', v_a', v_o')
  | n + 1, v_x', v_M', v_d', v_a', v_o', j => if (nI j) ≤ 0 then s_X_step_c94 v_lo v_hi v_ri v_x' v_M' v_d' v_a' v_o' (nI j) else (if (((v_x' 6) >>> ((nI j) &&& 31)) &&& (1 : Int32)) = 0 then s_X_step_loop v_lo v_hi v_ri n v_x' v_M' v_d' v_a' v_o' (j - 1) else s_X_step_c94 v_lo v_hi v_ri v_x' v_M' v_d' v_a' v_o' (nI j))
def s_X_step (v_x : Nat → Int32) (v_M : Nat → Int32) (v_d : Nat → Int32) (v_a : Nat → Int32) (v_o : Nat → Int32) (v_lo : Nat → Int32) (v_hi : Nat → Int32) (v_ri : Nat → Int32) : (Nat → Int32) × (Nat → Int32) × (Nat → Int32) × (Nat → Int32) × (Nat → Int32) :=
  s_X_step_loop v_lo v_hi v_ri 16 (upd (upd (upd (upd (upd v_x 8 ((v_x 8) + (1 : Int32))) 6 (if (v_x 9) ≤ 0 then (v_x 6) else (if (((v_x 8) + (1 : Int32)) - ((v_x 8) + (1 : Int32)) / (v_x 9) * (v_x 9)) = 0 then ((v_x 6) ||| ((1 : Int32) <<< ((v_x 10) &&& 31))) else (v_x 6)))) 17 (0 : Int32)) 18 (0 : Int32)) 19 (0 : Int32)) v_M v_d v_a v_o 15
def s_X_put (v_x : Nat → Int32) (v_M : Nat → Int32) (v_d : Nat → Int32) (v_a : Nat → Int32) (v_o : Nat → Int32) (v_lo : Nat → Int32) (v_hi : Nat → Int32) (v_ri : Nat → Int32) (a1 : Int32) (a2 : Int32) : Int32 × (Nat → Int32) × (Nat → Int32) :=
  if a1 < 0 then ((0 : Int32), upd v_x 0 (0 : Int32), v_M) else (if a1 < (512 : Int32) then ((1 : Int32), upd v_x 0 (0 : Int32), upd v_M (ix a1) a2) else ((0 : Int32), upd v_x 0 (0 : Int32), v_M))
def s_X_pool_loop (v_d : Nat → Int32) (v_a : Nat → Int32) (v_o : Nat → Int32) (v_lo : Nat → Int32) (v_hi : Nat → Int32) (v_ri : Nat → Int32) (a1 : Int32) (a2 : Int32) : Nat → (Nat → Int32) → (Nat → Int32) → Nat → (Nat → Int32) × (Nat → Int32) × (Nat → Int32)
  | 0, v_x', v_M', _ => (v_x', v_M', v_o)
  | n + 1, v_x', v_M', j => if a1 < (nI j) then (v_x', v_M', upd (upd (upd v_o (ix (1 : Int32)) (if a1 ≤ 0 then (0 : Int32) else (1 : Int32))) (ix (2 : Int32)) a2) (ix (3 : Int32)) (0 : Int32)) else s_X_pool_loop v_d v_a v_o v_lo v_hi v_ri a1 a2 n v_x' (upd v_M' (ix (s_X_wordsOf (nI j))) (if a1 ≤ (nI j) then (0 : Int32) else ((nI j) + (1 : Int32)))) (j + 1)
def s_X_pool (v_x : Nat → Int32) (v_M : Nat → Int32) (v_d : Nat → Int32) (v_a : Nat → Int32) (v_o : Nat → Int32) (v_lo : Nat → Int32) (v_hi : Nat → Int32) (v_ri : Nat → Int32) (a1 : Int32) (a2 : Int32) : (Nat → Int32) × (Nat → Int32) × (Nat → Int32) :=
  if a1 < 0 then (upd v_x 0 (1 : Int32), v_M, v_o) else (if (24 : Int32) < a1 then (upd v_x 0 (1 : Int32), v_M, v_o) else (if a2 < 0 then (upd v_x 0 (1 : Int32), v_M, v_o) else (if a2 ≤ (31 : Int32) then (if (v_x 7) = 0 then s_X_pool_loop v_d v_a v_o v_lo v_hi v_ri a1 a2 25 (upd v_x 0 (0 : Int32)) v_M 1 else (upd v_x 0 (2 : Int32), v_M, v_o)) else (upd v_x 0 (1 : Int32), v_M, v_o))))
def s_X_tables (v_x : Nat → Int32) (v_M : Nat → Int32) (v_d : Nat → Int32) (v_a : Nat → Int32) (v_o : Nat → Int32) (v_lo : Nat → Int32) (v_hi : Nat → Int32) (v_ri : Nat → Int32) (a1 : Int32) (a2 : Int32) : (Nat → Int32) :=
  (upd (upd (upd v_x 0 (0 : Int32)) 11 a1) 12 a2)
def s_X_range (v_x : Nat → Int32) (v_M : Nat → Int32) (v_d : Nat → Int32) (v_a : Nat → Int32) (v_o : Nat → Int32) (v_lo : Nat → Int32) (v_hi : Nat → Int32) (v_ri : Nat → Int32) (a1 : Int32) (a2 : Int32) (a3 : Int32) (a4 : Int32) (a5 : Int32) : (Nat → Int32) × (Nat → Int32) × (Nat → Int32) × (Nat → Int32) :=
  if a1 < 0 then (upd v_x 0 (1 : Int32), v_lo, v_hi, v_ri) else (if (1 : Int32) < a1 then (upd v_x 0 (1 : Int32), v_lo, v_hi, v_ri) else (if a2 < 0 then (upd v_x 0 (1 : Int32), v_lo, v_hi, v_ri) else (if (2 : Int32) < a2 then (upd v_x 0 (1 : Int32), v_lo, v_hi, v_ri) else (if a5 < 0 then (upd v_x 0 (1 : Int32), v_lo, v_hi, v_ri) else (if a5 ≤ (3 : Int32) then (upd v_x 0 (0 : Int32), upd v_lo (ix (((3 : Int32) * a1) + a2)) a3, upd v_hi (ix (((3 : Int32) * a1) + a2)) a4, upd v_ri (ix (((3 : Int32) * a1) + a2)) a5) else (upd v_x 0 (1 : Int32), v_lo, v_hi, v_ri))))))
def s_X_guard (v_x : Nat → Int32) (v_M : Nat → Int32) (v_d : Nat → Int32) (v_a : Nat → Int32) (v_o : Nat → Int32) (v_lo : Nat → Int32) (v_hi : Nat → Int32) (v_ri : Nat → Int32) (a1 : Int32) : (Nat → Int32) :=
  (upd (upd v_x 0 (0 : Int32)) 13 a1)
def s_X_timer (v_x : Nat → Int32) (v_M : Nat → Int32) (v_d : Nat → Int32) (v_a : Nat → Int32) (v_o : Nat → Int32) (v_lo : Nat → Int32) (v_hi : Nat → Int32) (v_ri : Nat → Int32) (a1 : Int32) (a2 : Int32) : (Nat → Int32) :=
  if a1 < 0 then (upd v_x 0 (1 : Int32)) else (if a2 < (1 : Int32) then (upd v_x 0 (1 : Int32)) else (if a2 ≤ (15 : Int32) then (upd (upd (upd v_x 0 (0 : Int32)) 9 a1) 10 a2) else (upd v_x 0 (1 : Int32))))
def s_X_request (v_x : Nat → Int32) (v_M : Nat → Int32) (v_d : Nat → Int32) (v_a : Nat → Int32) (v_o : Nat → Int32) (v_lo : Nat → Int32) (v_hi : Nat → Int32) (v_ri : Nat → Int32) (a1 : Int32) : Int32 × (Nat → Int32) :=
  if a1 < (1 : Int32) then ((0 : Int32), upd v_x 0 (0 : Int32)) else (if a1 ≤ (15 : Int32) then (if (((v_x 6) >>> (a1 &&& 31)) &&& (1 : Int32)) = (1 : Int32) then ((0 : Int32), upd (upd v_x 0 (0 : Int32)) 6 ((v_x 6) ||| ((1 : Int32) <<< (a1 &&& 31)))) else ((1 : Int32), upd (upd v_x 0 (0 : Int32)) 6 ((v_x 6) ||| ((1 : Int32) <<< (a1 &&& 31))))) else ((0 : Int32), upd v_x 0 (0 : Int32)))
def s_X_start (v_x : Nat → Int32) (v_M : Nat → Int32) (v_d : Nat → Int32) (v_a : Nat → Int32) (v_o : Nat → Int32) (v_lo : Nat → Int32) (v_hi : Nat → Int32) (v_ri : Nat → Int32) (a1 : Int32) (a2 : Int32) (a3 : Int32) : (Nat → Int32) × (Nat → Int32) :=
  if a2 < 0 then (upd v_x 0 (1 : Int32), v_o) else (if a2 ≤ (2 : Int32) then (if (v_x 7) = 0 then (upd (upd (upd (upd (upd (upd (upd v_x 0 (0 : Int32)) 7 (1 : Int32)) 1 a2) 2 (0 : Int32)) 3 (0 : Int32)) 4 (0 : Int32)) 5 a3, upd v_o (ix (0 : Int32)) a1) else (upd v_x 0 (2 : Int32), v_o)) else (upd v_x 0 (1 : Int32), v_o))
def s_X_halt (v_x : Nat → Int32) (v_M : Nat → Int32) (v_d : Nat → Int32) (v_a : Nat → Int32) (v_o : Nat → Int32) (v_lo : Nat → Int32) (v_hi : Nat → Int32) (v_ri : Nat → Int32) : Int32 × (Nat → Int32) :=
  ((v_x 7), upd (upd v_x 0 (0 : Int32)) 7 (0 : Int32))
def s_X_run_loop (v_lo : Nat → Int32) (v_hi : Nat → Int32) (v_ri : Nat → Int32) (a1 : Int32) : Nat → (Nat → Int32) → (Nat → Int32) → (Nat → Int32) → (Nat → Int32) → (Nat → Int32) → Nat → Int32 × (Nat → Int32) × (Nat → Int32) × (Nat → Int32) × (Nat → Int32) × (Nat → Int32)
  | 0, v_x', v_M', v_d', v_a', v_o', _ => ((0 : Int32), v_x', v_M', v_d', v_a', v_o')
  | n + 1, v_x', v_M', v_d', v_a', v_o', j => if (v_x' 0) = 0 then (if a1 ≤ (nI j) then ((nI j), v_x', v_M', v_d', v_a', v_o') else (if (v_x' 7) = 0 then ((nI j), v_x', v_M', v_d', v_a', v_o') else s_X_run_loop v_lo v_hi v_ri a1 n ((s_X_step v_x' v_M' v_d' v_a' v_o' v_lo v_hi v_ri).1) ((s_X_step v_x' v_M' v_d' v_a' v_o' v_lo v_hi v_ri).2.1) ((s_X_step v_x' v_M' v_d' v_a' v_o' v_lo v_hi v_ri).2.2.1) ((s_X_step v_x' v_M' v_d' v_a' v_o' v_lo v_hi v_ri).2.2.2.1) ((s_X_step v_x' v_M' v_d' v_a' v_o' v_lo v_hi v_ri).2.2.2.2) (j + 1))) else ((nI j), v_x', v_M', v_d', v_a', v_o')
def s_X_run (v_x : Nat → Int32) (v_M : Nat → Int32) (v_d : Nat → Int32) (v_a : Nat → Int32) (v_o : Nat → Int32) (v_lo : Nat → Int32) (v_hi : Nat → Int32) (v_ri : Nat → Int32) (a1 : Int32) : Int32 × (Nat → Int32) × (Nat → Int32) × (Nat → Int32) × (Nat → Int32) × (Nat → Int32) :=
  s_X_run_loop v_lo v_hi v_ri a1 301 (upd v_x 0 (if a1 < 0 then (1 : Int32) else (if a1 ≤ (300 : Int32) then (0 : Int32) else (1 : Int32)))) v_M v_d v_a v_o 0
def s_X_register (v_x : Nat → Int32) (v_M : Nat → Int32) (v_d : Nat → Int32) (v_a : Nat → Int32) (v_o : Nat → Int32) (v_lo : Nat → Int32) (v_hi : Nat → Int32) (v_ri : Nat → Int32) (a1 : Int32) (a2 : Int32) : Int32 × (Nat → Int32) :=
  if a1 < 0 then ((0 : Int32), upd v_x 0 (1 : Int32)) else (if (1 : Int32) < a1 then ((0 : Int32), upd v_x 0 (1 : Int32)) else (if a2 < 0 then ((0 : Int32), upd v_x 0 (1 : Int32)) else (if a2 ≤ (7 : Int32) then (if a1 = 0 then ((v_d (ix a2)), upd v_x 0 (0 : Int32)) else ((v_a (ix a2)), upd v_x 0 (0 : Int32))) else ((0 : Int32), upd v_x 0 (1 : Int32)))))
def s_X_word (v_x : Nat → Int32) (v_M : Nat → Int32) (v_d : Nat → Int32) (v_a : Nat → Int32) (v_o : Nat → Int32) (v_lo : Nat → Int32) (v_hi : Nat → Int32) (v_ri : Nat → Int32) (a1 : Int32) : Int32 × (Nat → Int32) :=
  if a1 < 0 then ((0 : Int32), upd v_x 0 (0 : Int32)) else (if a1 < (512 : Int32) then ((v_M (ix a1)), upd v_x 0 (0 : Int32)) else ((0 : Int32), upd v_x 0 (0 : Int32)))
def s_X_look (v_x : Nat → Int32) (v_M : Nat → Int32) (v_d : Nat → Int32) (v_a : Nat → Int32) (v_o : Nat → Int32) (v_lo : Nat → Int32) (v_hi : Nat → Int32) (v_ri : Nat → Int32) (a1 : Int32) : Int32 × (Nat → Int32) :=
  if a1 ≤ 0 then (if (8 : Int32) ≤ a1 then (if a1 = (8 : Int32) then ((v_x 8), upd v_x 0 (0 : Int32)) else (if a1 = (9 : Int32) then ((v_x 6), upd v_x 0 (0 : Int32)) else (if a1 = (10 : Int32) then ((v_x 14), upd v_x 0 (0 : Int32)) else (if a1 = (11 : Int32) then ((v_x 15), upd v_x 0 (0 : Int32)) else (if a1 = (12 : Int32) then ((v_x 16), upd v_x 0 (0 : Int32)) else ((-1 : Int32), upd v_x 0 (0 : Int32))))))) else (if a1 = 0 then (if (v_x 7) = 0 then ((0 : Int32), upd v_x 0 (0 : Int32)) else ((1 : Int32), upd v_x 0 (0 : Int32))) else (if a1 = (5 : Int32) then ((((v_x 1) + ((4 : Int32) * (v_x 2))) + ((8 : Int32) * (v_x 3))), upd v_x 0 (0 : Int32)) else (if a1 = (6 : Int32) then ((v_x 4), upd v_x 0 (0 : Int32)) else (if a1 = (7 : Int32) then (if (v_x 5) = 0 then ((0 : Int32), upd v_x 0 (0 : Int32)) else ((1 : Int32), upd v_x 0 (0 : Int32))) else ((-1 : Int32), upd v_x 0 (0 : Int32))))))) else (if (5 : Int32) ≤ a1 then (if (8 : Int32) ≤ a1 then (if a1 = (8 : Int32) then ((v_x 8), upd v_x 0 (0 : Int32)) else (if a1 = (9 : Int32) then ((v_x 6), upd v_x 0 (0 : Int32)) else (if a1 = (10 : Int32) then ((v_x 14), upd v_x 0 (0 : Int32)) else (if a1 = (11 : Int32) then ((v_x 15), upd v_x 0 (0 : Int32)) else (if a1 = (12 : Int32) then ((v_x 16), upd v_x 0 (0 : Int32)) else ((-1 : Int32), upd v_x 0 (0 : Int32))))))) else (if a1 = 0 then (if (v_x 7) = 0 then ((0 : Int32), upd v_x 0 (0 : Int32)) else ((1 : Int32), upd v_x 0 (0 : Int32))) else (if a1 = (5 : Int32) then ((((v_x 1) + ((4 : Int32) * (v_x 2))) + ((8 : Int32) * (v_x 3))), upd v_x 0 (0 : Int32)) else (if a1 = (6 : Int32) then ((v_x 4), upd v_x 0 (0 : Int32)) else (if a1 = (7 : Int32) then (if (v_x 5) = 0 then ((0 : Int32), upd v_x 0 (0 : Int32)) else ((1 : Int32), upd v_x 0 (0 : Int32))) else ((-1 : Int32), upd v_x 0 (0 : Int32))))))) else ((v_o (ix (a1 - (1 : Int32)))), upd v_x 0 (0 : Int32)))
def s_X_list_loop (v_M : Nat → Int32) (v_d : Nat → Int32) (v_a : Nat → Int32) (v_o : Nat → Int32) (v_lo : Nat → Int32) (v_hi : Nat → Int32) (v_ri : Nat → Int32) (a1 : Int32) : Nat → (Nat → Int32) → Nat → Int32 → Int32 × (Nat → Int32)
  | 0, v_x', _, _ => ((0 : Int32), v_x')
  | n + 1, v_x', j, x => if (32 : Int32) ≤ (nI j) then ((nI j), v_x') else (if (s_X_isArea x) = 0 then ((nI j), v_x') else s_X_list_loop v_M v_d v_a v_o v_lo v_hi v_ri a1 n v_x' (j + 1) ((v_M (ix (s_X_wordsOf x))) &&& (31 : Int32)))
def s_X_list (v_x : Nat → Int32) (v_M : Nat → Int32) (v_d : Nat → Int32) (v_a : Nat → Int32) (v_o : Nat → Int32) (v_lo : Nat → Int32) (v_hi : Nat → Int32) (v_ri : Nat → Int32) (a1 : Int32) : Int32 × (Nat → Int32) :=
  if a1 < 0 then ((-1 : Int32), upd v_x 0 (0 : Int32)) else (if a1 ≤ (1 : Int32) then s_X_list_loop v_M v_d v_a v_o v_lo v_hi v_ri a1 33 (upd v_x 0 (0 : Int32)) 0 ((v_o (ix (if a1 = 0 then (1 : Int32) else (3 : Int32)))) &&& (31 : Int32)) else ((-1 : Int32), upd v_x 0 (0 : Int32)))
end
section
/-! pure facts that the walks ask for: indices, numbers of the loops -/
theorem ni_lt {x y : Int32} : x < y ↔ x.toInt < y.toInt := Int32.lt_iff_toInt_lt
theorem ni_le {x y : Int32} : x ≤ y ↔ x.toInt ≤ y.toInt := Int32.le_iff_toInt_le
theorem ni_0 : (0 : Int32).toInt = 0 := by decide
theorem ni_1 : (1 : Int32).toInt = 1 := by decide
theorem ni_2 : (2 : Int32).toInt = 2 := by decide
theorem ni_3 : (3 : Int32).toInt = 3 := by decide
theorem ni_5 : (5 : Int32).toInt = 5 := by decide
theorem ni_7 : (7 : Int32).toInt = 7 := by decide
theorem ni_24 : (24 : Int32).toInt = 24 := by decide
theorem ni_32 : (32 : Int32).toInt = 32 := by decide
theorem ni_300 : (300 : Int32).toInt = 300 := by decide
theorem ni_512 : (512 : Int32).toInt = 512 := by decide
theorem in_pc {x : Int32} (h1 : ¬ x < 0) (h2 : x < (512 : Int32)) : vp_in x 512 := by
  rw [ni_lt, ni_0] at h1
  rw [ni_lt, ni_512] at h2
  rw [vp_in_iff]
  omega
theorem in_has {x : Int32} (h : ¬ (s_M_has x) = 0) : vp_in x 512 := by
  unfold s_M_has at h
  by_cases h1 : x < 0
  · rw [if_pos h1] at h; exact absurd rfl h
  · rw [if_neg h1] at h
    by_cases h2 : (512 : Int32) ≤ x
    · rw [if_pos h2] at h; exact absurd rfl h
    · refine in_pc h1 ?_
      rw [ni_le] at h2
      rw [ni_lt]
      omega
theorem in_reg {x : Int32} (h1 : ¬ x < 0) (h2 : x ≤ (7 : Int32)) : vp_in x 8 := by
  rw [ni_lt, ni_0] at h1
  rw [ni_le, ni_7] at h2
  rw [vp_in_iff]
  omega
theorem in_fA (x : Int32) : vp_in (s_P_fieldA x) 8 := zz_in7 _
theorem in_fB (x : Int32) : vp_in (s_P_fieldB x) 8 := zz_in7 _
theorem in_fC (x : Int32) : vp_in (s_P_fieldC x) 8 := zz_in7 _
theorem in_set0 {x : Int32} (h : x = 0 ∨ x = 1) : vp_in ((x * (3 : Int32)) + (0 : Int32)) 6 := by rcases h with rfl | rfl <;> exact zz_inc (by decide)
theorem in_set1 {x : Int32} (h : x = 0 ∨ x = 1) : vp_in ((x * (3 : Int32)) + (1 : Int32)) 6 := by rcases h with rfl | rfl <;> exact zz_inc (by decide)
theorem in_set2 {x : Int32} (h : x = 0 ∨ x = 1) : vp_in ((x * (3 : Int32)) + (2 : Int32)) 6 := by rcases h with rfl | rfl <;> exact zz_inc (by decide)
theorem in_xset2 {x : Int32} (h : x = 0 ∨ x = 1) : vp_in (((3 : Int32) * x) + (2 : Int32)) 6 := by rcases h with rfl | rfl <;> exact zz_inc (by decide)
theorem zz_small {x M : Int32} {n : Nat} (hM : M.toInt = n) (h : ¬ x < 0) (h2 : x ≤ M) : ∃ j : Nat, j ≤ n ∧ x = nI j := nI_of2 hM h h2
theorem in_range {x y : Int32} (h1 : ¬ x < 0) (h2 : ¬ (2 : Int32) ≤ x) (h3 : ¬ y < 0) (h4 : y < (3 : Int32)) : vp_in ((x * (3 : Int32)) + y) 6 := by
  obtain ⟨j, hj, rfl⟩ := zz_small (M := (1 : Int32)) (n := 1) (by decide) h1 (by rw [ni_le, ni_1]; rw [ni_le, ni_2] at h2; omega)
  obtain ⟨k, hk, rfl⟩ := zz_small (M := (2 : Int32)) (n := 2) (by decide) h3 (by rw [ni_le, ni_2]; rw [ni_lt, ni_3] at h4; omega)
  rw [show (3 : Int32) = nI 3 from rfl, pk_mul, nI_add]
  exact vp_in_nI (by omega) (by omega)
theorem in_xrange {x y : Int32} (h1 : ¬ x < 0) (h2 : ¬ (1 : Int32) < x) (h3 : ¬ y < 0) (h4 : ¬ (2 : Int32) < y) : vp_in (((3 : Int32) * x) + y) 6 := by
  obtain ⟨j, hj, rfl⟩ := zz_small (M := (1 : Int32)) (n := 1) (by decide) h1 (by rw [ni_le, ni_1]; rw [ni_lt, ni_1] at h2; omega)
  obtain ⟨k, hk, rfl⟩ := zz_small (M := (2 : Int32)) (n := 2) (by decide) h3 (by rw [ni_le, ni_2]; rw [ni_lt, ni_2] at h4; omega)
  rw [show (3 : Int32) = nI 3 from rfl, pk_mul, nI_add]
  exact vp_in_nI (by omega) (by omega)
theorem in_own {x : Int32} (h1 : ¬ x ≤ 0) (h2 : ¬ (5 : Int32) ≤ x) : vp_in (x - (1 : Int32)) 4 := by
  obtain ⟨j, hj, rfl⟩ := zz_small (M := (4 : Int32)) (n := 4) (x := x) (by decide) (by rw [ni_lt, ni_0]; rw [ni_le, ni_0] at h1; omega) (by rw [ni_le, show (4 : Int32).toInt = 4 from by decide]; rw [ni_le, ni_5] at h2; omega)
  have h3 : 0 < j := by
    rcases Nat.eq_zero_or_pos j with rfl | h
    · exact absurd (by decide) h1
    · exact h
  rw [show (1 : Int32) = nI 1 from rfl, pk_sub h3]
  exact vp_in_nI (by omega) (by omega)
theorem zz_in13 {c : Prop} [Decidable c] : vp_in (if c then (1 : Int32) else (3 : Int32)) 4 := by
  by_cases h : c
  · rw [if_pos h]; exact zz_inc (by decide)
  · rw [if_neg h]; exact zz_inc (by decide)
theorem zz_area {k : Int32} (h : ¬ (s_X_isArea k) = 0) : ∃ j : Nat, 1 ≤ j ∧ j ≤ 24 ∧ k = nI j := by
  unfold s_X_isArea at h
  by_cases h1 : k < (1 : Int32)
  · rw [if_pos h1] at h; exact absurd rfl h
  · rw [if_neg h1] at h
    by_cases h2 : (24 : Int32) < k
    · rw [if_pos h2] at h; exact absurd rfl h
    · rw [ni_lt, ni_1] at h1
      rw [ni_lt, ni_24] at h2
      obtain ⟨j, hj, rfl⟩ := zz_small (x := k) (M := (24 : Int32)) (n := 24) (by decide) (by rw [ni_lt, ni_0]; omega) (by rw [ni_le, ni_24]; omega)
      rw [nI_toInt (by omega)] at h1
      exact ⟨j, by omega, hj, rfl⟩
theorem zz_words {j : Nat} : s_X_wordsOf (nI j) = nI (248 + 8 * j) := by
  unfold s_X_wordsOf
  rw [show (8 : Int32) = nI 8 from rfl, show (248 : Int32) = nI 248 from rfl, pk_mul, nI_add]
theorem in_w0 {k : Int32} (h : ¬ (s_X_isArea k) = 0) : vp_in (s_X_wordsOf k) 512 := by
  obtain ⟨j, h1, h2, rfl⟩ := zz_area h
  rw [zz_words]
  exact vp_in_nI (by omega) (by omega)
theorem in_w1 {k c : Int32} (h : ¬ (s_X_isArea k) = 0) (hc : (decide (c < 0) || decide (8 ≤ c.toNatClampNeg)) = false) : vp_in ((s_X_wordsOf k) + c) 512 := by
  obtain ⟨j, h1, h2, rfl⟩ := zz_area h
  obtain ⟨i, h3, rfl⟩ := vp_in_of (zz_inc hc) (by omega)
  rw [zz_words, nI_add]
  exact vp_in_nI (by omega) (by omega)
theorem in_w2 {k c : Int32} (h : ¬ (s_X_isArea k) = 0) (hc : (decide (c < 0) || decide (4 ≤ c.toNatClampNeg)) = false) : vp_in (((s_X_wordsOf k) + (4 : Int32)) + c) 512 := by
  obtain ⟨j, h1, h2, rfl⟩ := zz_area h
  obtain ⟨i, h3, rfl⟩ := vp_in_of (zz_inc hc) (by omega)
  rw [zz_words, show (4 : Int32) = nI 4 from rfl, nI_add, nI_add]
  exact vp_in_nI (by omega) (by omega)
theorem zz_ge {x y : Int32} (h : ¬ x < y) : y ≤ x := by
  rw [ni_lt] at h
  rw [ni_le]
  omega
theorem zz_chain {j : Nat} {x : Int32} (hj : j ≤ 25) (hn : ¬ (24 : Int32) < x) (h : ¬ x < (nI j)) : j + 1 ≤ 25 := by
  rw [ni_lt, nI_toInt (by omega)] at h
  rw [ni_lt, ni_24] at hn
  omega
theorem in_chain {j : Nat} {x : Int32} (hj : j ≤ 25) (h1 : 1 ≤ j) (hn : ¬ (24 : Int32) < x) (h : ¬ x < (nI j)) : vp_in (s_X_wordsOf (nI j)) 512 := by
  have := zz_chain hj hn h
  rw [zz_words]
  exact vp_in_nI (by omega) (by omega)
theorem zz_count {j : Nat} (hj : j ≤ 32) (h : ¬ (32 : Int32) ≤ (nI j)) : j + 1 ≤ 32 := by
  rw [ni_le, nI_toInt (by omega), ni_32] at h
  omega
theorem zz_xrun {j : Nat} {x : Int32} (hj : j ≤ 300) (hn : ¬ (300 : Int32) < x) (h : ¬ x ≤ (nI j)) : j + 1 ≤ 300 := by
  rw [ni_le, nI_toInt (by omega)] at h
  rw [ni_lt, ni_300] at hn
  omega
theorem zz_posj {j : Nat} (h : ¬ (nI j) ≤ 0) : 0 < j := by
  rcases Nat.eq_zero_or_pos j with rfl | h2
  · exact absurd (by decide) h
  · exact h2
theorem zz_dec {j : Nat} (h : ¬ (nI j) ≤ 0) : nI j + Int32.ofInt (-1) = nI (j - 1) := by
  have := zz_posj h
  obtain ⟨i, rfl⟩ : ∃ i, j = i + 1 := ⟨j - 1, by omega⟩
  exact pk_m1 i
theorem zz_le0 {x : Int32} (h : ¬ x ≤ 0) : ¬ x = 0 := fun e => h (by rw [e]; decide)
theorem zz_ne01 {x : Int32} : ¬ (if x = 0 then (1 : Int32) else x) = 0 := by
  by_cases h : x = 0
  · rw [if_pos h]; decide
  · rw [if_neg h]; exact h
theorem zz_thr {x : Int32} : (if x < 0 then (1 : Int32) else (if x ≤ (300 : Int32) then (0 : Int32) else (1 : Int32))) = 0 → ¬ (300 : Int32) < x := by
  intro h h2
  by_cases h1 : x < 0
  · rw [if_pos h1] at h; exact absurd h (by decide)
  · rw [if_neg h1] at h
    by_cases h3 : x ≤ (300 : Int32)
    · rw [ni_le] at h3; rw [ni_lt] at h2; omega
    · rw [if_neg h3] at h; exact absurd h (by decide)
section LM
variable {v_x v_M v_d v_a v_o v_lo v_hi v_ri : Nat → Int32} {a1 : Int32}
theorem in_mayR (h : ¬ (s_X_mayR v_x v_M v_d v_a v_o v_lo v_hi v_ri a1).1 = 0) : vp_in a1 512 := by
  by_cases hc : (if a1 < 0 then (0 : Int32) else (if (512 : Int32) ≤ a1 then (0 : Int32) else (1 : Int32))) = 0
  · exfalso
    apply h
    unfold s_X_mayR
    split
    · unfold s_X_mayR0; rw [if_pos hc]
    · unfold s_X_mayR1; rw [if_pos hc]
  · exact in_has hc
theorem in_mayW (h : ¬ (s_X_mayW v_x v_M v_d v_a v_o v_lo v_hi v_ri a1).1 = 0) : vp_in a1 512 := by
  by_cases hc : (if a1 < 0 then (0 : Int32) else (if (512 : Int32) ≤ a1 then (0 : Int32) else (1 : Int32))) = 0
  · exfalso
    apply h
    unfold s_X_mayW
    split
    · unfold s_X_mayW0; rw [if_pos hc]
    · unfold s_X_mayW1; rw [if_pos hc]
  · exact in_has hc
theorem can_areaU (h : ¬ (s_X_canBringU v_x v_M v_d v_a v_o v_lo v_hi v_ri).1 = 0) : ¬ (s_X_isArea (v_o (ix (3 : Int32)) &&& (31 : Int32))) = 0 := by
  intro hc
  apply h
  unfold s_X_canBringU
  rw [if_pos hc]
theorem can_areaL (h : ¬ (s_X_canBringL v_x v_M v_d v_a v_o v_lo v_hi v_ri).1 = 0) : ¬ (s_X_isArea (v_o (ix (3 : Int32)) &&& (31 : Int32))) = 0 := by
  intro hc
  apply h
  unfold s_X_canBringL
  rw [if_pos hc]
theorem can_enU (h : v_x 5 = 0 ∨ v_x 5 = 1) : ((s_X_canBringU v_x v_M v_d v_a v_o v_lo v_hi v_ri).2 5) = 0 ∨ ((s_X_canBringU v_x v_M v_d v_a v_o v_lo v_hi v_ri).2 5) = 1 := by
  have e : (s_X_canBringU v_x v_M v_d v_a v_o v_lo v_hi v_ri).2 5 = v_x 5 := by
    unfold s_X_canBringU
    split
    · rfl
    · split <;> rfl
  rw [e]
  exact h
end LM
theorem bo_M_has (a1 : Int32) : (s_M_has a1) = 0 ∨ (s_M_has a1) = 1 := by
  unfold s_M_has
  (repeat' split) <;> first | exact Or.inl rfl | exact Or.inr rfl | assumption
theorem bo_M_isArea (a1 : Int32) : (s_M_isArea a1) = 0 ∨ (s_M_isArea a1) = 1 := by
  unfold s_M_isArea
  (repeat' split) <;> first | exact Or.inl rfl | exact Or.inr rfl | assumption
theorem bo_R_keepU (u_r : Nat → Int32) (u_d : Nat → Int32) (u_a : Nat → Int32) (u_M : Nat → Int32) : (s_R_keepU u_r u_d u_a u_M).1 = 0 ∨ (s_R_keepU u_r u_d u_a u_M).1 = 1 := by
  unfold s_R_keepU
  (repeat' split) <;> first | exact Or.inl rfl | exact Or.inr rfl | assumption
theorem bo_R_keepL (u_r : Nat → Int32) (u_d : Nat → Int32) (u_a : Nat → Int32) (u_M : Nat → Int32) : (s_R_keepL u_r u_d u_a u_M).1 = 0 ∨ (s_R_keepL u_r u_d u_a u_M).1 = 1 := by
  unfold s_R_keepL
  (repeat' split) <;> first | exact Or.inl rfl | exact Or.inr rfl | assumption
theorem bo_G_covers (u_lo : Nat → Int32) (u_hi : Nat → Int32) (u_ri : Nat → Int32) (a1 : Int32) (a2 : Int32) : (s_G_covers u_lo u_hi u_ri a1 a2) = 0 ∨ (s_G_covers u_lo u_hi u_ri a1 a2) = 1 := by
  unfold s_G_covers
  (repeat' split) <;> first | exact Or.inl rfl | exact Or.inr rfl | assumption
theorem bo_G_letsRun (u_lo : Nat → Int32) (u_hi : Nat → Int32) (u_ri : Nat → Int32) (a1 : Int32) (a2 : Int32) : (s_G_letsRun u_lo u_hi u_ri a1 a2) = 0 ∨ (s_G_letsRun u_lo u_hi u_ri a1 a2) = 1 := by
  unfold s_G_letsRun
  (repeat' split) <;> first | exact Or.inl rfl | exact Or.inr rfl | assumption
theorem bo_G_letsUse (u_lo : Nat → Int32) (u_hi : Nat → Int32) (u_ri : Nat → Int32) (a1 : Int32) (a2 : Int32) (a3 : Int32) : (s_G_letsUse u_lo u_hi u_ri a1 a2 a3) = 0 ∨ (s_G_letsUse u_lo u_hi u_ri a1 a2 a3) = 1 := by
  unfold s_G_letsUse
  (repeat' split) <;> first | exact Or.inl rfl | exact Or.inr rfl | assumption
theorem bo_T_has (a1 : Int32) : (s_T_has a1) = 0 ∨ (s_T_has a1) = 1 := by
  unfold s_T_has
  (repeat' split) <;> first | exact Or.inl rfl | exact Or.inr rfl | assumption
theorem bo_T_isPending (u_t : Nat → Int32) (a1 : Int32) : (s_T_isPending u_t a1) = 0 ∨ (s_T_isPending u_t a1) = 1 := by
  unfold s_T_isPending
  (repeat' split) <;> first | exact Or.inl rfl | exact Or.inr rfl | assumption
theorem bo_P_needsTopLevel (a1 : Int32) : (s_P_needsTopLevel a1) = 0 ∨ (s_P_needsTopLevel a1) = 1 := by
  unfold s_P_needsTopLevel
  (repeat' split) <;> first | exact Or.inl rfl | exact Or.inr rfl | assumption
theorem bo_P_isGuarded (u_z : Nat → Int32) (u_M : Nat → Int32) (u_r : Nat → Int32) (u_d : Nat → Int32) (u_a : Nat → Int32) (u_lo : Nat → Int32) (u_hi : Nat → Int32) (u_ri : Nat → Int32) (u_t : Nat → Int32) : (s_P_isGuarded u_z u_M u_r u_d u_a u_lo u_hi u_ri u_t) = 0 ∨ (s_P_isGuarded u_z u_M u_r u_d u_a u_lo u_hi u_ri u_t) = 1 := by
  unfold s_P_isGuarded
  (repeat' split) <;> first | exact Or.inl rfl | exact Or.inr rfl | assumption
theorem e_P_perform0 (u_z : Nat → Int32) (u_M : Nat → Int32) (u_r : Nat → Int32) (u_d : Nat → Int32) (u_a : Nat → Int32) (u_lo : Nat → Int32) (u_hi : Nat → Int32) (u_ri : Nat → Int32) (u_t : Nat → Int32) (a1 : Int32) (hop : (a1 &&& (31 : Int32)) = (0 : Int32)) : s_P_perform u_z u_M u_r u_d u_a u_lo u_hi u_ri u_t a1 = ((s_P_perform0 u_z u_M u_r u_d u_a u_lo u_hi u_ri u_t a1), u_M, u_r, u_d, u_a) := by
  unfold s_P_perform
  simp only [hop]
  rfl
theorem e_P_perform1 (u_z : Nat → Int32) (u_M : Nat → Int32) (u_r : Nat → Int32) (u_d : Nat → Int32) (u_a : Nat → Int32) (u_lo : Nat → Int32) (u_hi : Nat → Int32) (u_ri : Nat → Int32) (u_t : Nat → Int32) (a1 : Int32) (hop : (a1 &&& (31 : Int32)) = (1 : Int32)) : s_P_perform u_z u_M u_r u_d u_a u_lo u_hi u_ri u_t a1 = ((s_P_perform1 u_z u_M u_r u_d u_a u_lo u_hi u_ri u_t a1).1, u_M, u_r, (s_P_perform1 u_z u_M u_r u_d u_a u_lo u_hi u_ri u_t a1).2, u_a) := by
  unfold s_P_perform
  simp only [hop]
  rfl
theorem e_P_perform2 (u_z : Nat → Int32) (u_M : Nat → Int32) (u_r : Nat → Int32) (u_d : Nat → Int32) (u_a : Nat → Int32) (u_lo : Nat → Int32) (u_hi : Nat → Int32) (u_ri : Nat → Int32) (u_t : Nat → Int32) (a1 : Int32) (hop : (a1 &&& (31 : Int32)) = (2 : Int32)) : s_P_perform u_z u_M u_r u_d u_a u_lo u_hi u_ri u_t a1 = ((s_P_perform2 u_z u_M u_r u_d u_a u_lo u_hi u_ri u_t a1).1, u_M, u_r, (s_P_perform2 u_z u_M u_r u_d u_a u_lo u_hi u_ri u_t a1).2, u_a) := by
  unfold s_P_perform
  simp only [hop]
  rfl
theorem e_P_perform3 (u_z : Nat → Int32) (u_M : Nat → Int32) (u_r : Nat → Int32) (u_d : Nat → Int32) (u_a : Nat → Int32) (u_lo : Nat → Int32) (u_hi : Nat → Int32) (u_ri : Nat → Int32) (u_t : Nat → Int32) (a1 : Int32) (hop : (a1 &&& (31 : Int32)) = (3 : Int32)) : s_P_perform u_z u_M u_r u_d u_a u_lo u_hi u_ri u_t a1 = ((s_P_perform3 u_z u_M u_r u_d u_a u_lo u_hi u_ri u_t a1).1, u_M, u_r, (s_P_perform3 u_z u_M u_r u_d u_a u_lo u_hi u_ri u_t a1).2, u_a) := by
  unfold s_P_perform
  simp only [hop]
  rfl
theorem e_P_perform4 (u_z : Nat → Int32) (u_M : Nat → Int32) (u_r : Nat → Int32) (u_d : Nat → Int32) (u_a : Nat → Int32) (u_lo : Nat → Int32) (u_hi : Nat → Int32) (u_ri : Nat → Int32) (u_t : Nat → Int32) (a1 : Int32) (hop : (a1 &&& (31 : Int32)) = (4 : Int32)) : s_P_perform u_z u_M u_r u_d u_a u_lo u_hi u_ri u_t a1 = ((s_P_perform4 u_z u_M u_r u_d u_a u_lo u_hi u_ri u_t a1).1, u_M, u_r, (s_P_perform4 u_z u_M u_r u_d u_a u_lo u_hi u_ri u_t a1).2, u_a) := by
  unfold s_P_perform
  simp only [hop]
  rfl
theorem e_P_perform5 (u_z : Nat → Int32) (u_M : Nat → Int32) (u_r : Nat → Int32) (u_d : Nat → Int32) (u_a : Nat → Int32) (u_lo : Nat → Int32) (u_hi : Nat → Int32) (u_ri : Nat → Int32) (u_t : Nat → Int32) (a1 : Int32) (hop : (a1 &&& (31 : Int32)) = (5 : Int32)) : s_P_perform u_z u_M u_r u_d u_a u_lo u_hi u_ri u_t a1 = ((s_P_perform5 u_z u_M u_r u_d u_a u_lo u_hi u_ri u_t a1).1, u_M, u_r, (s_P_perform5 u_z u_M u_r u_d u_a u_lo u_hi u_ri u_t a1).2, u_a) := by
  unfold s_P_perform
  simp only [hop]
  rfl
theorem e_P_perform6 (u_z : Nat → Int32) (u_M : Nat → Int32) (u_r : Nat → Int32) (u_d : Nat → Int32) (u_a : Nat → Int32) (u_lo : Nat → Int32) (u_hi : Nat → Int32) (u_ri : Nat → Int32) (u_t : Nat → Int32) (a1 : Int32) (hop : (a1 &&& (31 : Int32)) = (6 : Int32)) : s_P_perform u_z u_M u_r u_d u_a u_lo u_hi u_ri u_t a1 = ((s_P_perform6 u_z u_M u_r u_d u_a u_lo u_hi u_ri u_t a1).1, u_M, u_r, (s_P_perform6 u_z u_M u_r u_d u_a u_lo u_hi u_ri u_t a1).2, u_a) := by
  unfold s_P_perform
  simp only [hop]
  rfl
theorem e_P_perform7 (u_z : Nat → Int32) (u_M : Nat → Int32) (u_r : Nat → Int32) (u_d : Nat → Int32) (u_a : Nat → Int32) (u_lo : Nat → Int32) (u_hi : Nat → Int32) (u_ri : Nat → Int32) (u_t : Nat → Int32) (a1 : Int32) (hop : (a1 &&& (31 : Int32)) = (7 : Int32)) : s_P_perform u_z u_M u_r u_d u_a u_lo u_hi u_ri u_t a1 = ((s_P_perform7 u_z u_M u_r u_d u_a u_lo u_hi u_ri u_t a1).1, u_M, u_r, (s_P_perform7 u_z u_M u_r u_d u_a u_lo u_hi u_ri u_t a1).2, u_a) := by
  unfold s_P_perform
  simp only [hop]
  rfl
theorem e_P_perform8 (u_z : Nat → Int32) (u_M : Nat → Int32) (u_r : Nat → Int32) (u_d : Nat → Int32) (u_a : Nat → Int32) (u_lo : Nat → Int32) (u_hi : Nat → Int32) (u_ri : Nat → Int32) (u_t : Nat → Int32) (a1 : Int32) (hop : (a1 &&& (31 : Int32)) = (8 : Int32)) : s_P_perform u_z u_M u_r u_d u_a u_lo u_hi u_ri u_t a1 = ((s_P_perform8 u_z u_M u_r u_d u_a u_lo u_hi u_ri u_t a1).1, u_M, u_r, (s_P_perform8 u_z u_M u_r u_d u_a u_lo u_hi u_ri u_t a1).2, u_a) := by
  unfold s_P_perform
  simp only [hop]
  rfl
theorem e_P_perform9 (u_z : Nat → Int32) (u_M : Nat → Int32) (u_r : Nat → Int32) (u_d : Nat → Int32) (u_a : Nat → Int32) (u_lo : Nat → Int32) (u_hi : Nat → Int32) (u_ri : Nat → Int32) (u_t : Nat → Int32) (a1 : Int32) (hop : (a1 &&& (31 : Int32)) = (9 : Int32)) : s_P_perform u_z u_M u_r u_d u_a u_lo u_hi u_ri u_t a1 = ((s_P_perform9 u_z u_M u_r u_d u_a u_lo u_hi u_ri u_t a1).1, u_M, u_r, u_d, (s_P_perform9 u_z u_M u_r u_d u_a u_lo u_hi u_ri u_t a1).2) := by
  unfold s_P_perform
  simp only [hop]
  rfl
theorem e_P_perform10 (u_z : Nat → Int32) (u_M : Nat → Int32) (u_r : Nat → Int32) (u_d : Nat → Int32) (u_a : Nat → Int32) (u_lo : Nat → Int32) (u_hi : Nat → Int32) (u_ri : Nat → Int32) (u_t : Nat → Int32) (a1 : Int32) (hop : (a1 &&& (31 : Int32)) = (10 : Int32)) : s_P_perform u_z u_M u_r u_d u_a u_lo u_hi u_ri u_t a1 = ((s_P_perform10 u_z u_M u_r u_d u_a u_lo u_hi u_ri u_t a1).1, u_M, u_r, u_d, (s_P_perform10 u_z u_M u_r u_d u_a u_lo u_hi u_ri u_t a1).2) := by
  unfold s_P_perform
  simp only [hop]
  rfl
theorem e_P_perform11 (u_z : Nat → Int32) (u_M : Nat → Int32) (u_r : Nat → Int32) (u_d : Nat → Int32) (u_a : Nat → Int32) (u_lo : Nat → Int32) (u_hi : Nat → Int32) (u_ri : Nat → Int32) (u_t : Nat → Int32) (a1 : Int32) (hop : (a1 &&& (31 : Int32)) = (11 : Int32)) : s_P_perform u_z u_M u_r u_d u_a u_lo u_hi u_ri u_t a1 = ((s_P_perform11 u_z u_M u_r u_d u_a u_lo u_hi u_ri u_t a1).1, u_M, u_r, u_d, (s_P_perform11 u_z u_M u_r u_d u_a u_lo u_hi u_ri u_t a1).2) := by
  unfold s_P_perform
  simp only [hop]
  rfl
theorem e_P_perform12 (u_z : Nat → Int32) (u_M : Nat → Int32) (u_r : Nat → Int32) (u_d : Nat → Int32) (u_a : Nat → Int32) (u_lo : Nat → Int32) (u_hi : Nat → Int32) (u_ri : Nat → Int32) (u_t : Nat → Int32) (a1 : Int32) (hop : (a1 &&& (31 : Int32)) = (12 : Int32)) : s_P_perform u_z u_M u_r u_d u_a u_lo u_hi u_ri u_t a1 = ((s_P_perform12 u_z u_M u_r u_d u_a u_lo u_hi u_ri u_t a1).1, u_M, u_r, (s_P_perform12 u_z u_M u_r u_d u_a u_lo u_hi u_ri u_t a1).2, u_a) := by
  unfold s_P_perform
  simp only [hop]
  rfl
theorem e_P_perform13 (u_z : Nat → Int32) (u_M : Nat → Int32) (u_r : Nat → Int32) (u_d : Nat → Int32) (u_a : Nat → Int32) (u_lo : Nat → Int32) (u_hi : Nat → Int32) (u_ri : Nat → Int32) (u_t : Nat → Int32) (a1 : Int32) (hop : (a1 &&& (31 : Int32)) = (13 : Int32)) : s_P_perform u_z u_M u_r u_d u_a u_lo u_hi u_ri u_t a1 = ((s_P_perform13 u_z u_M u_r u_d u_a u_lo u_hi u_ri u_t a1).1, u_M, u_r, (s_P_perform13 u_z u_M u_r u_d u_a u_lo u_hi u_ri u_t a1).2, u_a) := by
  unfold s_P_perform
  simp only [hop]
  rfl
theorem e_P_perform14 (u_z : Nat → Int32) (u_M : Nat → Int32) (u_r : Nat → Int32) (u_d : Nat → Int32) (u_a : Nat → Int32) (u_lo : Nat → Int32) (u_hi : Nat → Int32) (u_ri : Nat → Int32) (u_t : Nat → Int32) (a1 : Int32) (hop : (a1 &&& (31 : Int32)) = (14 : Int32)) : s_P_perform u_z u_M u_r u_d u_a u_lo u_hi u_ri u_t a1 = ((s_P_perform14 u_z u_M u_r u_d u_a u_lo u_hi u_ri u_t a1).1, (s_P_perform14 u_z u_M u_r u_d u_a u_lo u_hi u_ri u_t a1).2, u_r, u_d, u_a) := by
  unfold s_P_perform
  simp only [hop]
  rfl
theorem e_P_perform15 (u_z : Nat → Int32) (u_M : Nat → Int32) (u_r : Nat → Int32) (u_d : Nat → Int32) (u_a : Nat → Int32) (u_lo : Nat → Int32) (u_hi : Nat → Int32) (u_ri : Nat → Int32) (u_t : Nat → Int32) (a1 : Int32) (hop : (a1 &&& (31 : Int32)) = (15 : Int32)) : s_P_perform u_z u_M u_r u_d u_a u_lo u_hi u_ri u_t a1 = ((s_P_perform15 u_z u_M u_r u_d u_a u_lo u_hi u_ri u_t a1).1, u_M, u_r, (s_P_perform15 u_z u_M u_r u_d u_a u_lo u_hi u_ri u_t a1).2.1, (s_P_perform15 u_z u_M u_r u_d u_a u_lo u_hi u_ri u_t a1).2.2) := by
  unfold s_P_perform
  simp only [hop]
  rfl
theorem e_P_perform16 (u_z : Nat → Int32) (u_M : Nat → Int32) (u_r : Nat → Int32) (u_d : Nat → Int32) (u_a : Nat → Int32) (u_lo : Nat → Int32) (u_hi : Nat → Int32) (u_ri : Nat → Int32) (u_t : Nat → Int32) (a1 : Int32) (hop : (a1 &&& (31 : Int32)) = (16 : Int32)) : s_P_perform u_z u_M u_r u_d u_a u_lo u_hi u_ri u_t a1 = ((s_P_perform16 u_z u_M u_r u_d u_a u_lo u_hi u_ri u_t a1).1, (s_P_perform16 u_z u_M u_r u_d u_a u_lo u_hi u_ri u_t a1).2.1, u_r, u_d, (s_P_perform16 u_z u_M u_r u_d u_a u_lo u_hi u_ri u_t a1).2.2) := by
  unfold s_P_perform
  simp only [hop]
  rfl
theorem e_P_perform17 (u_z : Nat → Int32) (u_M : Nat → Int32) (u_r : Nat → Int32) (u_d : Nat → Int32) (u_a : Nat → Int32) (u_lo : Nat → Int32) (u_hi : Nat → Int32) (u_ri : Nat → Int32) (u_t : Nat → Int32) (a1 : Int32) (hop : (a1 &&& (31 : Int32)) = (17 : Int32)) : s_P_perform u_z u_M u_r u_d u_a u_lo u_hi u_ri u_t a1 = ((s_P_perform17 u_z u_M u_r u_d u_a u_lo u_hi u_ri u_t a1).1, u_M, u_r, (s_P_perform17 u_z u_M u_r u_d u_a u_lo u_hi u_ri u_t a1).2.1, (s_P_perform17 u_z u_M u_r u_d u_a u_lo u_hi u_ri u_t a1).2.2) := by
  unfold s_P_perform
  simp only [hop]
  rfl
theorem e_P_perform18 (u_z : Nat → Int32) (u_M : Nat → Int32) (u_r : Nat → Int32) (u_d : Nat → Int32) (u_a : Nat → Int32) (u_lo : Nat → Int32) (u_hi : Nat → Int32) (u_ri : Nat → Int32) (u_t : Nat → Int32) (a1 : Int32) (hop : (a1 &&& (31 : Int32)) = (18 : Int32)) : s_P_perform u_z u_M u_r u_d u_a u_lo u_hi u_ri u_t a1 = ((s_P_perform18 u_z u_M u_r u_d u_a u_lo u_hi u_ri u_t a1).1, u_M, (s_P_perform18 u_z u_M u_r u_d u_a u_lo u_hi u_ri u_t a1).2, u_d, u_a) := by
  unfold s_P_perform
  simp only [hop]
  rfl
theorem e_P_perform19 (u_z : Nat → Int32) (u_M : Nat → Int32) (u_r : Nat → Int32) (u_d : Nat → Int32) (u_a : Nat → Int32) (u_lo : Nat → Int32) (u_hi : Nat → Int32) (u_ri : Nat → Int32) (u_t : Nat → Int32) (a1 : Int32) (hop : (a1 &&& (31 : Int32)) = (19 : Int32)) : s_P_perform u_z u_M u_r u_d u_a u_lo u_hi u_ri u_t a1 = ((s_P_perform19 u_z u_M u_r u_d u_a u_lo u_hi u_ri u_t a1).1, u_M, (s_P_perform19 u_z u_M u_r u_d u_a u_lo u_hi u_ri u_t a1).2, u_d, u_a) := by
  unfold s_P_perform
  simp only [hop]
  rfl
theorem e_P_perform20 (u_z : Nat → Int32) (u_M : Nat → Int32) (u_r : Nat → Int32) (u_d : Nat → Int32) (u_a : Nat → Int32) (u_lo : Nat → Int32) (u_hi : Nat → Int32) (u_ri : Nat → Int32) (u_t : Nat → Int32) (a1 : Int32) (hop : (a1 &&& (31 : Int32)) = (20 : Int32)) : s_P_perform u_z u_M u_r u_d u_a u_lo u_hi u_ri u_t a1 = ((s_P_perform20 u_z u_M u_r u_d u_a u_lo u_hi u_ri u_t a1).1, u_M, (s_P_perform20 u_z u_M u_r u_d u_a u_lo u_hi u_ri u_t a1).2, u_d, u_a) := by
  unfold s_P_perform
  simp only [hop]
  rfl
theorem e_P_perform21 (u_z : Nat → Int32) (u_M : Nat → Int32) (u_r : Nat → Int32) (u_d : Nat → Int32) (u_a : Nat → Int32) (u_lo : Nat → Int32) (u_hi : Nat → Int32) (u_ri : Nat → Int32) (u_t : Nat → Int32) (a1 : Int32) (hop : (a1 &&& (31 : Int32)) = (21 : Int32)) : s_P_perform u_z u_M u_r u_d u_a u_lo u_hi u_ri u_t a1 = ((s_P_perform21 u_z u_M u_r u_d u_a u_lo u_hi u_ri u_t a1).1, (s_P_perform21 u_z u_M u_r u_d u_a u_lo u_hi u_ri u_t a1).2.1, (s_P_perform21 u_z u_M u_r u_d u_a u_lo u_hi u_ri u_t a1).2.2.1, u_d, (s_P_perform21 u_z u_M u_r u_d u_a u_lo u_hi u_ri u_t a1).2.2.2) := by
  unfold s_P_perform
  simp only [hop]
  rfl
theorem e_P_perform22 (u_z : Nat → Int32) (u_M : Nat → Int32) (u_r : Nat → Int32) (u_d : Nat → Int32) (u_a : Nat → Int32) (u_lo : Nat → Int32) (u_hi : Nat → Int32) (u_ri : Nat → Int32) (u_t : Nat → Int32) (a1 : Int32) (hop : (a1 &&& (31 : Int32)) = (22 : Int32)) : s_P_perform u_z u_M u_r u_d u_a u_lo u_hi u_ri u_t a1 = ((s_P_perform22 u_z u_M u_r u_d u_a u_lo u_hi u_ri u_t a1).1, (s_P_perform22 u_z u_M u_r u_d u_a u_lo u_hi u_ri u_t a1).2.1, (s_P_perform22 u_z u_M u_r u_d u_a u_lo u_hi u_ri u_t a1).2.2.1, (s_P_perform22 u_z u_M u_r u_d u_a u_lo u_hi u_ri u_t a1).2.2.2.1, (s_P_perform22 u_z u_M u_r u_d u_a u_lo u_hi u_ri u_t a1).2.2.2.2) := by
  unfold s_P_perform
  simp only [hop]
  rfl
theorem e_P_perform23 (u_z : Nat → Int32) (u_M : Nat → Int32) (u_r : Nat → Int32) (u_d : Nat → Int32) (u_a : Nat → Int32) (u_lo : Nat → Int32) (u_hi : Nat → Int32) (u_ri : Nat → Int32) (u_t : Nat → Int32) (a1 : Int32) (hop : (a1 &&& (31 : Int32)) = (23 : Int32)) : s_P_perform u_z u_M u_r u_d u_a u_lo u_hi u_ri u_t a1 = ((s_P_perform23 u_z u_M u_r u_d u_a u_lo u_hi u_ri u_t a1).1, (s_P_perform23 u_z u_M u_r u_d u_a u_lo u_hi u_ri u_t a1).2.1, (s_P_perform23 u_z u_M u_r u_d u_a u_lo u_hi u_ri u_t a1).2.2, u_d, u_a) := by
  unfold s_P_perform
  simp only [hop]
  rfl
theorem e_P_perform24 (u_z : Nat → Int32) (u_M : Nat → Int32) (u_r : Nat → Int32) (u_d : Nat → Int32) (u_a : Nat → Int32) (u_lo : Nat → Int32) (u_hi : Nat → Int32) (u_ri : Nat → Int32) (u_t : Nat → Int32) (a1 : Int32) (hop : (a1 &&& (31 : Int32)) = (24 : Int32)) : s_P_perform u_z u_M u_r u_d u_a u_lo u_hi u_ri u_t a1 = ((s_P_perform24 u_z u_M u_r u_d u_a u_lo u_hi u_ri u_t a1).1, (s_P_perform24 u_z u_M u_r u_d u_a u_lo u_hi u_ri u_t a1).2.1, (s_P_perform24 u_z u_M u_r u_d u_a u_lo u_hi u_ri u_t a1).2.2.1, (s_P_perform24 u_z u_M u_r u_d u_a u_lo u_hi u_ri u_t a1).2.2.2.1, (s_P_perform24 u_z u_M u_r u_d u_a u_lo u_hi u_ri u_t a1).2.2.2.2) := by
  unfold s_P_perform
  simp only [hop]
  rfl
theorem e_P_perform25 (u_z : Nat → Int32) (u_M : Nat → Int32) (u_r : Nat → Int32) (u_d : Nat → Int32) (u_a : Nat → Int32) (u_lo : Nat → Int32) (u_hi : Nat → Int32) (u_ri : Nat → Int32) (u_t : Nat → Int32) (a1 : Int32) (hop : (a1 &&& (31 : Int32)) = (25 : Int32)) : s_P_perform u_z u_M u_r u_d u_a u_lo u_hi u_ri u_t a1 = ((s_P_perform25 u_z u_M u_r u_d u_a u_lo u_hi u_ri u_t a1).1, (s_P_perform25 u_z u_M u_r u_d u_a u_lo u_hi u_ri u_t a1).2.1, (s_P_perform25 u_z u_M u_r u_d u_a u_lo u_hi u_ri u_t a1).2.2, u_d, u_a) := by
  unfold s_P_perform
  simp only [hop]
  rfl
theorem e_P_perform26 (u_z : Nat → Int32) (u_M : Nat → Int32) (u_r : Nat → Int32) (u_d : Nat → Int32) (u_a : Nat → Int32) (u_lo : Nat → Int32) (u_hi : Nat → Int32) (u_ri : Nat → Int32) (u_t : Nat → Int32) (a1 : Int32) (hop : (a1 &&& (31 : Int32)) = (26 : Int32)) : s_P_perform u_z u_M u_r u_d u_a u_lo u_hi u_ri u_t a1 = ((s_P_perform26 u_z u_M u_r u_d u_a u_lo u_hi u_ri u_t a1).1, (s_P_perform26 u_z u_M u_r u_d u_a u_lo u_hi u_ri u_t a1).2.1, (s_P_perform26 u_z u_M u_r u_d u_a u_lo u_hi u_ri u_t a1).2.2.1, (s_P_perform26 u_z u_M u_r u_d u_a u_lo u_hi u_ri u_t a1).2.2.2.1, (s_P_perform26 u_z u_M u_r u_d u_a u_lo u_hi u_ri u_t a1).2.2.2.2) := by
  unfold s_P_perform
  simp only [hop]
  rfl
theorem e_P_perform27 (u_z : Nat → Int32) (u_M : Nat → Int32) (u_r : Nat → Int32) (u_d : Nat → Int32) (u_a : Nat → Int32) (u_lo : Nat → Int32) (u_hi : Nat → Int32) (u_ri : Nat → Int32) (u_t : Nat → Int32) (a1 : Int32) (hop : (a1 &&& (31 : Int32)) = (27 : Int32)) : s_P_perform u_z u_M u_r u_d u_a u_lo u_hi u_ri u_t a1 = ((s_P_perform27 u_z u_M u_r u_d u_a u_lo u_hi u_ri u_t a1), u_M, u_r, u_d, u_a) := by
  unfold s_P_perform
  simp only [hop]
  rfl
theorem e_P_perform28 (u_z : Nat → Int32) (u_M : Nat → Int32) (u_r : Nat → Int32) (u_d : Nat → Int32) (u_a : Nat → Int32) (u_lo : Nat → Int32) (u_hi : Nat → Int32) (u_ri : Nat → Int32) (u_t : Nat → Int32) (a1 : Int32) (hop : (a1 &&& (31 : Int32)) = (28 : Int32)) : s_P_perform u_z u_M u_r u_d u_a u_lo u_hi u_ri u_t a1 = ((s_P_perform28 u_z u_M u_r u_d u_a u_lo u_hi u_ri u_t a1).1, u_M, (s_P_perform28 u_z u_M u_r u_d u_a u_lo u_hi u_ri u_t a1).2, u_d, u_a) := by
  unfold s_P_perform
  simp only [hop]
  rfl
theorem e_P_perform29 (u_z : Nat → Int32) (u_M : Nat → Int32) (u_r : Nat → Int32) (u_d : Nat → Int32) (u_a : Nat → Int32) (u_lo : Nat → Int32) (u_hi : Nat → Int32) (u_ri : Nat → Int32) (u_t : Nat → Int32) (a1 : Int32) (hop : (a1 &&& (31 : Int32)) = (29 : Int32)) : s_P_perform u_z u_M u_r u_d u_a u_lo u_hi u_ri u_t a1 = ((s_P_perform29 u_z u_M u_r u_d u_a u_lo u_hi u_ri u_t a1).1, u_M, (s_P_perform29 u_z u_M u_r u_d u_a u_lo u_hi u_ri u_t a1).2, u_d, u_a) := by
  unfold s_P_perform
  simp only [hop]
  rfl
theorem e_P_perform30 (u_z : Nat → Int32) (u_M : Nat → Int32) (u_r : Nat → Int32) (u_d : Nat → Int32) (u_a : Nat → Int32) (u_lo : Nat → Int32) (u_hi : Nat → Int32) (u_ri : Nat → Int32) (u_t : Nat → Int32) (a1 : Int32) (hop : (a1 &&& (31 : Int32)) = (30 : Int32)) : s_P_perform u_z u_M u_r u_d u_a u_lo u_hi u_ri u_t a1 = ((s_P_perform30 u_z u_M u_r u_d u_a u_lo u_hi u_ri u_t a1).1, u_M, (s_P_perform30 u_z u_M u_r u_d u_a u_lo u_hi u_ri u_t a1).2, u_d, u_a) := by
  unfold s_P_perform
  simp only [hop]
  rfl
theorem e_P_perform31 (u_z : Nat → Int32) (u_M : Nat → Int32) (u_r : Nat → Int32) (u_d : Nat → Int32) (u_a : Nat → Int32) (u_lo : Nat → Int32) (u_hi : Nat → Int32) (u_ri : Nat → Int32) (u_t : Nat → Int32) (a1 : Int32) (hop : (a1 &&& (31 : Int32)) = (31 : Int32)) : s_P_perform u_z u_M u_r u_d u_a u_lo u_hi u_ri u_t a1 = ((s_P_perform31 u_z u_M u_r u_d u_a u_lo u_hi u_ri u_t a1), u_M, u_r, u_d, u_a) := by
  unfold s_P_perform
  simp only [hop]
  rfl
theorem bo_C_put (u_z : Nat → Int32) (u_M : Nat → Int32) (u_r : Nat → Int32) (u_d : Nat → Int32) (u_a : Nat → Int32) (u_lo : Nat → Int32) (u_hi : Nat → Int32) (u_ri : Nat → Int32) (u_t : Nat → Int32) (a1 : Int32) (a2 : Int32) : (s_C_put u_z u_M u_r u_d u_a u_lo u_hi u_ri u_t a1 a2).1 = 0 ∨ (s_C_put u_z u_M u_r u_d u_a u_lo u_hi u_ri u_t a1 a2).1 = 1 := by
  unfold s_C_put
  (repeat' split) <;> first | exact Or.inl rfl | exact Or.inr rfl | assumption
theorem bo_C_request (u_z : Nat → Int32) (u_M : Nat → Int32) (u_r : Nat → Int32) (u_d : Nat → Int32) (u_a : Nat → Int32) (u_lo : Nat → Int32) (u_hi : Nat → Int32) (u_ri : Nat → Int32) (u_t : Nat → Int32) (a1 : Int32) : (s_C_request u_z u_M u_r u_d u_a u_lo u_hi u_ri u_t a1).1 = 0 ∨ (s_C_request u_z u_M u_r u_d u_a u_lo u_hi u_ri u_t a1).1 = 1 := by
  unfold s_C_request
  (repeat' split) <;> first | exact Or.inl rfl | exact Or.inr rfl | assumption
theorem bo_C_halt (u_z : Nat → Int32) (u_M : Nat → Int32) (u_r : Nat → Int32) (u_d : Nat → Int32) (u_a : Nat → Int32) (u_lo : Nat → Int32) (u_hi : Nat → Int32) (u_ri : Nat → Int32) (u_t : Nat → Int32) (hrb : u_z 0 = 0 ∨ u_z 0 = 1) : (s_C_halt u_z u_M u_r u_d u_a u_lo u_hi u_ri u_t).1 = 0 ∨ (s_C_halt u_z u_M u_r u_d u_a u_lo u_hi u_ri u_t).1 = 1 := by
  unfold s_C_halt
  (repeat' split) <;> first | exact Or.inl rfl | exact Or.inr rfl | assumption
theorem bo_X_isArea (a1 : Int32) : (s_X_isArea a1) = 0 ∨ (s_X_isArea a1) = 1 := by
  unfold s_X_isArea
  (repeat' split) <;> first | exact Or.inl rfl | exact Or.inr rfl | assumption
theorem bo_X_keepU (v_x : Nat → Int32) (v_M : Nat → Int32) (v_d : Nat → Int32) (v_a : Nat → Int32) (v_o : Nat → Int32) (v_lo : Nat → Int32) (v_hi : Nat → Int32) (v_ri : Nat → Int32) : (s_X_keepU v_x v_M v_d v_a v_o v_lo v_hi v_ri).1 = 0 ∨ (s_X_keepU v_x v_M v_d v_a v_o v_lo v_hi v_ri).1 = 1 := by
  unfold s_X_keepU
  (repeat' split) <;> first | exact Or.inl rfl | exact Or.inr rfl | assumption
theorem bo_X_canBringU (v_x : Nat → Int32) (v_M : Nat → Int32) (v_d : Nat → Int32) (v_a : Nat → Int32) (v_o : Nat → Int32) (v_lo : Nat → Int32) (v_hi : Nat → Int32) (v_ri : Nat → Int32) : (s_X_canBringU v_x v_M v_d v_a v_o v_lo v_hi v_ri).1 = 0 ∨ (s_X_canBringU v_x v_M v_d v_a v_o v_lo v_hi v_ri).1 = 1 := by
  unfold s_X_canBringU
  (repeat' split) <;> first | exact Or.inl rfl | exact Or.inr rfl | assumption | exact zz_ite
theorem bo_X_keepL (v_x : Nat → Int32) (v_M : Nat → Int32) (v_d : Nat → Int32) (v_a : Nat → Int32) (v_o : Nat → Int32) (v_lo : Nat → Int32) (v_hi : Nat → Int32) (v_ri : Nat → Int32) : (s_X_keepL v_x v_M v_d v_a v_o v_lo v_hi v_ri).1 = 0 ∨ (s_X_keepL v_x v_M v_d v_a v_o v_lo v_hi v_ri).1 = 1 := by
  unfold s_X_keepL
  (repeat' split) <;> first | exact Or.inl rfl | exact Or.inr rfl | assumption
theorem bo_X_canBringL (v_x : Nat → Int32) (v_M : Nat → Int32) (v_d : Nat → Int32) (v_a : Nat → Int32) (v_o : Nat → Int32) (v_lo : Nat → Int32) (v_hi : Nat → Int32) (v_ri : Nat → Int32) : (s_X_canBringL v_x v_M v_d v_a v_o v_lo v_hi v_ri).1 = 0 ∨ (s_X_canBringL v_x v_M v_d v_a v_o v_lo v_hi v_ri).1 = 1 := by
  unfold s_X_canBringL
  (repeat' split) <;> first | exact Or.inl rfl | exact Or.inr rfl | assumption | exact zz_ite
theorem bo_X_enter (v_x : Nat → Int32) (v_M : Nat → Int32) (v_d : Nat → Int32) (v_a : Nat → Int32) (v_o : Nat → Int32) (v_lo : Nat → Int32) (v_hi : Nat → Int32) (v_ri : Nat → Int32) (a1 : Int32) (a2 : Int32) : (s_X_enter v_x v_M v_d v_a v_o v_lo v_hi v_ri a1 a2).1 = 0 ∨ (s_X_enter v_x v_M v_d v_a v_o v_lo v_hi v_ri a1 a2).1 = 1 := by
  unfold s_X_enter
  (repeat' split) <;> first | exact Or.inl rfl | exact Or.inr rfl | assumption
theorem bo_X_guarded (v_x : Nat → Int32) (v_M : Nat → Int32) (v_d : Nat → Int32) (v_a : Nat → Int32) (v_o : Nat → Int32) (v_lo : Nat → Int32) (v_hi : Nat → Int32) (v_ri : Nat → Int32) : (s_X_guarded v_x v_M v_d v_a v_o v_lo v_hi v_ri) = 0 ∨ (s_X_guarded v_x v_M v_d v_a v_o v_lo v_hi v_ri) = 1 := by
  unfold s_X_guarded
  (repeat' split) <;> first | exact Or.inl rfl | exact Or.inr rfl | assumption
theorem bo_X_mayR0 (v_x : Nat → Int32) (v_M : Nat → Int32) (v_d : Nat → Int32) (v_a : Nat → Int32) (v_o : Nat → Int32) (v_lo : Nat → Int32) (v_hi : Nat → Int32) (v_ri : Nat → Int32) (a1 : Int32) : (s_X_mayR0 v_x v_M v_d v_a v_o v_lo v_hi v_ri a1).1 = 0 ∨ (s_X_mayR0 v_x v_M v_d v_a v_o v_lo v_hi v_ri a1).1 = 1 := by
  unfold s_X_mayR0
  (repeat' split) <;> first | exact Or.inl rfl | exact Or.inr rfl | assumption
theorem bo_X_mayR1 (v_x : Nat → Int32) (v_M : Nat → Int32) (v_d : Nat → Int32) (v_a : Nat → Int32) (v_o : Nat → Int32) (v_lo : Nat → Int32) (v_hi : Nat → Int32) (v_ri : Nat → Int32) (a1 : Int32) : (s_X_mayR1 v_x v_M v_d v_a v_o v_lo v_hi v_ri a1).1 = 0 ∨ (s_X_mayR1 v_x v_M v_d v_a v_o v_lo v_hi v_ri a1).1 = 1 := by
  unfold s_X_mayR1
  (repeat' split) <;> first | exact Or.inl rfl | exact Or.inr rfl | assumption
theorem bo_X_mayR (v_x : Nat → Int32) (v_M : Nat → Int32) (v_d : Nat → Int32) (v_a : Nat → Int32) (v_o : Nat → Int32) (v_lo : Nat → Int32) (v_hi : Nat → Int32) (v_ri : Nat → Int32) (a1 : Int32) : (s_X_mayR v_x v_M v_d v_a v_o v_lo v_hi v_ri a1).1 = 0 ∨ (s_X_mayR v_x v_M v_d v_a v_o v_lo v_hi v_ri a1).1 = 1 := by
  unfold s_X_mayR
  split
  · exact bo_X_mayR0 ..
  · exact bo_X_mayR1 ..
theorem bo_X_mayW0 (v_x : Nat → Int32) (v_M : Nat → Int32) (v_d : Nat → Int32) (v_a : Nat → Int32) (v_o : Nat → Int32) (v_lo : Nat → Int32) (v_hi : Nat → Int32) (v_ri : Nat → Int32) (a1 : Int32) : (s_X_mayW0 v_x v_M v_d v_a v_o v_lo v_hi v_ri a1).1 = 0 ∨ (s_X_mayW0 v_x v_M v_d v_a v_o v_lo v_hi v_ri a1).1 = 1 := by
  unfold s_X_mayW0
  (repeat' split) <;> first | exact Or.inl rfl | exact Or.inr rfl | assumption
theorem bo_X_mayW1 (v_x : Nat → Int32) (v_M : Nat → Int32) (v_d : Nat → Int32) (v_a : Nat → Int32) (v_o : Nat → Int32) (v_lo : Nat → Int32) (v_hi : Nat → Int32) (v_ri : Nat → Int32) (a1 : Int32) : (s_X_mayW1 v_x v_M v_d v_a v_o v_lo v_hi v_ri a1).1 = 0 ∨ (s_X_mayW1 v_x v_M v_d v_a v_o v_lo v_hi v_ri a1).1 = 1 := by
  unfold s_X_mayW1
  (repeat' split) <;> first | exact Or.inl rfl | exact Or.inr rfl | assumption
theorem bo_X_mayW (v_x : Nat → Int32) (v_M : Nat → Int32) (v_d : Nat → Int32) (v_a : Nat → Int32) (v_o : Nat → Int32) (v_lo : Nat → Int32) (v_hi : Nat → Int32) (v_ri : Nat → Int32) (a1 : Int32) : (s_X_mayW v_x v_M v_d v_a v_o v_lo v_hi v_ri a1).1 = 0 ∨ (s_X_mayW v_x v_M v_d v_a v_o v_lo v_hi v_ri a1).1 = 1 := by
  unfold s_X_mayW
  split
  · exact bo_X_mayW0 ..
  · exact bo_X_mayW1 ..
theorem e_X_instr0 (v_x : Nat → Int32) (v_M : Nat → Int32) (v_d : Nat → Int32) (v_a : Nat → Int32) (v_o : Nat → Int32) (v_lo : Nat → Int32) (v_hi : Nat → Int32) (v_ri : Nat → Int32) (a1 : Int32) (hop : (a1 &&& (31 : Int32)) = (0 : Int32)) : s_X_instr v_x v_M v_d v_a v_o v_lo v_hi v_ri a1 = ((s_X_instr0 v_x v_M v_d v_a v_o v_lo v_hi v_ri a1).1, v_M, v_d, v_a, (s_X_instr0 v_x v_M v_d v_a v_o v_lo v_hi v_ri a1).2) := by
  unfold s_X_instr
  simp only [hop]
  rfl
theorem e_X_instr1 (v_x : Nat → Int32) (v_M : Nat → Int32) (v_d : Nat → Int32) (v_a : Nat → Int32) (v_o : Nat → Int32) (v_lo : Nat → Int32) (v_hi : Nat → Int32) (v_ri : Nat → Int32) (a1 : Int32) (hop : (a1 &&& (31 : Int32)) = (1 : Int32)) : s_X_instr v_x v_M v_d v_a v_o v_lo v_hi v_ri a1 = (v_x, v_M, (s_X_instr1 v_x v_M v_d v_a v_o v_lo v_hi v_ri a1).1, v_a, (s_X_instr1 v_x v_M v_d v_a v_o v_lo v_hi v_ri a1).2) := by
  unfold s_X_instr
  simp only [hop]
  rfl
theorem e_X_instr2 (v_x : Nat → Int32) (v_M : Nat → Int32) (v_d : Nat → Int32) (v_a : Nat → Int32) (v_o : Nat → Int32) (v_lo : Nat → Int32) (v_hi : Nat → Int32) (v_ri : Nat → Int32) (a1 : Int32) (hop : (a1 &&& (31 : Int32)) = (2 : Int32)) : s_X_instr v_x v_M v_d v_a v_o v_lo v_hi v_ri a1 = (v_x, v_M, (s_X_instr2 v_x v_M v_d v_a v_o v_lo v_hi v_ri a1).1, v_a, (s_X_instr2 v_x v_M v_d v_a v_o v_lo v_hi v_ri a1).2) := by
  unfold s_X_instr
  simp only [hop]
  rfl
theorem e_X_instr3 (v_x : Nat → Int32) (v_M : Nat → Int32) (v_d : Nat → Int32) (v_a : Nat → Int32) (v_o : Nat → Int32) (v_lo : Nat → Int32) (v_hi : Nat → Int32) (v_ri : Nat → Int32) (a1 : Int32) (hop : (a1 &&& (31 : Int32)) = (3 : Int32)) : s_X_instr v_x v_M v_d v_a v_o v_lo v_hi v_ri a1 = (v_x, v_M, (s_X_instr3 v_x v_M v_d v_a v_o v_lo v_hi v_ri a1).1, v_a, (s_X_instr3 v_x v_M v_d v_a v_o v_lo v_hi v_ri a1).2) := by
  unfold s_X_instr
  simp only [hop]
  rfl
theorem e_X_instr4 (v_x : Nat → Int32) (v_M : Nat → Int32) (v_d : Nat → Int32) (v_a : Nat → Int32) (v_o : Nat → Int32) (v_lo : Nat → Int32) (v_hi : Nat → Int32) (v_ri : Nat → Int32) (a1 : Int32) (hop : (a1 &&& (31 : Int32)) = (4 : Int32)) : s_X_instr v_x v_M v_d v_a v_o v_lo v_hi v_ri a1 = (v_x, v_M, (s_X_instr4 v_x v_M v_d v_a v_o v_lo v_hi v_ri a1).1, v_a, (s_X_instr4 v_x v_M v_d v_a v_o v_lo v_hi v_ri a1).2) := by
  unfold s_X_instr
  simp only [hop]
  rfl
theorem e_X_instr5 (v_x : Nat → Int32) (v_M : Nat → Int32) (v_d : Nat → Int32) (v_a : Nat → Int32) (v_o : Nat → Int32) (v_lo : Nat → Int32) (v_hi : Nat → Int32) (v_ri : Nat → Int32) (a1 : Int32) (hop : (a1 &&& (31 : Int32)) = (5 : Int32)) : s_X_instr v_x v_M v_d v_a v_o v_lo v_hi v_ri a1 = (v_x, v_M, (s_X_instr5 v_x v_M v_d v_a v_o v_lo v_hi v_ri a1).1, v_a, (s_X_instr5 v_x v_M v_d v_a v_o v_lo v_hi v_ri a1).2) := by
  unfold s_X_instr
  simp only [hop]
  rfl
theorem e_X_instr6 (v_x : Nat → Int32) (v_M : Nat → Int32) (v_d : Nat → Int32) (v_a : Nat → Int32) (v_o : Nat → Int32) (v_lo : Nat → Int32) (v_hi : Nat → Int32) (v_ri : Nat → Int32) (a1 : Int32) (hop : (a1 &&& (31 : Int32)) = (6 : Int32)) : s_X_instr v_x v_M v_d v_a v_o v_lo v_hi v_ri a1 = (v_x, v_M, (s_X_instr6 v_x v_M v_d v_a v_o v_lo v_hi v_ri a1).1, v_a, (s_X_instr6 v_x v_M v_d v_a v_o v_lo v_hi v_ri a1).2) := by
  unfold s_X_instr
  simp only [hop]
  rfl
theorem e_X_instr7 (v_x : Nat → Int32) (v_M : Nat → Int32) (v_d : Nat → Int32) (v_a : Nat → Int32) (v_o : Nat → Int32) (v_lo : Nat → Int32) (v_hi : Nat → Int32) (v_ri : Nat → Int32) (a1 : Int32) (hop : (a1 &&& (31 : Int32)) = (7 : Int32)) : s_X_instr v_x v_M v_d v_a v_o v_lo v_hi v_ri a1 = (v_x, v_M, (s_X_instr7 v_x v_M v_d v_a v_o v_lo v_hi v_ri a1).1, v_a, (s_X_instr7 v_x v_M v_d v_a v_o v_lo v_hi v_ri a1).2) := by
  unfold s_X_instr
  simp only [hop]
  rfl
theorem e_X_instr8 (v_x : Nat → Int32) (v_M : Nat → Int32) (v_d : Nat → Int32) (v_a : Nat → Int32) (v_o : Nat → Int32) (v_lo : Nat → Int32) (v_hi : Nat → Int32) (v_ri : Nat → Int32) (a1 : Int32) (hop : (a1 &&& (31 : Int32)) = (8 : Int32)) : s_X_instr v_x v_M v_d v_a v_o v_lo v_hi v_ri a1 = (v_x, v_M, (s_X_instr8 v_x v_M v_d v_a v_o v_lo v_hi v_ri a1).1, v_a, (s_X_instr8 v_x v_M v_d v_a v_o v_lo v_hi v_ri a1).2) := by
  unfold s_X_instr
  simp only [hop]
  rfl
theorem e_X_instr9 (v_x : Nat → Int32) (v_M : Nat → Int32) (v_d : Nat → Int32) (v_a : Nat → Int32) (v_o : Nat → Int32) (v_lo : Nat → Int32) (v_hi : Nat → Int32) (v_ri : Nat → Int32) (a1 : Int32) (hop : (a1 &&& (31 : Int32)) = (9 : Int32)) : s_X_instr v_x v_M v_d v_a v_o v_lo v_hi v_ri a1 = (v_x, v_M, v_d, (s_X_instr9 v_x v_M v_d v_a v_o v_lo v_hi v_ri a1).1, (s_X_instr9 v_x v_M v_d v_a v_o v_lo v_hi v_ri a1).2) := by
  unfold s_X_instr
  simp only [hop]
  rfl
theorem e_X_instr10 (v_x : Nat → Int32) (v_M : Nat → Int32) (v_d : Nat → Int32) (v_a : Nat → Int32) (v_o : Nat → Int32) (v_lo : Nat → Int32) (v_hi : Nat → Int32) (v_ri : Nat → Int32) (a1 : Int32) (hop : (a1 &&& (31 : Int32)) = (10 : Int32)) : s_X_instr v_x v_M v_d v_a v_o v_lo v_hi v_ri a1 = (v_x, v_M, v_d, (s_X_instr10 v_x v_M v_d v_a v_o v_lo v_hi v_ri a1).1, (s_X_instr10 v_x v_M v_d v_a v_o v_lo v_hi v_ri a1).2) := by
  unfold s_X_instr
  simp only [hop]
  rfl
theorem e_X_instr11 (v_x : Nat → Int32) (v_M : Nat → Int32) (v_d : Nat → Int32) (v_a : Nat → Int32) (v_o : Nat → Int32) (v_lo : Nat → Int32) (v_hi : Nat → Int32) (v_ri : Nat → Int32) (a1 : Int32) (hop : (a1 &&& (31 : Int32)) = (11 : Int32)) : s_X_instr v_x v_M v_d v_a v_o v_lo v_hi v_ri a1 = (v_x, v_M, v_d, (s_X_instr11 v_x v_M v_d v_a v_o v_lo v_hi v_ri a1).1, (s_X_instr11 v_x v_M v_d v_a v_o v_lo v_hi v_ri a1).2) := by
  unfold s_X_instr
  simp only [hop]
  rfl
theorem e_X_instr12 (v_x : Nat → Int32) (v_M : Nat → Int32) (v_d : Nat → Int32) (v_a : Nat → Int32) (v_o : Nat → Int32) (v_lo : Nat → Int32) (v_hi : Nat → Int32) (v_ri : Nat → Int32) (a1 : Int32) (hop : (a1 &&& (31 : Int32)) = (12 : Int32)) : s_X_instr v_x v_M v_d v_a v_o v_lo v_hi v_ri a1 = (v_x, v_M, (s_X_instr12 v_x v_M v_d v_a v_o v_lo v_hi v_ri a1).1, v_a, (s_X_instr12 v_x v_M v_d v_a v_o v_lo v_hi v_ri a1).2) := by
  unfold s_X_instr
  simp only [hop]
  rfl
theorem e_X_instr13 (v_x : Nat → Int32) (v_M : Nat → Int32) (v_d : Nat → Int32) (v_a : Nat → Int32) (v_o : Nat → Int32) (v_lo : Nat → Int32) (v_hi : Nat → Int32) (v_ri : Nat → Int32) (a1 : Int32) (hop : (a1 &&& (31 : Int32)) = (13 : Int32)) : s_X_instr v_x v_M v_d v_a v_o v_lo v_hi v_ri a1 = ((s_X_instr13 v_x v_M v_d v_a v_o v_lo v_hi v_ri a1).1, v_M, (s_X_instr13 v_x v_M v_d v_a v_o v_lo v_hi v_ri a1).2.1, v_a, (s_X_instr13 v_x v_M v_d v_a v_o v_lo v_hi v_ri a1).2.2) := by
  unfold s_X_instr
  simp only [hop]
  rfl
theorem e_X_instr14 (v_x : Nat → Int32) (v_M : Nat → Int32) (v_d : Nat → Int32) (v_a : Nat → Int32) (v_o : Nat → Int32) (v_lo : Nat → Int32) (v_hi : Nat → Int32) (v_ri : Nat → Int32) (a1 : Int32) (hop : (a1 &&& (31 : Int32)) = (14 : Int32)) : s_X_instr v_x v_M v_d v_a v_o v_lo v_hi v_ri a1 = ((s_X_instr14 v_x v_M v_d v_a v_o v_lo v_hi v_ri a1).1, (s_X_instr14 v_x v_M v_d v_a v_o v_lo v_hi v_ri a1).2.1, v_d, v_a, (s_X_instr14 v_x v_M v_d v_a v_o v_lo v_hi v_ri a1).2.2) := by
  unfold s_X_instr
  simp only [hop]
  rfl
theorem e_X_instr15 (v_x : Nat → Int32) (v_M : Nat → Int32) (v_d : Nat → Int32) (v_a : Nat → Int32) (v_o : Nat → Int32) (v_lo : Nat → Int32) (v_hi : Nat → Int32) (v_ri : Nat → Int32) (a1 : Int32) (hop : (a1 &&& (31 : Int32)) = (15 : Int32)) : s_X_instr v_x v_M v_d v_a v_o v_lo v_hi v_ri a1 = ((s_X_instr15 v_x v_M v_d v_a v_o v_lo v_hi v_ri a1).1, v_M, (s_X_instr15 v_x v_M v_d v_a v_o v_lo v_hi v_ri a1).2.1, (s_X_instr15 v_x v_M v_d v_a v_o v_lo v_hi v_ri a1).2.2.1, (s_X_instr15 v_x v_M v_d v_a v_o v_lo v_hi v_ri a1).2.2.2) := by
  unfold s_X_instr
  simp only [hop]
  rfl
theorem e_X_instr16 (v_x : Nat → Int32) (v_M : Nat → Int32) (v_d : Nat → Int32) (v_a : Nat → Int32) (v_o : Nat → Int32) (v_lo : Nat → Int32) (v_hi : Nat → Int32) (v_ri : Nat → Int32) (a1 : Int32) (hop : (a1 &&& (31 : Int32)) = (16 : Int32)) : s_X_instr v_x v_M v_d v_a v_o v_lo v_hi v_ri a1 = ((s_X_instr16 v_x v_M v_d v_a v_o v_lo v_hi v_ri a1).1, (s_X_instr16 v_x v_M v_d v_a v_o v_lo v_hi v_ri a1).2.1, v_d, (s_X_instr16 v_x v_M v_d v_a v_o v_lo v_hi v_ri a1).2.2.1, (s_X_instr16 v_x v_M v_d v_a v_o v_lo v_hi v_ri a1).2.2.2) := by
  unfold s_X_instr
  simp only [hop]
  rfl
theorem e_X_instr17 (v_x : Nat → Int32) (v_M : Nat → Int32) (v_d : Nat → Int32) (v_a : Nat → Int32) (v_o : Nat → Int32) (v_lo : Nat → Int32) (v_hi : Nat → Int32) (v_ri : Nat → Int32) (a1 : Int32) (hop : (a1 &&& (31 : Int32)) = (17 : Int32)) : s_X_instr v_x v_M v_d v_a v_o v_lo v_hi v_ri a1 = ((s_X_instr17 v_x v_M v_d v_a v_o v_lo v_hi v_ri a1).1, v_M, (s_X_instr17 v_x v_M v_d v_a v_o v_lo v_hi v_ri a1).2.1, (s_X_instr17 v_x v_M v_d v_a v_o v_lo v_hi v_ri a1).2.2.1, (s_X_instr17 v_x v_M v_d v_a v_o v_lo v_hi v_ri a1).2.2.2) := by
  unfold s_X_instr
  simp only [hop]
  rfl
theorem e_X_instr18 (v_x : Nat → Int32) (v_M : Nat → Int32) (v_d : Nat → Int32) (v_a : Nat → Int32) (v_o : Nat → Int32) (v_lo : Nat → Int32) (v_hi : Nat → Int32) (v_ri : Nat → Int32) (a1 : Int32) (hop : (a1 &&& (31 : Int32)) = (18 : Int32)) : s_X_instr v_x v_M v_d v_a v_o v_lo v_hi v_ri a1 = (v_x, v_M, v_d, v_a, (s_X_instr18 v_x v_M v_d v_a v_o v_lo v_hi v_ri a1)) := by
  unfold s_X_instr
  simp only [hop]
  rfl
theorem e_X_instr19 (v_x : Nat → Int32) (v_M : Nat → Int32) (v_d : Nat → Int32) (v_a : Nat → Int32) (v_o : Nat → Int32) (v_lo : Nat → Int32) (v_hi : Nat → Int32) (v_ri : Nat → Int32) (a1 : Int32) (hop : (a1 &&& (31 : Int32)) = (19 : Int32)) : s_X_instr v_x v_M v_d v_a v_o v_lo v_hi v_ri a1 = (v_x, v_M, v_d, v_a, (s_X_instr19 v_x v_M v_d v_a v_o v_lo v_hi v_ri a1)) := by
  unfold s_X_instr
  simp only [hop]
  rfl
theorem e_X_instr20 (v_x : Nat → Int32) (v_M : Nat → Int32) (v_d : Nat → Int32) (v_a : Nat → Int32) (v_o : Nat → Int32) (v_lo : Nat → Int32) (v_hi : Nat → Int32) (v_ri : Nat → Int32) (a1 : Int32) (hop : (a1 &&& (31 : Int32)) = (20 : Int32)) : s_X_instr v_x v_M v_d v_a v_o v_lo v_hi v_ri a1 = (v_x, v_M, v_d, v_a, (s_X_instr20 v_x v_M v_d v_a v_o v_lo v_hi v_ri a1)) := by
  unfold s_X_instr
  simp only [hop]
  rfl
theorem e_X_instr21 (v_x : Nat → Int32) (v_M : Nat → Int32) (v_d : Nat → Int32) (v_a : Nat → Int32) (v_o : Nat → Int32) (v_lo : Nat → Int32) (v_hi : Nat → Int32) (v_ri : Nat → Int32) (a1 : Int32) (hop : (a1 &&& (31 : Int32)) = (21 : Int32)) : s_X_instr v_x v_M v_d v_a v_o v_lo v_hi v_ri a1 = ((s_X_instr21 v_x v_M v_d v_a v_o v_lo v_hi v_ri a1).1, (s_X_instr21 v_x v_M v_d v_a v_o v_lo v_hi v_ri a1).2.1, v_d, (s_X_instr21 v_x v_M v_d v_a v_o v_lo v_hi v_ri a1).2.2.1, (s_X_instr21 v_x v_M v_d v_a v_o v_lo v_hi v_ri a1).2.2.2) := by
  unfold s_X_instr
  simp only [hop]
  rfl
theorem e_X_instr22 (v_x : Nat → Int32) (v_M : Nat → Int32) (v_d : Nat → Int32) (v_a : Nat → Int32) (v_o : Nat → Int32) (v_lo : Nat → Int32) (v_hi : Nat → Int32) (v_ri : Nat → Int32) (a1 : Int32) (hop : (a1 &&& (31 : Int32)) = (22 : Int32)) : s_X_instr v_x v_M v_d v_a v_o v_lo v_hi v_ri a1 = ((s_X_instr22 v_x v_M v_d v_a v_o v_lo v_hi v_ri a1).1, (s_X_instr22 v_x v_M v_d v_a v_o v_lo v_hi v_ri a1).2.1, (s_X_instr22 v_x v_M v_d v_a v_o v_lo v_hi v_ri a1).2.2.1, (s_X_instr22 v_x v_M v_d v_a v_o v_lo v_hi v_ri a1).2.2.2.1, (s_X_instr22 v_x v_M v_d v_a v_o v_lo v_hi v_ri a1).2.2.2.2) := by
  unfold s_X_instr
  simp only [hop]
  rfl
theorem e_X_instr23 (v_x : Nat → Int32) (v_M : Nat → Int32) (v_d : Nat → Int32) (v_a : Nat → Int32) (v_o : Nat → Int32) (v_lo : Nat → Int32) (v_hi : Nat → Int32) (v_ri : Nat → Int32) (a1 : Int32) (hop : (a1 &&& (31 : Int32)) = (23 : Int32)) : s_X_instr v_x v_M v_d v_a v_o v_lo v_hi v_ri a1 = ((s_X_instr23 v_x v_M v_d v_a v_o v_lo v_hi v_ri a1).1, (s_X_instr23 v_x v_M v_d v_a v_o v_lo v_hi v_ri a1).2.1, v_d, v_a, (s_X_instr23 v_x v_M v_d v_a v_o v_lo v_hi v_ri a1).2.2) := by
  unfold s_X_instr
  simp only [hop]
  rfl
theorem e_X_instr24 (v_x : Nat → Int32) (v_M : Nat → Int32) (v_d : Nat → Int32) (v_a : Nat → Int32) (v_o : Nat → Int32) (v_lo : Nat → Int32) (v_hi : Nat → Int32) (v_ri : Nat → Int32) (a1 : Int32) (hop : (a1 &&& (31 : Int32)) = (24 : Int32)) : s_X_instr v_x v_M v_d v_a v_o v_lo v_hi v_ri a1 = ((s_X_instr24 v_x v_M v_d v_a v_o v_lo v_hi v_ri a1).1, (s_X_instr24 v_x v_M v_d v_a v_o v_lo v_hi v_ri a1).2.1, (s_X_instr24 v_x v_M v_d v_a v_o v_lo v_hi v_ri a1).2.2.1, (s_X_instr24 v_x v_M v_d v_a v_o v_lo v_hi v_ri a1).2.2.2.1, (s_X_instr24 v_x v_M v_d v_a v_o v_lo v_hi v_ri a1).2.2.2.2) := by
  unfold s_X_instr
  simp only [hop]
  rfl
theorem e_X_instr25 (v_x : Nat → Int32) (v_M : Nat → Int32) (v_d : Nat → Int32) (v_a : Nat → Int32) (v_o : Nat → Int32) (v_lo : Nat → Int32) (v_hi : Nat → Int32) (v_ri : Nat → Int32) (a1 : Int32) (hop : (a1 &&& (31 : Int32)) = (25 : Int32)) : s_X_instr v_x v_M v_d v_a v_o v_lo v_hi v_ri a1 = ((s_X_instr25 v_x v_M v_d v_a v_o v_lo v_hi v_ri a1).1, (s_X_instr25 v_x v_M v_d v_a v_o v_lo v_hi v_ri a1).2.1, v_d, v_a, (s_X_instr25 v_x v_M v_d v_a v_o v_lo v_hi v_ri a1).2.2) := by
  unfold s_X_instr
  simp only [hop]
  rfl
theorem e_X_instr26 (v_x : Nat → Int32) (v_M : Nat → Int32) (v_d : Nat → Int32) (v_a : Nat → Int32) (v_o : Nat → Int32) (v_lo : Nat → Int32) (v_hi : Nat → Int32) (v_ri : Nat → Int32) (a1 : Int32) (hop : (a1 &&& (31 : Int32)) = (26 : Int32)) : s_X_instr v_x v_M v_d v_a v_o v_lo v_hi v_ri a1 = ((s_X_instr26 v_x v_M v_d v_a v_o v_lo v_hi v_ri a1).1, (s_X_instr26 v_x v_M v_d v_a v_o v_lo v_hi v_ri a1).2.1, (s_X_instr26 v_x v_M v_d v_a v_o v_lo v_hi v_ri a1).2.2.1, (s_X_instr26 v_x v_M v_d v_a v_o v_lo v_hi v_ri a1).2.2.2.1, (s_X_instr26 v_x v_M v_d v_a v_o v_lo v_hi v_ri a1).2.2.2.2) := by
  unfold s_X_instr
  simp only [hop]
  rfl
theorem e_X_instr27 (v_x : Nat → Int32) (v_M : Nat → Int32) (v_d : Nat → Int32) (v_a : Nat → Int32) (v_o : Nat → Int32) (v_lo : Nat → Int32) (v_hi : Nat → Int32) (v_ri : Nat → Int32) (a1 : Int32) (hop : (a1 &&& (31 : Int32)) = (27 : Int32)) : s_X_instr v_x v_M v_d v_a v_o v_lo v_hi v_ri a1 = ((s_X_instr27 v_x v_M v_d v_a v_o v_lo v_hi v_ri a1).1, v_M, v_d, v_a, (s_X_instr27 v_x v_M v_d v_a v_o v_lo v_hi v_ri a1).2) := by
  unfold s_X_instr
  simp only [hop]
  rfl
theorem e_X_instr28 (v_x : Nat → Int32) (v_M : Nat → Int32) (v_d : Nat → Int32) (v_a : Nat → Int32) (v_o : Nat → Int32) (v_lo : Nat → Int32) (v_hi : Nat → Int32) (v_ri : Nat → Int32) (a1 : Int32) (hop : (a1 &&& (31 : Int32)) = (28 : Int32)) : s_X_instr v_x v_M v_d v_a v_o v_lo v_hi v_ri a1 = ((s_X_instr28 v_x v_M v_d v_a v_o v_lo v_hi v_ri a1).1, v_M, v_d, v_a, (s_X_instr28 v_x v_M v_d v_a v_o v_lo v_hi v_ri a1).2) := by
  unfold s_X_instr
  simp only [hop]
  rfl
theorem e_X_instr29 (v_x : Nat → Int32) (v_M : Nat → Int32) (v_d : Nat → Int32) (v_a : Nat → Int32) (v_o : Nat → Int32) (v_lo : Nat → Int32) (v_hi : Nat → Int32) (v_ri : Nat → Int32) (a1 : Int32) (hop : (a1 &&& (31 : Int32)) = (29 : Int32)) : s_X_instr v_x v_M v_d v_a v_o v_lo v_hi v_ri a1 = ((s_X_instr29 v_x v_M v_d v_a v_o v_lo v_hi v_ri a1).1, v_M, v_d, v_a, (s_X_instr29 v_x v_M v_d v_a v_o v_lo v_hi v_ri a1).2) := by
  unfold s_X_instr
  simp only [hop]
  rfl
theorem e_X_instr30 (v_x : Nat → Int32) (v_M : Nat → Int32) (v_d : Nat → Int32) (v_a : Nat → Int32) (v_o : Nat → Int32) (v_lo : Nat → Int32) (v_hi : Nat → Int32) (v_ri : Nat → Int32) (a1 : Int32) (hop : (a1 &&& (31 : Int32)) = (30 : Int32)) : s_X_instr v_x v_M v_d v_a v_o v_lo v_hi v_ri a1 = ((s_X_instr30 v_x v_M v_d v_a v_o v_lo v_hi v_ri a1).1, v_M, v_d, v_a, (s_X_instr30 v_x v_M v_d v_a v_o v_lo v_hi v_ri a1).2) := by
  unfold s_X_instr
  simp only [hop]
  rfl
theorem e_X_instr31 (v_x : Nat → Int32) (v_M : Nat → Int32) (v_d : Nat → Int32) (v_a : Nat → Int32) (v_o : Nat → Int32) (v_lo : Nat → Int32) (v_hi : Nat → Int32) (v_ri : Nat → Int32) (a1 : Int32) (hop : (a1 &&& (31 : Int32)) = (31 : Int32)) : s_X_instr v_x v_M v_d v_a v_o v_lo v_hi v_ri a1 = ((s_X_instr31 v_x v_M v_d v_a v_o v_lo v_hi v_ri a1).1, v_M, v_d, v_a, (s_X_instr31 v_x v_M v_d v_a v_o v_lo v_hi v_ri a1).2) := by
  unfold s_X_instr
  simp only [hop]
  rfl
theorem bo_X_put (v_x : Nat → Int32) (v_M : Nat → Int32) (v_d : Nat → Int32) (v_a : Nat → Int32) (v_o : Nat → Int32) (v_lo : Nat → Int32) (v_hi : Nat → Int32) (v_ri : Nat → Int32) (a1 : Int32) (a2 : Int32) : (s_X_put v_x v_M v_d v_a v_o v_lo v_hi v_ri a1 a2).1 = 0 ∨ (s_X_put v_x v_M v_d v_a v_o v_lo v_hi v_ri a1 a2).1 = 1 := by
  unfold s_X_put
  (repeat' split) <;> first | exact Or.inl rfl | exact Or.inr rfl | assumption
theorem bo_X_request (v_x : Nat → Int32) (v_M : Nat → Int32) (v_d : Nat → Int32) (v_a : Nat → Int32) (v_o : Nat → Int32) (v_lo : Nat → Int32) (v_hi : Nat → Int32) (v_ri : Nat → Int32) (a1 : Int32) : (s_X_request v_x v_M v_d v_a v_o v_lo v_hi v_ri a1).1 = 0 ∨ (s_X_request v_x v_M v_d v_a v_o v_lo v_hi v_ri a1).1 = 1 := by
  unfold s_X_request
  (repeat' split) <;> first | exact Or.inl rfl | exact Or.inr rfl | assumption
theorem bo_X_halt (v_x : Nat → Int32) (v_M : Nat → Int32) (v_d : Nat → Int32) (v_a : Nat → Int32) (v_o : Nat → Int32) (v_lo : Nat → Int32) (v_hi : Nat → Int32) (v_ri : Nat → Int32) (hrb : v_x 7 = 0 ∨ v_x 7 = 1) : (s_X_halt v_x v_M v_d v_a v_o v_lo v_hi v_ri).1 = 0 ∨ (s_X_halt v_x v_M v_d v_a v_o v_lo v_hi v_ri).1 = 1 := by
  unfold s_X_halt
  (repeat' split) <;> first | exact Or.inl rfl | exact Or.inr rfl | assumption
end
section
theorem d_G_change_0 : decode b_G_change 0 = .ok (.aload_n 0, 1) := by decide +kernel
theorem d_G_change_1 : decode b_G_change 1 = .ok (.getfield 9, 3) := by decide +kernel
theorem d_G_change_4 : decode b_G_change 4 = .ok (.iload_n 1, 1) := by decide +kernel
theorem d_G_change_5 : decode b_G_change 5 = .ok (.iload_n 2, 1) := by decide +kernel
theorem d_G_change_6 : decode b_G_change 6 = .ok (.iastore, 1) := by decide +kernel
theorem d_G_change_7 : decode b_G_change 7 = .ok (.aload_n 0, 1) := by decide +kernel
theorem d_G_change_8 : decode b_G_change 8 = .ok (.getfield 15, 3) := by decide +kernel
theorem d_G_change_11 : decode b_G_change 11 = .ok (.iload_n 1, 1) := by decide +kernel
theorem d_G_change_12 : decode b_G_change 12 = .ok (.iload_n 3, 1) := by decide +kernel
theorem d_G_change_13 : decode b_G_change 13 = .ok (.iastore, 1) := by decide +kernel
theorem d_G_change_14 : decode b_G_change 14 = .ok (.aload_n 0, 1) := by decide +kernel
theorem d_G_change_15 : decode b_G_change 15 = .ok (.getfield 18, 3) := by decide +kernel
theorem d_G_change_18 : decode b_G_change 18 = .ok (.iload_n 1, 1) := by decide +kernel
theorem d_G_change_19 : decode b_G_change 19 = .ok (.iload 4, 2) := by decide +kernel
theorem d_G_change_21 : decode b_G_change 21 = .ok (.iastore, 1) := by decide +kernel
theorem d_G_change_22 : decode b_G_change 22 = .ok (.return_, 1) := by decide +kernel
theorem d_G_covers_0 : decode b_G_covers 0 = .ok (.iload_n 2, 1) := by decide +kernel
theorem d_G_covers_1 : decode b_G_covers 1 = .ok (.aload_n 0, 1) := by decide +kernel
theorem d_G_covers_2 : decode b_G_covers 2 = .ok (.getfield 9, 3) := by decide +kernel
theorem d_G_covers_5 : decode b_G_covers 5 = .ok (.iload_n 1, 1) := by decide +kernel
theorem d_G_covers_6 : decode b_G_covers 6 = .ok (.iaload, 1) := by decide +kernel
theorem d_G_covers_7 : decode b_G_covers 7 = .ok (.if_icmp .lt 17, 3) := by decide +kernel
theorem d_G_covers_10 : decode b_G_covers 10 = .ok (.iload_n 2, 1) := by decide +kernel
theorem d_G_covers_11 : decode b_G_covers 11 = .ok (.aload_n 0, 1) := by decide +kernel
theorem d_G_covers_12 : decode b_G_covers 12 = .ok (.getfield 15, 3) := by decide +kernel
theorem d_G_covers_15 : decode b_G_covers 15 = .ok (.iload_n 1, 1) := by decide +kernel
theorem d_G_covers_16 : decode b_G_covers 16 = .ok (.iaload, 1) := by decide +kernel
theorem d_G_covers_17 : decode b_G_covers 17 = .ok (.if_icmp .ge 7, 3) := by decide +kernel
theorem d_G_covers_20 : decode b_G_covers 20 = .ok (.iconst 1, 1) := by decide +kernel
theorem d_G_covers_21 : decode b_G_covers 21 = .ok (.goto 4, 3) := by decide +kernel
theorem d_G_covers_24 : decode b_G_covers 24 = .ok (.iconst 0, 1) := by decide +kernel
theorem d_G_covers_25 : decode b_G_covers 25 = .ok (.ireturn, 1) := by decide +kernel
theorem d_G_letsRun_0 : decode b_G_letsRun 0 = .ok (.aload_n 0, 1) := by decide +kernel
theorem d_G_letsRun_1 : decode b_G_letsRun 1 = .ok (.iload_n 1, 1) := by decide +kernel
theorem d_G_letsRun_2 : decode b_G_letsRun 2 = .ok (.iconst 3, 1) := by decide +kernel
theorem d_G_letsRun_3 : decode b_G_letsRun 3 = .ok (.imul, 1) := by decide +kernel
theorem d_G_letsRun_4 : decode b_G_letsRun 4 = .ok (.iconst 2, 1) := by decide +kernel
theorem d_G_letsRun_5 : decode b_G_letsRun 5 = .ok (.iadd, 1) := by decide +kernel
theorem d_G_letsRun_6 : decode b_G_letsRun 6 = .ok (.iload_n 2, 1) := by decide +kernel
theorem d_G_letsRun_7 : decode b_G_letsRun 7 = .ok (.invokevirtual 21, 3) := by decide +kernel
theorem d_G_letsRun_10 : decode b_G_letsRun 10 = .ok (.ireturn, 1) := by decide +kernel
theorem d_G_letsUse_0 : decode b_G_letsUse 0 = .ok (.iconst 0, 1) := by decide +kernel
theorem d_G_letsUse_1 : decode b_G_letsUse 1 = .ok (.istore 4, 2) := by decide +kernel
theorem d_G_letsUse_3 : decode b_G_letsUse 3 = .ok (.iload 4, 2) := by decide +kernel
theorem d_G_letsUse_5 : decode b_G_letsUse 5 = .ok (.iconst 2, 1) := by decide +kernel
theorem d_G_letsUse_6 : decode b_G_letsUse 6 = .ok (.if_icmp .ge 41, 3) := by decide +kernel
theorem d_G_letsUse_9 : decode b_G_letsUse 9 = .ok (.iload_n 1, 1) := by decide +kernel
theorem d_G_letsUse_10 : decode b_G_letsUse 10 = .ok (.iconst 3, 1) := by decide +kernel
theorem d_G_letsUse_11 : decode b_G_letsUse 11 = .ok (.imul, 1) := by decide +kernel
theorem d_G_letsUse_12 : decode b_G_letsUse 12 = .ok (.iload 4, 2) := by decide +kernel
theorem d_G_letsUse_14 : decode b_G_letsUse 14 = .ok (.iadd, 1) := by decide +kernel
theorem d_G_letsUse_15 : decode b_G_letsUse 15 = .ok (.istore 5, 2) := by decide +kernel
theorem d_G_letsUse_17 : decode b_G_letsUse 17 = .ok (.aload_n 0, 1) := by decide +kernel
theorem d_G_letsUse_18 : decode b_G_letsUse 18 = .ok (.iload 5, 2) := by decide +kernel
theorem d_G_letsUse_20 : decode b_G_letsUse 20 = .ok (.iload_n 2, 1) := by decide +kernel
theorem d_G_letsUse_21 : decode b_G_letsUse 21 = .ok (.invokevirtual 21, 3) := by decide +kernel
theorem d_G_letsUse_24 : decode b_G_letsUse 24 = .ok (.ifCond .eq 17, 3) := by decide +kernel
theorem d_G_letsUse_27 : decode b_G_letsUse 27 = .ok (.aload_n 0, 1) := by decide +kernel
theorem d_G_letsUse_28 : decode b_G_letsUse 28 = .ok (.getfield 18, 3) := by decide +kernel
theorem d_G_letsUse_31 : decode b_G_letsUse 31 = .ok (.iload 5, 2) := by decide +kernel
theorem d_G_letsUse_33 : decode b_G_letsUse 33 = .ok (.iaload, 1) := by decide +kernel
theorem d_G_letsUse_34 : decode b_G_letsUse 34 = .ok (.iload_n 3, 1) := by decide +kernel
theorem d_G_letsUse_35 : decode b_G_letsUse 35 = .ok (.iand, 1) := by decide +kernel
theorem d_G_letsUse_36 : decode b_G_letsUse 36 = .ok (.ifCond .eq 5, 3) := by decide +kernel
theorem d_G_letsUse_39 : decode b_G_letsUse 39 = .ok (.iconst 1, 1) := by decide +kernel
theorem d_G_letsUse_40 : decode b_G_letsUse 40 = .ok (.ireturn, 1) := by decide +kernel
theorem d_G_letsUse_41 : decode b_G_letsUse 41 = .ok (.iinc 4 1, 3) := by decide +kernel
theorem d_G_letsUse_44 : decode b_G_letsUse 44 = .ok (.goto (-41), 3) := by decide +kernel
theorem d_G_letsUse_47 : decode b_G_letsUse 47 = .ok (.iconst 0, 1) := by decide +kernel
theorem d_G_letsUse_48 : decode b_G_letsUse 48 = .ok (.ireturn, 1) := by decide +kernel
theorem d_M_areaStart_0 : decode b_M_areaStart 0 = .ok (.sipush 256, 3) := by decide +kernel
theorem d_M_areaStart_3 : decode b_M_areaStart 3 = .ok (.bipush 8, 2) := by decide +kernel
theorem d_M_areaStart_5 : decode b_M_areaStart 5 = .ok (.iload_n 0, 1) := by decide +kernel
theorem d_M_areaStart_6 : decode b_M_areaStart 6 = .ok (.iconst 1, 1) := by decide +kernel
theorem d_M_areaStart_7 : decode b_M_areaStart 7 = .ok (.isub, 1) := by decide +kernel
theorem d_M_areaStart_8 : decode b_M_areaStart 8 = .ok (.imul, 1) := by decide +kernel
theorem d_M_areaStart_9 : decode b_M_areaStart 9 = .ok (.iadd, 1) := by decide +kernel
theorem d_M_areaStart_10 : decode b_M_areaStart 10 = .ok (.ireturn, 1) := by decide +kernel
theorem d_M_chainAreas_0 : decode b_M_chainAreas 0 = .ok (.iconst 1, 1) := by decide +kernel
theorem d_M_chainAreas_1 : decode b_M_chainAreas 1 = .ok (.istore_n 2, 1) := by decide +kernel
theorem d_M_chainAreas_2 : decode b_M_chainAreas 2 = .ok (.iload_n 2, 1) := by decide +kernel
theorem d_M_chainAreas_3 : decode b_M_chainAreas 3 = .ok (.iload_n 1, 1) := by decide +kernel
theorem d_M_chainAreas_4 : decode b_M_chainAreas 4 = .ok (.if_icmp .gt 29, 3) := by decide +kernel
theorem d_M_chainAreas_7 : decode b_M_chainAreas 7 = .ok (.aload_n 0, 1) := by decide +kernel
theorem d_M_chainAreas_8 : decode b_M_chainAreas 8 = .ok (.iload_n 2, 1) := by decide +kernel
theorem d_M_chainAreas_9 : decode b_M_chainAreas 9 = .ok (.invokestatic 19, 3) := by decide +kernel
theorem d_M_chainAreas_12 : decode b_M_chainAreas 12 = .ok (.iload_n 2, 1) := by decide +kernel
theorem d_M_chainAreas_13 : decode b_M_chainAreas 13 = .ok (.iload_n 1, 1) := by decide +kernel
theorem d_M_chainAreas_14 : decode b_M_chainAreas 14 = .ok (.if_icmp .ne 7, 3) := by decide +kernel
theorem d_M_chainAreas_17 : decode b_M_chainAreas 17 = .ok (.iconst 0, 1) := by decide +kernel
theorem d_M_chainAreas_18 : decode b_M_chainAreas 18 = .ok (.goto 6, 3) := by decide +kernel
theorem d_M_chainAreas_21 : decode b_M_chainAreas 21 = .ok (.iload_n 2, 1) := by decide +kernel
theorem d_M_chainAreas_22 : decode b_M_chainAreas 22 = .ok (.iconst 1, 1) := by decide +kernel
theorem d_M_chainAreas_23 : decode b_M_chainAreas 23 = .ok (.iadd, 1) := by decide +kernel
theorem d_M_chainAreas_24 : decode b_M_chainAreas 24 = .ok (.invokevirtual 23, 3) := by decide +kernel
theorem d_M_chainAreas_27 : decode b_M_chainAreas 27 = .ok (.iinc 2 1, 3) := by decide +kernel
theorem d_M_chainAreas_30 : decode b_M_chainAreas 30 = .ok (.goto (-28), 3) := by decide +kernel
theorem d_M_chainAreas_33 : decode b_M_chainAreas 33 = .ok (.return_, 1) := by decide +kernel
theorem d_M_countAreas_0 : decode b_M_countAreas 0 = .ok (.iload_n 1, 1) := by decide +kernel
theorem d_M_countAreas_1 : decode b_M_countAreas 1 = .ok (.bipush 31, 2) := by decide +kernel
theorem d_M_countAreas_3 : decode b_M_countAreas 3 = .ok (.iand, 1) := by decide +kernel
theorem d_M_countAreas_4 : decode b_M_countAreas 4 = .ok (.istore_n 2, 1) := by decide +kernel
theorem d_M_countAreas_5 : decode b_M_countAreas 5 = .ok (.iconst 0, 1) := by decide +kernel
theorem d_M_countAreas_6 : decode b_M_countAreas 6 = .ok (.istore_n 3, 1) := by decide +kernel
theorem d_M_countAreas_7 : decode b_M_countAreas 7 = .ok (.iload_n 3, 1) := by decide +kernel
theorem d_M_countAreas_8 : decode b_M_countAreas 8 = .ok (.bipush 32, 2) := by decide +kernel
theorem d_M_countAreas_10 : decode b_M_countAreas 10 = .ok (.if_icmp .ge 28, 3) := by decide +kernel
theorem d_M_countAreas_13 : decode b_M_countAreas 13 = .ok (.iload_n 2, 1) := by decide +kernel
theorem d_M_countAreas_14 : decode b_M_countAreas 14 = .ok (.invokestatic 27, 3) := by decide +kernel
theorem d_M_countAreas_17 : decode b_M_countAreas 17 = .ok (.ifCond .eq 21, 3) := by decide +kernel
theorem d_M_countAreas_20 : decode b_M_countAreas 20 = .ok (.iinc 3 1, 3) := by decide +kernel
theorem d_M_countAreas_23 : decode b_M_countAreas 23 = .ok (.aload_n 0, 1) := by decide +kernel
theorem d_M_countAreas_24 : decode b_M_countAreas 24 = .ok (.iload_n 2, 1) := by decide +kernel
theorem d_M_countAreas_25 : decode b_M_countAreas 25 = .ok (.invokestatic 19, 3) := by decide +kernel
theorem d_M_countAreas_28 : decode b_M_countAreas 28 = .ok (.invokevirtual 30, 3) := by decide +kernel
theorem d_M_countAreas_31 : decode b_M_countAreas 31 = .ok (.bipush 31, 2) := by decide +kernel
theorem d_M_countAreas_33 : decode b_M_countAreas 33 = .ok (.iand, 1) := by decide +kernel
theorem d_M_countAreas_34 : decode b_M_countAreas 34 = .ok (.istore_n 2, 1) := by decide +kernel
theorem d_M_countAreas_35 : decode b_M_countAreas 35 = .ok (.goto (-28), 3) := by decide +kernel
theorem d_M_countAreas_38 : decode b_M_countAreas 38 = .ok (.iload_n 3, 1) := by decide +kernel
theorem d_M_countAreas_39 : decode b_M_countAreas 39 = .ok (.ireturn, 1) := by decide +kernel
theorem d_M_has_0 : decode b_M_has 0 = .ok (.iload_n 0, 1) := by decide +kernel
theorem d_M_has_1 : decode b_M_has 1 = .ok (.ifCond .lt 14, 3) := by decide +kernel
theorem d_M_has_4 : decode b_M_has 4 = .ok (.iload_n 0, 1) := by decide +kernel
theorem d_M_has_5 : decode b_M_has 5 = .ok (.sipush 512, 3) := by decide +kernel
theorem d_M_has_8 : decode b_M_has 8 = .ok (.if_icmp .ge 7, 3) := by decide +kernel
theorem d_M_has_11 : decode b_M_has 11 = .ok (.iconst 1, 1) := by decide +kernel
theorem d_M_has_12 : decode b_M_has 12 = .ok (.goto 4, 3) := by decide +kernel
theorem d_M_has_15 : decode b_M_has 15 = .ok (.iconst 0, 1) := by decide +kernel
theorem d_M_has_16 : decode b_M_has 16 = .ok (.ireturn, 1) := by decide +kernel
theorem d_M_isArea_0 : decode b_M_isArea 0 = .ok (.iload_n 0, 1) := by decide +kernel
theorem d_M_isArea_1 : decode b_M_isArea 1 = .ok (.iconst 1, 1) := by decide +kernel
theorem d_M_isArea_2 : decode b_M_isArea 2 = .ok (.if_icmp .lt 13, 3) := by decide +kernel
theorem d_M_isArea_5 : decode b_M_isArea 5 = .ok (.iload_n 0, 1) := by decide +kernel
theorem d_M_isArea_6 : decode b_M_isArea 6 = .ok (.bipush 24, 2) := by decide +kernel
theorem d_M_isArea_8 : decode b_M_isArea 8 = .ok (.if_icmp .gt 7, 3) := by decide +kernel
theorem d_M_isArea_11 : decode b_M_isArea 11 = .ok (.iconst 1, 1) := by decide +kernel
theorem d_M_isArea_12 : decode b_M_isArea 12 = .ok (.goto 4, 3) := by decide +kernel
theorem d_M_isArea_15 : decode b_M_isArea 15 = .ok (.iconst 0, 1) := by decide +kernel
theorem d_M_isArea_16 : decode b_M_isArea 16 = .ok (.ireturn, 1) := by decide +kernel
theorem d_M_read_0 : decode b_M_read 0 = .ok (.iload_n 1, 1) := by decide +kernel
theorem d_M_read_1 : decode b_M_read 1 = .ok (.invokestatic 15, 3) := by decide +kernel
theorem d_M_read_4 : decode b_M_read 4 = .ok (.ifCond .eq 12, 3) := by decide +kernel
theorem d_M_read_7 : decode b_M_read 7 = .ok (.aload_n 0, 1) := by decide +kernel
theorem d_M_read_8 : decode b_M_read 8 = .ok (.getfield 9, 3) := by decide +kernel
theorem d_M_read_11 : decode b_M_read 11 = .ok (.iload_n 1, 1) := by decide +kernel
theorem d_M_read_12 : decode b_M_read 12 = .ok (.iaload, 1) := by decide +kernel
theorem d_M_read_13 : decode b_M_read 13 = .ok (.goto 4, 3) := by decide +kernel
theorem d_M_read_16 : decode b_M_read 16 = .ok (.iconst 0, 1) := by decide +kernel
theorem d_M_read_17 : decode b_M_read 17 = .ok (.ireturn, 1) := by decide +kernel
theorem d_M_write_0 : decode b_M_write 0 = .ok (.iload_n 1, 1) := by decide +kernel
theorem d_M_write_1 : decode b_M_write 1 = .ok (.invokestatic 15, 3) := by decide +kernel
theorem d_M_write_4 : decode b_M_write 4 = .ok (.ifCond .eq 10, 3) := by decide +kernel
theorem d_M_write_7 : decode b_M_write 7 = .ok (.aload_n 0, 1) := by decide +kernel
theorem d_M_write_8 : decode b_M_write 8 = .ok (.getfield 9, 3) := by decide +kernel
theorem d_M_write_11 : decode b_M_write 11 = .ok (.iload_n 1, 1) := by decide +kernel
theorem d_M_write_12 : decode b_M_write 12 = .ok (.iload_n 2, 1) := by decide +kernel
theorem d_M_write_13 : decode b_M_write 13 = .ok (.iastore, 1) := by decide +kernel
theorem d_M_write_14 : decode b_M_write 14 = .ok (.return_, 1) := by decide +kernel
theorem d_R_begin_0 : decode b_R_begin 0 = .ok (.aload_n 0, 1) := by decide +kernel
theorem d_R_begin_1 : decode b_R_begin 1 = .ok (.iload_n 1, 1) := by decide +kernel
theorem d_R_begin_2 : decode b_R_begin 2 = .ok (.putfield 28, 3) := by decide +kernel
theorem d_R_begin_5 : decode b_R_begin 5 = .ok (.aload_n 0, 1) := by decide +kernel
theorem d_R_begin_6 : decode b_R_begin 6 = .ok (.iload_n 2, 1) := by decide +kernel
theorem d_R_begin_7 : decode b_R_begin 7 = .ok (.putfield 18, 3) := by decide +kernel
theorem d_R_begin_10 : decode b_R_begin 10 = .ok (.aload_n 0, 1) := by decide +kernel
theorem d_R_begin_11 : decode b_R_begin 11 = .ok (.iconst 0, 1) := by decide +kernel
theorem d_R_begin_12 : decode b_R_begin 12 = .ok (.putfield 22, 3) := by decide +kernel
theorem d_R_begin_15 : decode b_R_begin 15 = .ok (.aload_n 0, 1) := by decide +kernel
theorem d_R_begin_16 : decode b_R_begin 16 = .ok (.iconst 0, 1) := by decide +kernel
theorem d_R_begin_17 : decode b_R_begin 17 = .ok (.putfield 25, 3) := by decide +kernel
theorem d_R_begin_20 : decode b_R_begin 20 = .ok (.aload_n 0, 1) := by decide +kernel
theorem d_R_begin_21 : decode b_R_begin 21 = .ok (.iconst 0, 1) := by decide +kernel
theorem d_R_begin_22 : decode b_R_begin 22 = .ok (.putfield 31, 3) := by decide +kernel
theorem d_R_begin_25 : decode b_R_begin 25 = .ok (.aload_n 0, 1) := by decide +kernel
theorem d_R_begin_26 : decode b_R_begin 26 = .ok (.iload_n 3, 1) := by decide +kernel
theorem d_R_begin_27 : decode b_R_begin 27 = .ok (.putfield 34, 3) := by decide +kernel
theorem d_R_begin_30 : decode b_R_begin 30 = .ok (.return_, 1) := by decide +kernel
theorem d_R_bringBack_0 : decode b_R_bringBack 0 = .ok (.aload_n 0, 1) := by decide +kernel
theorem d_R_bringBack_1 : decode b_R_bringBack 1 = .ok (.getfield 54, 3) := by decide +kernel
theorem d_R_bringBack_4 : decode b_R_bringBack 4 = .ok (.bipush 31, 2) := by decide +kernel
theorem d_R_bringBack_6 : decode b_R_bringBack 6 = .ok (.iand, 1) := by decide +kernel
theorem d_R_bringBack_7 : decode b_R_bringBack 7 = .ok (.istore_n 3, 1) := by decide +kernel
theorem d_R_bringBack_8 : decode b_R_bringBack 8 = .ok (.iload_n 3, 1) := by decide +kernel
theorem d_R_bringBack_9 : decode b_R_bringBack 9 = .ok (.invokestatic 47, 3) := by decide +kernel
theorem d_R_bringBack_12 : decode b_R_bringBack 12 = .ok (.istore 4, 2) := by decide +kernel
theorem d_R_bringBack_14 : decode b_R_bringBack 14 = .ok (.aload_n 0, 1) := by decide +kernel
theorem d_R_bringBack_15 : decode b_R_bringBack 15 = .ok (.aload_n 1, 1) := by decide +kernel
theorem d_R_bringBack_16 : decode b_R_bringBack 16 = .ok (.iload 4, 2) := by decide +kernel
theorem d_R_bringBack_18 : decode b_R_bringBack 18 = .ok (.invokevirtual 51, 3) := by decide +kernel
theorem d_R_bringBack_21 : decode b_R_bringBack 21 = .ok (.putfield 54, 3) := by decide +kernel
theorem d_R_bringBack_24 : decode b_R_bringBack 24 = .ok (.iload_n 2, 1) := by decide +kernel
theorem d_R_bringBack_25 : decode b_R_bringBack 25 = .ok (.ifCond .eq 48, 3) := by decide +kernel
theorem d_R_bringBack_28 : decode b_R_bringBack 28 = .ok (.aload_n 0, 1) := by decide +kernel
theorem d_R_bringBack_29 : decode b_R_bringBack 29 = .ok (.aload_n 1, 1) := by decide +kernel
theorem d_R_bringBack_30 : decode b_R_bringBack 30 = .ok (.iload 4, 2) := by decide +kernel
theorem d_R_bringBack_32 : decode b_R_bringBack 32 = .ok (.iconst 1, 1) := by decide +kernel
theorem d_R_bringBack_33 : decode b_R_bringBack 33 = .ok (.iadd, 1) := by decide +kernel
theorem d_R_bringBack_34 : decode b_R_bringBack 34 = .ok (.invokevirtual 51, 3) := by decide +kernel
theorem d_R_bringBack_37 : decode b_R_bringBack 37 = .ok (.invokevirtual 71, 3) := by decide +kernel
theorem d_R_bringBack_40 : decode b_R_bringBack 40 = .ok (.aload_n 0, 1) := by decide +kernel
theorem d_R_bringBack_41 : decode b_R_bringBack 41 = .ok (.getfield 15, 3) := by decide +kernel
theorem d_R_bringBack_44 : decode b_R_bringBack 44 = .ok (.bipush 6, 2) := by decide +kernel
theorem d_R_bringBack_46 : decode b_R_bringBack 46 = .ok (.aload_n 1, 1) := by decide +kernel
theorem d_R_bringBack_47 : decode b_R_bringBack 47 = .ok (.iload 4, 2) := by decide +kernel
theorem d_R_bringBack_49 : decode b_R_bringBack 49 = .ok (.iconst 2, 1) := by decide +kernel
theorem d_R_bringBack_50 : decode b_R_bringBack 50 = .ok (.iadd, 1) := by decide +kernel
theorem d_R_bringBack_51 : decode b_R_bringBack 51 = .ok (.invokevirtual 51, 3) := by decide +kernel
theorem d_R_bringBack_54 : decode b_R_bringBack 54 = .ok (.iastore, 1) := by decide +kernel
theorem d_R_bringBack_55 : decode b_R_bringBack 55 = .ok (.aload_n 0, 1) := by decide +kernel
theorem d_R_bringBack_56 : decode b_R_bringBack 56 = .ok (.getfield 15, 3) := by decide +kernel
theorem d_R_bringBack_59 : decode b_R_bringBack 59 = .ok (.bipush 7, 2) := by decide +kernel
theorem d_R_bringBack_61 : decode b_R_bringBack 61 = .ok (.aload_n 1, 1) := by decide +kernel
theorem d_R_bringBack_62 : decode b_R_bringBack 62 = .ok (.iload 4, 2) := by decide +kernel
theorem d_R_bringBack_64 : decode b_R_bringBack 64 = .ok (.iconst 3, 1) := by decide +kernel
theorem d_R_bringBack_65 : decode b_R_bringBack 65 = .ok (.iadd, 1) := by decide +kernel
theorem d_R_bringBack_66 : decode b_R_bringBack 66 = .ok (.invokevirtual 51, 3) := by decide +kernel
theorem d_R_bringBack_69 : decode b_R_bringBack 69 = .ok (.iastore, 1) := by decide +kernel
theorem d_R_bringBack_70 : decode b_R_bringBack 70 = .ok (.goto 46, 3) := by decide +kernel
theorem d_R_bringBack_73 : decode b_R_bringBack 73 = .ok (.aload_n 0, 1) := by decide +kernel
theorem d_R_bringBack_74 : decode b_R_bringBack 74 = .ok (.getfield 15, 3) := by decide +kernel
theorem d_R_bringBack_77 : decode b_R_bringBack 77 = .ok (.bipush 7, 2) := by decide +kernel
theorem d_R_bringBack_79 : decode b_R_bringBack 79 = .ok (.aload_n 1, 1) := by decide +kernel
theorem d_R_bringBack_80 : decode b_R_bringBack 80 = .ok (.iload 4, 2) := by decide +kernel
theorem d_R_bringBack_82 : decode b_R_bringBack 82 = .ok (.iconst 1, 1) := by decide +kernel
theorem d_R_bringBack_83 : decode b_R_bringBack 83 = .ok (.iadd, 1) := by decide +kernel
theorem d_R_bringBack_84 : decode b_R_bringBack 84 = .ok (.invokevirtual 51, 3) := by decide +kernel
theorem d_R_bringBack_87 : decode b_R_bringBack 87 = .ok (.iastore, 1) := by decide +kernel
theorem d_R_bringBack_88 : decode b_R_bringBack 88 = .ok (.aload_n 0, 1) := by decide +kernel
theorem d_R_bringBack_89 : decode b_R_bringBack 89 = .ok (.getfield 15, 3) := by decide +kernel
theorem d_R_bringBack_92 : decode b_R_bringBack 92 = .ok (.iconst 2, 1) := by decide +kernel
theorem d_R_bringBack_93 : decode b_R_bringBack 93 = .ok (.aload_n 1, 1) := by decide +kernel
theorem d_R_bringBack_94 : decode b_R_bringBack 94 = .ok (.iload 4, 2) := by decide +kernel
theorem d_R_bringBack_96 : decode b_R_bringBack 96 = .ok (.iconst 2, 1) := by decide +kernel
theorem d_R_bringBack_97 : decode b_R_bringBack 97 = .ok (.iadd, 1) := by decide +kernel
theorem d_R_bringBack_98 : decode b_R_bringBack 98 = .ok (.invokevirtual 51, 3) := by decide +kernel
theorem d_R_bringBack_101 : decode b_R_bringBack 101 = .ok (.iastore, 1) := by decide +kernel
theorem d_R_bringBack_102 : decode b_R_bringBack 102 = .ok (.aload_n 0, 1) := by decide +kernel
theorem d_R_bringBack_103 : decode b_R_bringBack 103 = .ok (.getfield 15, 3) := by decide +kernel
theorem d_R_bringBack_106 : decode b_R_bringBack 106 = .ok (.iconst 3, 1) := by decide +kernel
theorem d_R_bringBack_107 : decode b_R_bringBack 107 = .ok (.aload_n 1, 1) := by decide +kernel
theorem d_R_bringBack_108 : decode b_R_bringBack 108 = .ok (.iload 4, 2) := by decide +kernel
theorem d_R_bringBack_110 : decode b_R_bringBack 110 = .ok (.iconst 3, 1) := by decide +kernel
theorem d_R_bringBack_111 : decode b_R_bringBack 111 = .ok (.iadd, 1) := by decide +kernel
theorem d_R_bringBack_112 : decode b_R_bringBack 112 = .ok (.invokevirtual 51, 3) := by decide +kernel
theorem d_R_bringBack_115 : decode b_R_bringBack 115 = .ok (.iastore, 1) := by decide +kernel
theorem d_R_bringBack_116 : decode b_R_bringBack 116 = .ok (.iload_n 2, 1) := by decide +kernel
theorem d_R_bringBack_117 : decode b_R_bringBack 117 = .ok (.ifCond .eq 7, 3) := by decide +kernel
theorem d_R_bringBack_120 : decode b_R_bringBack 120 = .ok (.iconst 4, 1) := by decide +kernel
theorem d_R_bringBack_121 : decode b_R_bringBack 121 = .ok (.goto 4, 3) := by decide +kernel
theorem d_R_bringBack_124 : decode b_R_bringBack 124 = .ok (.iconst 0, 1) := by decide +kernel
theorem d_R_bringBack_125 : decode b_R_bringBack 125 = .ok (.istore 5, 2) := by decide +kernel
theorem d_R_bringBack_127 : decode b_R_bringBack 127 = .ok (.iconst 0, 1) := by decide +kernel
theorem d_R_bringBack_128 : decode b_R_bringBack 128 = .ok (.istore 6, 2) := by decide +kernel
theorem d_R_bringBack_130 : decode b_R_bringBack 130 = .ok (.iload 6, 2) := by decide +kernel
theorem d_R_bringBack_132 : decode b_R_bringBack 132 = .ok (.iconst 4, 1) := by decide +kernel
theorem d_R_bringBack_133 : decode b_R_bringBack 133 = .ok (.if_icmp .ge 30, 3) := by decide +kernel
theorem d_R_bringBack_136 : decode b_R_bringBack 136 = .ok (.aload_n 0, 1) := by decide +kernel
theorem d_R_bringBack_137 : decode b_R_bringBack 137 = .ok (.getfield 9, 3) := by decide +kernel
theorem d_R_bringBack_140 : decode b_R_bringBack 140 = .ok (.iload 5, 2) := by decide +kernel
theorem d_R_bringBack_142 : decode b_R_bringBack 142 = .ok (.iload 6, 2) := by decide +kernel
theorem d_R_bringBack_144 : decode b_R_bringBack 144 = .ok (.iadd, 1) := by decide +kernel
theorem d_R_bringBack_145 : decode b_R_bringBack 145 = .ok (.aload_n 1, 1) := by decide +kernel
theorem d_R_bringBack_146 : decode b_R_bringBack 146 = .ok (.iload 4, 2) := by decide +kernel
theorem d_R_bringBack_148 : decode b_R_bringBack 148 = .ok (.iconst 4, 1) := by decide +kernel
theorem d_R_bringBack_149 : decode b_R_bringBack 149 = .ok (.iadd, 1) := by decide +kernel
theorem d_R_bringBack_150 : decode b_R_bringBack 150 = .ok (.iload 6, 2) := by decide +kernel
theorem d_R_bringBack_152 : decode b_R_bringBack 152 = .ok (.iadd, 1) := by decide +kernel
theorem d_R_bringBack_153 : decode b_R_bringBack 153 = .ok (.invokevirtual 51, 3) := by decide +kernel
theorem d_R_bringBack_156 : decode b_R_bringBack 156 = .ok (.iastore, 1) := by decide +kernel
theorem d_R_bringBack_157 : decode b_R_bringBack 157 = .ok (.iinc 6 1, 3) := by decide +kernel
theorem d_R_bringBack_160 : decode b_R_bringBack 160 = .ok (.goto (-30), 3) := by decide +kernel
theorem d_R_bringBack_163 : decode b_R_bringBack 163 = .ok (.aload_n 1, 1) := by decide +kernel
theorem d_R_bringBack_164 : decode b_R_bringBack 164 = .ok (.iload 4, 2) := by decide +kernel
theorem d_R_bringBack_166 : decode b_R_bringBack 166 = .ok (.aload_n 0, 1) := by decide +kernel
theorem d_R_bringBack_167 : decode b_R_bringBack 167 = .ok (.getfield 38, 3) := by decide +kernel
theorem d_R_bringBack_170 : decode b_R_bringBack 170 = .ok (.invokevirtual 57, 3) := by decide +kernel
theorem d_R_bringBack_173 : decode b_R_bringBack 173 = .ok (.aload_n 0, 1) := by decide +kernel
theorem d_R_bringBack_174 : decode b_R_bringBack 174 = .ok (.iload_n 3, 1) := by decide +kernel
theorem d_R_bringBack_175 : decode b_R_bringBack 175 = .ok (.putfield 38, 3) := by decide +kernel
theorem d_R_bringBack_178 : decode b_R_bringBack 178 = .ok (.return_, 1) := by decide +kernel
theorem d_R_enterHandler_0 : decode b_R_enterHandler 0 = .ok (.aload_n 0, 1) := by decide +kernel
theorem d_R_enterHandler_1 : decode b_R_enterHandler 1 = .ok (.getfield 15, 3) := by decide +kernel
theorem d_R_enterHandler_4 : decode b_R_enterHandler 4 = .ok (.bipush 7, 2) := by decide +kernel
theorem d_R_enterHandler_6 : decode b_R_enterHandler 6 = .ok (.iload_n 2, 1) := by decide +kernel
theorem d_R_enterHandler_7 : decode b_R_enterHandler 7 = .ok (.iastore, 1) := by decide +kernel
theorem d_R_enterHandler_8 : decode b_R_enterHandler 8 = .ok (.aload_n 0, 1) := by decide +kernel
theorem d_R_enterHandler_9 : decode b_R_enterHandler 9 = .ok (.iconst 2, 1) := by decide +kernel
theorem d_R_enterHandler_10 : decode b_R_enterHandler 10 = .ok (.putfield 18, 3) := by decide +kernel
theorem d_R_enterHandler_13 : decode b_R_enterHandler 13 = .ok (.aload_n 0, 1) := by decide +kernel
theorem d_R_enterHandler_14 : decode b_R_enterHandler 14 = .ok (.iconst 0, 1) := by decide +kernel
theorem d_R_enterHandler_15 : decode b_R_enterHandler 15 = .ok (.putfield 22, 3) := by decide +kernel
theorem d_R_enterHandler_18 : decode b_R_enterHandler 18 = .ok (.aload_n 0, 1) := by decide +kernel
theorem d_R_enterHandler_19 : decode b_R_enterHandler 19 = .ok (.iconst 0, 1) := by decide +kernel
theorem d_R_enterHandler_20 : decode b_R_enterHandler 20 = .ok (.putfield 25, 3) := by decide +kernel
theorem d_R_enterHandler_23 : decode b_R_enterHandler 23 = .ok (.aload_n 0, 1) := by decide +kernel
theorem d_R_enterHandler_24 : decode b_R_enterHandler 24 = .ok (.iconst 0, 1) := by decide +kernel
theorem d_R_enterHandler_25 : decode b_R_enterHandler 25 = .ok (.putfield 34, 3) := by decide +kernel
theorem d_R_enterHandler_28 : decode b_R_enterHandler 28 = .ok (.aload_n 0, 1) := by decide +kernel
theorem d_R_enterHandler_29 : decode b_R_enterHandler 29 = .ok (.iload_n 1, 1) := by decide +kernel
theorem d_R_enterHandler_30 : decode b_R_enterHandler 30 = .ok (.putfield 28, 3) := by decide +kernel
theorem d_R_enterHandler_33 : decode b_R_enterHandler 33 = .ok (.return_, 1) := by decide +kernel
theorem d_R_keep_0 : decode b_R_keep 0 = .ok (.aload_n 0, 1) := by decide +kernel
theorem d_R_keep_1 : decode b_R_keep 1 = .ok (.getfield 38, 3) := by decide +kernel
theorem d_R_keep_4 : decode b_R_keep 4 = .ok (.bipush 31, 2) := by decide +kernel
theorem d_R_keep_6 : decode b_R_keep 6 = .ok (.iand, 1) := by decide +kernel
theorem d_R_keep_7 : decode b_R_keep 7 = .ok (.istore_n 3, 1) := by decide +kernel
theorem d_R_keep_8 : decode b_R_keep 8 = .ok (.iload_n 3, 1) := by decide +kernel
theorem d_R_keep_9 : decode b_R_keep 9 = .ok (.invokestatic 41, 3) := by decide +kernel
theorem d_R_keep_12 : decode b_R_keep 12 = .ok (.ifCond .ne 5, 3) := by decide +kernel
theorem d_R_keep_15 : decode b_R_keep 15 = .ok (.iconst 0, 1) := by decide +kernel
theorem d_R_keep_16 : decode b_R_keep 16 = .ok (.ireturn, 1) := by decide +kernel
theorem d_R_keep_17 : decode b_R_keep 17 = .ok (.iload_n 3, 1) := by decide +kernel
theorem d_R_keep_18 : decode b_R_keep 18 = .ok (.invokestatic 47, 3) := by decide +kernel
theorem d_R_keep_21 : decode b_R_keep 21 = .ok (.istore 4, 2) := by decide +kernel
theorem d_R_keep_23 : decode b_R_keep 23 = .ok (.aload_n 0, 1) := by decide +kernel
theorem d_R_keep_24 : decode b_R_keep 24 = .ok (.aload_n 1, 1) := by decide +kernel
theorem d_R_keep_25 : decode b_R_keep 25 = .ok (.iload 4, 2) := by decide +kernel
theorem d_R_keep_27 : decode b_R_keep 27 = .ok (.invokevirtual 51, 3) := by decide +kernel
theorem d_R_keep_30 : decode b_R_keep 30 = .ok (.putfield 38, 3) := by decide +kernel
theorem d_R_keep_33 : decode b_R_keep 33 = .ok (.aload_n 1, 1) := by decide +kernel
theorem d_R_keep_34 : decode b_R_keep 34 = .ok (.iload 4, 2) := by decide +kernel
theorem d_R_keep_36 : decode b_R_keep 36 = .ok (.aload_n 0, 1) := by decide +kernel
theorem d_R_keep_37 : decode b_R_keep 37 = .ok (.getfield 54, 3) := by decide +kernel
theorem d_R_keep_40 : decode b_R_keep 40 = .ok (.invokevirtual 57, 3) := by decide +kernel
theorem d_R_keep_43 : decode b_R_keep 43 = .ok (.aload_n 1, 1) := by decide +kernel
theorem d_R_keep_44 : decode b_R_keep 44 = .ok (.iload 4, 2) := by decide +kernel
theorem d_R_keep_46 : decode b_R_keep 46 = .ok (.iconst 1, 1) := by decide +kernel
theorem d_R_keep_47 : decode b_R_keep 47 = .ok (.iadd, 1) := by decide +kernel
theorem d_R_keep_48 : decode b_R_keep 48 = .ok (.iload_n 2, 1) := by decide +kernel
theorem d_R_keep_49 : decode b_R_keep 49 = .ok (.ifCond .eq 10, 3) := by decide +kernel
theorem d_R_keep_52 : decode b_R_keep 52 = .ok (.aload_n 0, 1) := by decide +kernel
theorem d_R_keep_53 : decode b_R_keep 53 = .ok (.invokevirtual 61, 3) := by decide +kernel
theorem d_R_keep_56 : decode b_R_keep 56 = .ok (.goto 10, 3) := by decide +kernel
theorem d_R_keep_59 : decode b_R_keep 59 = .ok (.aload_n 0, 1) := by decide +kernel
theorem d_R_keep_60 : decode b_R_keep 60 = .ok (.getfield 15, 3) := by decide +kernel
theorem d_R_keep_63 : decode b_R_keep 63 = .ok (.bipush 7, 2) := by decide +kernel
theorem d_R_keep_65 : decode b_R_keep 65 = .ok (.iaload, 1) := by decide +kernel
theorem d_R_keep_66 : decode b_R_keep 66 = .ok (.invokevirtual 57, 3) := by decide +kernel
theorem d_R_keep_69 : decode b_R_keep 69 = .ok (.aload_n 1, 1) := by decide +kernel
theorem d_R_keep_70 : decode b_R_keep 70 = .ok (.iload 4, 2) := by decide +kernel
theorem d_R_keep_72 : decode b_R_keep 72 = .ok (.iconst 2, 1) := by decide +kernel
theorem d_R_keep_73 : decode b_R_keep 73 = .ok (.iadd, 1) := by decide +kernel
theorem d_R_keep_74 : decode b_R_keep 74 = .ok (.iload_n 2, 1) := by decide +kernel
theorem d_R_keep_75 : decode b_R_keep 75 = .ok (.ifCond .eq 13, 3) := by decide +kernel
theorem d_R_keep_78 : decode b_R_keep 78 = .ok (.aload_n 0, 1) := by decide +kernel
theorem d_R_keep_79 : decode b_R_keep 79 = .ok (.getfield 15, 3) := by decide +kernel
theorem d_R_keep_82 : decode b_R_keep 82 = .ok (.bipush 6, 2) := by decide +kernel
theorem d_R_keep_84 : decode b_R_keep 84 = .ok (.iaload, 1) := by decide +kernel
theorem d_R_keep_85 : decode b_R_keep 85 = .ok (.goto 9, 3) := by decide +kernel
theorem d_R_keep_88 : decode b_R_keep 88 = .ok (.aload_n 0, 1) := by decide +kernel
theorem d_R_keep_89 : decode b_R_keep 89 = .ok (.getfield 15, 3) := by decide +kernel
theorem d_R_keep_92 : decode b_R_keep 92 = .ok (.iconst 2, 1) := by decide +kernel
theorem d_R_keep_93 : decode b_R_keep 93 = .ok (.iaload, 1) := by decide +kernel
theorem d_R_keep_94 : decode b_R_keep 94 = .ok (.invokevirtual 57, 3) := by decide +kernel
theorem d_R_keep_97 : decode b_R_keep 97 = .ok (.aload_n 1, 1) := by decide +kernel
theorem d_R_keep_98 : decode b_R_keep 98 = .ok (.iload 4, 2) := by decide +kernel
theorem d_R_keep_100 : decode b_R_keep 100 = .ok (.iconst 3, 1) := by decide +kernel
theorem d_R_keep_101 : decode b_R_keep 101 = .ok (.iadd, 1) := by decide +kernel
theorem d_R_keep_102 : decode b_R_keep 102 = .ok (.iload_n 2, 1) := by decide +kernel
theorem d_R_keep_103 : decode b_R_keep 103 = .ok (.ifCond .eq 13, 3) := by decide +kernel
theorem d_R_keep_106 : decode b_R_keep 106 = .ok (.aload_n 0, 1) := by decide +kernel
theorem d_R_keep_107 : decode b_R_keep 107 = .ok (.getfield 15, 3) := by decide +kernel
theorem d_R_keep_110 : decode b_R_keep 110 = .ok (.bipush 7, 2) := by decide +kernel
theorem d_R_keep_112 : decode b_R_keep 112 = .ok (.iaload, 1) := by decide +kernel
theorem d_R_keep_113 : decode b_R_keep 113 = .ok (.goto 9, 3) := by decide +kernel
theorem d_R_keep_116 : decode b_R_keep 116 = .ok (.aload_n 0, 1) := by decide +kernel
theorem d_R_keep_117 : decode b_R_keep 117 = .ok (.getfield 15, 3) := by decide +kernel
theorem d_R_keep_120 : decode b_R_keep 120 = .ok (.iconst 3, 1) := by decide +kernel
theorem d_R_keep_121 : decode b_R_keep 121 = .ok (.iaload, 1) := by decide +kernel
theorem d_R_keep_122 : decode b_R_keep 122 = .ok (.invokevirtual 57, 3) := by decide +kernel
theorem d_R_keep_125 : decode b_R_keep 125 = .ok (.iload_n 2, 1) := by decide +kernel
theorem d_R_keep_126 : decode b_R_keep 126 = .ok (.ifCond .eq 7, 3) := by decide +kernel
theorem d_R_keep_129 : decode b_R_keep 129 = .ok (.iconst 4, 1) := by decide +kernel
theorem d_R_keep_130 : decode b_R_keep 130 = .ok (.goto 4, 3) := by decide +kernel
theorem d_R_keep_133 : decode b_R_keep 133 = .ok (.iconst 0, 1) := by decide +kernel
theorem d_R_keep_134 : decode b_R_keep 134 = .ok (.istore 5, 2) := by decide +kernel
theorem d_R_keep_136 : decode b_R_keep 136 = .ok (.iconst 0, 1) := by decide +kernel
theorem d_R_keep_137 : decode b_R_keep 137 = .ok (.istore 6, 2) := by decide +kernel
theorem d_R_keep_139 : decode b_R_keep 139 = .ok (.iload 6, 2) := by decide +kernel
theorem d_R_keep_141 : decode b_R_keep 141 = .ok (.iconst 4, 1) := by decide +kernel
theorem d_R_keep_142 : decode b_R_keep 142 = .ok (.if_icmp .ge 30, 3) := by decide +kernel
theorem d_R_keep_145 : decode b_R_keep 145 = .ok (.aload_n 1, 1) := by decide +kernel
theorem d_R_keep_146 : decode b_R_keep 146 = .ok (.iload 4, 2) := by decide +kernel
theorem d_R_keep_148 : decode b_R_keep 148 = .ok (.iconst 4, 1) := by decide +kernel
theorem d_R_keep_149 : decode b_R_keep 149 = .ok (.iadd, 1) := by decide +kernel
theorem d_R_keep_150 : decode b_R_keep 150 = .ok (.iload 6, 2) := by decide +kernel
theorem d_R_keep_152 : decode b_R_keep 152 = .ok (.iadd, 1) := by decide +kernel
theorem d_R_keep_153 : decode b_R_keep 153 = .ok (.aload_n 0, 1) := by decide +kernel
theorem d_R_keep_154 : decode b_R_keep 154 = .ok (.getfield 9, 3) := by decide +kernel
theorem d_R_keep_157 : decode b_R_keep 157 = .ok (.iload 5, 2) := by decide +kernel
theorem d_R_keep_159 : decode b_R_keep 159 = .ok (.iload 6, 2) := by decide +kernel
theorem d_R_keep_161 : decode b_R_keep 161 = .ok (.iadd, 1) := by decide +kernel
theorem d_R_keep_162 : decode b_R_keep 162 = .ok (.iaload, 1) := by decide +kernel
theorem d_R_keep_163 : decode b_R_keep 163 = .ok (.invokevirtual 57, 3) := by decide +kernel
theorem d_R_keep_166 : decode b_R_keep 166 = .ok (.iinc 6 1, 3) := by decide +kernel
theorem d_R_keep_169 : decode b_R_keep 169 = .ok (.goto (-30), 3) := by decide +kernel
theorem d_R_keep_172 : decode b_R_keep 172 = .ok (.aload_n 0, 1) := by decide +kernel
theorem d_R_keep_173 : decode b_R_keep 173 = .ok (.iload_n 3, 1) := by decide +kernel
theorem d_R_keep_174 : decode b_R_keep 174 = .ok (.iload_n 2, 1) := by decide +kernel
end
section
theorem d_R_keep_175 : decode b_R_keep 175 = .ok (.ifCond .eq 8, 3) := by decide +kernel
theorem d_R_keep_178 : decode b_R_keep 178 = .ok (.bipush 32, 2) := by decide +kernel
theorem d_R_keep_180 : decode b_R_keep 180 = .ok (.goto 4, 3) := by decide +kernel
theorem d_R_keep_183 : decode b_R_keep 183 = .ok (.iconst 0, 1) := by decide +kernel
theorem d_R_keep_184 : decode b_R_keep 184 = .ok (.iadd, 1) := by decide +kernel
theorem d_R_keep_185 : decode b_R_keep 185 = .ok (.sipush 256, 3) := by decide +kernel
theorem d_R_keep_188 : decode b_R_keep 188 = .ok (.aload_n 0, 1) := by decide +kernel
theorem d_R_keep_189 : decode b_R_keep 189 = .ok (.getfield 31, 3) := by decide +kernel
theorem d_R_keep_192 : decode b_R_keep 192 = .ok (.imul, 1) := by decide +kernel
theorem d_R_keep_193 : decode b_R_keep 193 = .ok (.iadd, 1) := by decide +kernel
theorem d_R_keep_194 : decode b_R_keep 194 = .ok (.aload_n 0, 1) := by decide +kernel
theorem d_R_keep_195 : decode b_R_keep 195 = .ok (.getfield 34, 3) := by decide +kernel
theorem d_R_keep_198 : decode b_R_keep 198 = .ok (.ifCond .eq 9, 3) := by decide +kernel
theorem d_R_keep_201 : decode b_R_keep 201 = .ok (.sipush 4096, 3) := by decide +kernel
theorem d_R_keep_204 : decode b_R_keep 204 = .ok (.goto 4, 3) := by decide +kernel
theorem d_R_keep_207 : decode b_R_keep 207 = .ok (.iconst 0, 1) := by decide +kernel
theorem d_R_keep_208 : decode b_R_keep 208 = .ok (.iadd, 1) := by decide +kernel
theorem d_R_keep_209 : decode b_R_keep 209 = .ok (.putfield 54, 3) := by decide +kernel
theorem d_R_keep_212 : decode b_R_keep 212 = .ok (.aload_n 0, 1) := by decide +kernel
theorem d_R_keep_213 : decode b_R_keep 213 = .ok (.getfield 38, 3) := by decide +kernel
theorem d_R_keep_216 : decode b_R_keep 216 = .ok (.bipush 31, 2) := by decide +kernel
theorem d_R_keep_218 : decode b_R_keep 218 = .ok (.iand, 1) := by decide +kernel
theorem d_R_keep_219 : decode b_R_keep 219 = .ok (.aload_n 0, 1) := by decide +kernel
theorem d_R_keep_220 : decode b_R_keep 220 = .ok (.getfield 65, 3) := by decide +kernel
theorem d_R_keep_223 : decode b_R_keep 223 = .ok (.if_icmp .ne 8, 3) := by decide +kernel
theorem d_R_keep_226 : decode b_R_keep 226 = .ok (.aload_n 0, 1) := by decide +kernel
theorem d_R_keep_227 : decode b_R_keep 227 = .ok (.iconst 1, 1) := by decide +kernel
theorem d_R_keep_228 : decode b_R_keep 228 = .ok (.putfield 68, 3) := by decide +kernel
theorem d_R_keep_231 : decode b_R_keep 231 = .ok (.iconst 1, 1) := by decide +kernel
theorem d_R_keep_232 : decode b_R_keep 232 = .ok (.ireturn, 1) := by decide +kernel
theorem d_R_refuseBack_0 : decode b_R_refuseBack 0 = .ok (.aload_n 0, 1) := by decide +kernel
theorem d_R_refuseBack_1 : decode b_R_refuseBack 1 = .ok (.getfield 54, 3) := by decide +kernel
theorem d_R_refuseBack_4 : decode b_R_refuseBack 4 = .ok (.bipush 31, 2) := by decide +kernel
theorem d_R_refuseBack_6 : decode b_R_refuseBack 6 = .ok (.iand, 1) := by decide +kernel
theorem d_R_refuseBack_7 : decode b_R_refuseBack 7 = .ok (.invokestatic 41, 3) := by decide +kernel
theorem d_R_refuseBack_10 : decode b_R_refuseBack 10 = .ok (.ifCond .ne 5, 3) := by decide +kernel
theorem d_R_refuseBack_13 : decode b_R_refuseBack 13 = .ok (.iconst 2, 1) := by decide +kernel
theorem d_R_refuseBack_14 : decode b_R_refuseBack 14 = .ok (.ireturn, 1) := by decide +kernel
theorem d_R_refuseBack_15 : decode b_R_refuseBack 15 = .ok (.aload_n 0, 1) := by decide +kernel
theorem d_R_refuseBack_16 : decode b_R_refuseBack 16 = .ok (.getfield 54, 3) := by decide +kernel
theorem d_R_refuseBack_19 : decode b_R_refuseBack 19 = .ok (.bipush 32, 2) := by decide +kernel
theorem d_R_refuseBack_21 : decode b_R_refuseBack 21 = .ok (.iand, 1) := by decide +kernel
theorem d_R_refuseBack_22 : decode b_R_refuseBack 22 = .ok (.ifCond .eq 7, 3) := by decide +kernel
theorem d_R_refuseBack_25 : decode b_R_refuseBack 25 = .ok (.iconst 1, 1) := by decide +kernel
theorem d_R_refuseBack_26 : decode b_R_refuseBack 26 = .ok (.goto 4, 3) := by decide +kernel
theorem d_R_refuseBack_29 : decode b_R_refuseBack 29 = .ok (.iconst 0, 1) := by decide +kernel
theorem d_R_refuseBack_30 : decode b_R_refuseBack 30 = .ok (.istore_n 2, 1) := by decide +kernel
theorem d_R_refuseBack_31 : decode b_R_refuseBack 31 = .ok (.iload_n 2, 1) := by decide +kernel
theorem d_R_refuseBack_32 : decode b_R_refuseBack 32 = .ok (.iload_n 1, 1) := by decide +kernel
theorem d_R_refuseBack_33 : decode b_R_refuseBack 33 = .ok (.if_icmp .ne 7, 3) := by decide +kernel
theorem d_R_refuseBack_36 : decode b_R_refuseBack 36 = .ok (.iconst 0, 1) := by decide +kernel
theorem d_R_refuseBack_37 : decode b_R_refuseBack 37 = .ok (.goto 6, 3) := by decide +kernel
theorem d_R_refuseBack_40 : decode b_R_refuseBack 40 = .ok (.sipush 772, 3) := by decide +kernel
theorem d_R_refuseBack_43 : decode b_R_refuseBack 43 = .ok (.ireturn, 1) := by decide +kernel
theorem d_R_state_0 : decode b_R_state 0 = .ok (.aload_n 0, 1) := by decide +kernel
theorem d_R_state_1 : decode b_R_state 1 = .ok (.getfield 18, 3) := by decide +kernel
theorem d_R_state_4 : decode b_R_state 4 = .ok (.iconst 4, 1) := by decide +kernel
theorem d_R_state_5 : decode b_R_state 5 = .ok (.aload_n 0, 1) := by decide +kernel
theorem d_R_state_6 : decode b_R_state 6 = .ok (.getfield 22, 3) := by decide +kernel
theorem d_R_state_9 : decode b_R_state 9 = .ok (.imul, 1) := by decide +kernel
theorem d_R_state_10 : decode b_R_state 10 = .ok (.iadd, 1) := by decide +kernel
theorem d_R_state_11 : decode b_R_state 11 = .ok (.bipush 8, 2) := by decide +kernel
theorem d_R_state_13 : decode b_R_state 13 = .ok (.aload_n 0, 1) := by decide +kernel
theorem d_R_state_14 : decode b_R_state 14 = .ok (.getfield 25, 3) := by decide +kernel
theorem d_R_state_17 : decode b_R_state 17 = .ok (.imul, 1) := by decide +kernel
theorem d_R_state_18 : decode b_R_state 18 = .ok (.iadd, 1) := by decide +kernel
theorem d_R_state_19 : decode b_R_state 19 = .ok (.ireturn, 1) := by decide +kernel
theorem d_R_takeState_0 : decode b_R_takeState 0 = .ok (.aload_n 0, 1) := by decide +kernel
theorem d_R_takeState_1 : decode b_R_takeState 1 = .ok (.iload_n 1, 1) := by decide +kernel
theorem d_R_takeState_2 : decode b_R_takeState 2 = .ok (.iconst 3, 1) := by decide +kernel
theorem d_R_takeState_3 : decode b_R_takeState 3 = .ok (.iand, 1) := by decide +kernel
theorem d_R_takeState_4 : decode b_R_takeState 4 = .ok (.iconst 2, 1) := by decide +kernel
theorem d_R_takeState_5 : decode b_R_takeState 5 = .ok (.if_icmp .le 7, 3) := by decide +kernel
theorem d_R_takeState_8 : decode b_R_takeState 8 = .ok (.iconst 2, 1) := by decide +kernel
theorem d_R_takeState_9 : decode b_R_takeState 9 = .ok (.goto 6, 3) := by decide +kernel
theorem d_R_takeState_12 : decode b_R_takeState 12 = .ok (.iload_n 1, 1) := by decide +kernel
theorem d_R_takeState_13 : decode b_R_takeState 13 = .ok (.iconst 3, 1) := by decide +kernel
theorem d_R_takeState_14 : decode b_R_takeState 14 = .ok (.iand, 1) := by decide +kernel
theorem d_R_takeState_15 : decode b_R_takeState 15 = .ok (.putfield 18, 3) := by decide +kernel
theorem d_R_takeState_18 : decode b_R_takeState 18 = .ok (.aload_n 0, 1) := by decide +kernel
theorem d_R_takeState_19 : decode b_R_takeState 19 = .ok (.iload_n 1, 1) := by decide +kernel
theorem d_R_takeState_20 : decode b_R_takeState 20 = .ok (.iconst 2, 1) := by decide +kernel
theorem d_R_takeState_21 : decode b_R_takeState 21 = .ok (.ishr, 1) := by decide +kernel
theorem d_R_takeState_22 : decode b_R_takeState 22 = .ok (.iconst 1, 1) := by decide +kernel
theorem d_R_takeState_23 : decode b_R_takeState 23 = .ok (.iand, 1) := by decide +kernel
theorem d_R_takeState_24 : decode b_R_takeState 24 = .ok (.putfield 22, 3) := by decide +kernel
theorem d_R_takeState_27 : decode b_R_takeState 27 = .ok (.aload_n 0, 1) := by decide +kernel
theorem d_R_takeState_28 : decode b_R_takeState 28 = .ok (.iload_n 1, 1) := by decide +kernel
theorem d_R_takeState_29 : decode b_R_takeState 29 = .ok (.iconst 3, 1) := by decide +kernel
theorem d_R_takeState_30 : decode b_R_takeState 30 = .ok (.ishr, 1) := by decide +kernel
theorem d_R_takeState_31 : decode b_R_takeState 31 = .ok (.bipush 15, 2) := by decide +kernel
theorem d_R_takeState_33 : decode b_R_takeState 33 = .ok (.iand, 1) := by decide +kernel
theorem d_R_takeState_34 : decode b_R_takeState 34 = .ok (.putfield 25, 3) := by decide +kernel
theorem d_R_takeState_37 : decode b_R_takeState 37 = .ok (.return_, 1) := by decide +kernel
theorem d_T_ask_0 : decode b_T_ask 0 = .ok (.aload_n 0, 1) := by decide +kernel
theorem d_T_ask_1 : decode b_T_ask 1 = .ok (.dup, 1) := by decide +kernel
theorem d_T_ask_2 : decode b_T_ask 2 = .ok (.getfield 9, 3) := by decide +kernel
theorem d_T_ask_5 : decode b_T_ask 5 = .ok (.iconst 1, 1) := by decide +kernel
theorem d_T_ask_6 : decode b_T_ask 6 = .ok (.iload_n 1, 1) := by decide +kernel
theorem d_T_ask_7 : decode b_T_ask 7 = .ok (.ishl, 1) := by decide +kernel
theorem d_T_ask_8 : decode b_T_ask 8 = .ok (.ior, 1) := by decide +kernel
theorem d_T_ask_9 : decode b_T_ask 9 = .ok (.putfield 9, 3) := by decide +kernel
theorem d_T_ask_12 : decode b_T_ask 12 = .ok (.return_, 1) := by decide +kernel
theorem d_T_greatest_0 : decode b_T_greatest 0 = .ok (.bipush 15, 2) := by decide +kernel
theorem d_T_greatest_2 : decode b_T_greatest 2 = .ok (.istore_n 1, 1) := by decide +kernel
theorem d_T_greatest_3 : decode b_T_greatest 3 = .ok (.iload_n 1, 1) := by decide +kernel
theorem d_T_greatest_4 : decode b_T_greatest 4 = .ok (.ifCond .le 17, 3) := by decide +kernel
theorem d_T_greatest_7 : decode b_T_greatest 7 = .ok (.aload_n 0, 1) := by decide +kernel
theorem d_T_greatest_8 : decode b_T_greatest 8 = .ok (.iload_n 1, 1) := by decide +kernel
theorem d_T_greatest_9 : decode b_T_greatest 9 = .ok (.invokevirtual 28, 3) := by decide +kernel
theorem d_T_greatest_12 : decode b_T_greatest 12 = .ok (.ifCond .ne 9, 3) := by decide +kernel
theorem d_T_greatest_15 : decode b_T_greatest 15 = .ok (.iinc 1 (-1), 3) := by decide +kernel
theorem d_T_greatest_18 : decode b_T_greatest 18 = .ok (.goto (-15), 3) := by decide +kernel
theorem d_T_greatest_21 : decode b_T_greatest 21 = .ok (.iload_n 1, 1) := by decide +kernel
theorem d_T_greatest_22 : decode b_T_greatest 22 = .ok (.ireturn, 1) := by decide +kernel
theorem d_T_has_0 : decode b_T_has 0 = .ok (.iload_n 0, 1) := by decide +kernel
theorem d_T_has_1 : decode b_T_has 1 = .ok (.iconst 1, 1) := by decide +kernel
theorem d_T_has_2 : decode b_T_has 2 = .ok (.if_icmp .lt 13, 3) := by decide +kernel
theorem d_T_has_5 : decode b_T_has 5 = .ok (.iload_n 0, 1) := by decide +kernel
theorem d_T_has_6 : decode b_T_has 6 = .ok (.bipush 15, 2) := by decide +kernel
theorem d_T_has_8 : decode b_T_has 8 = .ok (.if_icmp .gt 7, 3) := by decide +kernel
theorem d_T_has_11 : decode b_T_has 11 = .ok (.iconst 1, 1) := by decide +kernel
theorem d_T_has_12 : decode b_T_has 12 = .ok (.goto 4, 3) := by decide +kernel
theorem d_T_has_15 : decode b_T_has 15 = .ok (.iconst 0, 1) := by decide +kernel
theorem d_T_has_16 : decode b_T_has 16 = .ok (.ireturn, 1) := by decide +kernel
theorem d_T_isPending_0 : decode b_T_isPending 0 = .ok (.aload_n 0, 1) := by decide +kernel
theorem d_T_isPending_1 : decode b_T_isPending 1 = .ok (.getfield 9, 3) := by decide +kernel
theorem d_T_isPending_4 : decode b_T_isPending 4 = .ok (.iload_n 1, 1) := by decide +kernel
theorem d_T_isPending_5 : decode b_T_isPending 5 = .ok (.ishr, 1) := by decide +kernel
theorem d_T_isPending_6 : decode b_T_isPending 6 = .ok (.iconst 1, 1) := by decide +kernel
theorem d_T_isPending_7 : decode b_T_isPending 7 = .ok (.iand, 1) := by decide +kernel
theorem d_T_isPending_8 : decode b_T_isPending 8 = .ok (.iconst 1, 1) := by decide +kernel
theorem d_T_isPending_9 : decode b_T_isPending 9 = .ok (.if_icmp .ne 7, 3) := by decide +kernel
theorem d_T_isPending_12 : decode b_T_isPending 12 = .ok (.iconst 1, 1) := by decide +kernel
theorem d_T_isPending_13 : decode b_T_isPending 13 = .ok (.goto 4, 3) := by decide +kernel
theorem d_T_isPending_16 : decode b_T_isPending 16 = .ok (.iconst 0, 1) := by decide +kernel
theorem d_T_isPending_17 : decode b_T_isPending 17 = .ok (.ireturn, 1) := by decide +kernel
theorem d_T_take_0 : decode b_T_take 0 = .ok (.aload_n 0, 1) := by decide +kernel
theorem d_T_take_1 : decode b_T_take 1 = .ok (.dup, 1) := by decide +kernel
theorem d_T_take_2 : decode b_T_take 2 = .ok (.getfield 9, 3) := by decide +kernel
theorem d_T_take_5 : decode b_T_take 5 = .ok (.iconst 1, 1) := by decide +kernel
theorem d_T_take_6 : decode b_T_take 6 = .ok (.iload_n 1, 1) := by decide +kernel
theorem d_T_take_7 : decode b_T_take 7 = .ok (.ishl, 1) := by decide +kernel
theorem d_T_take_8 : decode b_T_take 8 = .ok (.iconst (-1), 1) := by decide +kernel
theorem d_T_take_9 : decode b_T_take 9 = .ok (.ixor, 1) := by decide +kernel
theorem d_T_take_10 : decode b_T_take 10 = .ok (.iand, 1) := by decide +kernel
theorem d_T_take_11 : decode b_T_take 11 = .ok (.putfield 9, 3) := by decide +kernel
theorem d_T_take_14 : decode b_T_take 14 = .ok (.aload_n 0, 1) := by decide +kernel
theorem d_T_take_15 : decode b_T_take 15 = .ok (.dup, 1) := by decide +kernel
theorem d_T_take_16 : decode b_T_take 16 = .ok (.getfield 32, 3) := by decide +kernel
theorem d_T_take_19 : decode b_T_take 19 = .ok (.iconst 1, 1) := by decide +kernel
theorem d_T_take_20 : decode b_T_take 20 = .ok (.iadd, 1) := by decide +kernel
theorem d_T_take_21 : decode b_T_take 21 = .ok (.putfield 32, 3) := by decide +kernel
theorem d_T_take_24 : decode b_T_take 24 = .ok (.return_, 1) := by decide +kernel
theorem d_T_tick_0 : decode b_T_tick 0 = .ok (.aload_n 0, 1) := by decide +kernel
theorem d_T_tick_1 : decode b_T_tick 1 = .ok (.dup, 1) := by decide +kernel
theorem d_T_tick_2 : decode b_T_tick 2 = .ok (.getfield 15, 3) := by decide +kernel
theorem d_T_tick_5 : decode b_T_tick 5 = .ok (.iconst 1, 1) := by decide +kernel
theorem d_T_tick_6 : decode b_T_tick 6 = .ok (.iadd, 1) := by decide +kernel
theorem d_T_tick_7 : decode b_T_tick 7 = .ok (.putfield 15, 3) := by decide +kernel
theorem d_T_tick_10 : decode b_T_tick 10 = .ok (.aload_n 0, 1) := by decide +kernel
theorem d_T_tick_11 : decode b_T_tick 11 = .ok (.getfield 18, 3) := by decide +kernel
theorem d_T_tick_14 : decode b_T_tick 14 = .ok (.ifCond .le 23, 3) := by decide +kernel
theorem d_T_tick_17 : decode b_T_tick 17 = .ok (.aload_n 0, 1) := by decide +kernel
theorem d_T_tick_18 : decode b_T_tick 18 = .ok (.getfield 15, 3) := by decide +kernel
theorem d_T_tick_21 : decode b_T_tick 21 = .ok (.aload_n 0, 1) := by decide +kernel
theorem d_T_tick_22 : decode b_T_tick 22 = .ok (.getfield 18, 3) := by decide +kernel
theorem d_T_tick_25 : decode b_T_tick 25 = .ok (.irem, 1) := by decide +kernel
theorem d_T_tick_26 : decode b_T_tick 26 = .ok (.ifCond .ne 11, 3) := by decide +kernel
theorem d_T_tick_29 : decode b_T_tick 29 = .ok (.aload_n 0, 1) := by decide +kernel
theorem d_T_tick_30 : decode b_T_tick 30 = .ok (.aload_n 0, 1) := by decide +kernel
theorem d_T_tick_31 : decode b_T_tick 31 = .ok (.getfield 21, 3) := by decide +kernel
theorem d_T_tick_34 : decode b_T_tick 34 = .ok (.invokevirtual 24, 3) := by decide +kernel
theorem d_T_tick_37 : decode b_T_tick 37 = .ok (.return_, 1) := by decide +kernel
end
section
theorem d_P_amount_0 : decode b_P_amount 0 = .ok (.iload_n 0, 1) := by decide +kernel
theorem d_P_amount_1 : decode b_P_amount 1 = .ok (.bipush 16, 2) := by decide +kernel
theorem d_P_amount_3 : decode b_P_amount 3 = .ok (.ishr, 1) := by decide +kernel
theorem d_P_amount_4 : decode b_P_amount 4 = .ok (.ireturn, 1) := by decide +kernel
theorem d_P_bringLowerBack_0 : decode b_P_bringLowerBack 0 = .ok (.aload_n 0, 1) := by decide +kernel
theorem d_P_bringLowerBack_1 : decode b_P_bringLowerBack 1 = .ok (.getfield 21, 3) := by decide +kernel
theorem d_P_bringLowerBack_4 : decode b_P_bringLowerBack 4 = .ok (.iconst 0, 1) := by decide +kernel
theorem d_P_bringLowerBack_5 : decode b_P_bringLowerBack 5 = .ok (.invokevirtual 201, 3) := by decide +kernel
theorem d_P_bringLowerBack_8 : decode b_P_bringLowerBack 8 = .ok (.istore_n 1, 1) := by decide +kernel
theorem d_P_bringLowerBack_9 : decode b_P_bringLowerBack 9 = .ok (.iload_n 1, 1) := by decide +kernel
theorem d_P_bringLowerBack_10 : decode b_P_bringLowerBack 10 = .ok (.ifCond .ne 15, 3) := by decide +kernel
theorem d_P_bringLowerBack_13 : decode b_P_bringLowerBack 13 = .ok (.aload_n 0, 1) := by decide +kernel
theorem d_P_bringLowerBack_14 : decode b_P_bringLowerBack 14 = .ok (.getfield 21, 3) := by decide +kernel
theorem d_P_bringLowerBack_17 : decode b_P_bringLowerBack 17 = .ok (.aload_n 0, 1) := by decide +kernel
theorem d_P_bringLowerBack_18 : decode b_P_bringLowerBack 18 = .ok (.getfield 12, 3) := by decide +kernel
theorem d_P_bringLowerBack_21 : decode b_P_bringLowerBack 21 = .ok (.iconst 0, 1) := by decide +kernel
theorem d_P_bringLowerBack_22 : decode b_P_bringLowerBack 22 = .ok (.invokevirtual 207, 3) := by decide +kernel
theorem d_P_bringLowerBack_25 : decode b_P_bringLowerBack 25 = .ok (.iload_n 1, 1) := by decide +kernel
theorem d_P_bringLowerBack_26 : decode b_P_bringLowerBack 26 = .ok (.ireturn, 1) := by decide +kernel
theorem d_P_callDown_0 : decode b_P_callDown 0 = .ok (.aload_n 0, 1) := by decide +kernel
theorem d_P_callDown_1 : decode b_P_callDown 1 = .ok (.getfield 21, 3) := by decide +kernel
theorem d_P_callDown_4 : decode b_P_callDown 4 = .ok (.getfield 150, 3) := by decide +kernel
theorem d_P_callDown_7 : decode b_P_callDown 7 = .ok (.bipush 15, 2) := by decide +kernel
theorem d_P_callDown_9 : decode b_P_callDown 9 = .ok (.if_icmp .ne 7, 3) := by decide +kernel
theorem d_P_callDown_12 : decode b_P_callDown 12 = .ok (.sipush 770, 3) := by decide +kernel
theorem d_P_callDown_15 : decode b_P_callDown 15 = .ok (.ireturn, 1) := by decide +kernel
theorem d_P_callDown_16 : decode b_P_callDown 16 = .ok (.aload_n 0, 1) := by decide +kernel
theorem d_P_callDown_17 : decode b_P_callDown 17 = .ok (.getfield 21, 3) := by decide +kernel
theorem d_P_callDown_20 : decode b_P_callDown 20 = .ok (.aload_n 0, 1) := by decide +kernel
theorem d_P_callDown_21 : decode b_P_callDown 21 = .ok (.getfield 12, 3) := by decide +kernel
theorem d_P_callDown_24 : decode b_P_callDown 24 = .ok (.iconst 1, 1) := by decide +kernel
theorem d_P_callDown_25 : decode b_P_callDown 25 = .ok (.invokevirtual 87, 3) := by decide +kernel
theorem d_P_callDown_28 : decode b_P_callDown 28 = .ok (.ifCond .ne 5, 3) := by decide +kernel
theorem d_P_callDown_31 : decode b_P_callDown 31 = .ok (.iconst 2, 1) := by decide +kernel
theorem d_P_callDown_32 : decode b_P_callDown 32 = .ok (.ireturn, 1) := by decide +kernel
theorem d_P_callDown_33 : decode b_P_callDown 33 = .ok (.aload_n 0, 1) := by decide +kernel
theorem d_P_callDown_34 : decode b_P_callDown 34 = .ok (.getfield 21, 3) := by decide +kernel
theorem d_P_callDown_37 : decode b_P_callDown 37 = .ok (.getfield 172, 3) := by decide +kernel
theorem d_P_callDown_40 : decode b_P_callDown 40 = .ok (.bipush 7, 2) := by decide +kernel
theorem d_P_callDown_42 : decode b_P_callDown 42 = .ok (.aload_n 0, 1) := by decide +kernel
theorem d_P_callDown_43 : decode b_P_callDown 43 = .ok (.getfield 21, 3) := by decide +kernel
theorem d_P_callDown_46 : decode b_P_callDown 46 = .ok (.getfield 67, 3) := by decide +kernel
theorem d_P_callDown_49 : decode b_P_callDown 49 = .ok (.iconst 1, 1) := by decide +kernel
theorem d_P_callDown_50 : decode b_P_callDown 50 = .ok (.iadd, 1) := by decide +kernel
theorem d_P_callDown_51 : decode b_P_callDown 51 = .ok (.iastore, 1) := by decide +kernel
theorem d_P_callDown_52 : decode b_P_callDown 52 = .ok (.aload_n 0, 1) := by decide +kernel
theorem d_P_callDown_53 : decode b_P_callDown 53 = .ok (.getfield 21, 3) := by decide +kernel
theorem d_P_callDown_56 : decode b_P_callDown 56 = .ok (.dup, 1) := by decide +kernel
theorem d_P_callDown_57 : decode b_P_callDown 57 = .ok (.getfield 150, 3) := by decide +kernel
theorem d_P_callDown_60 : decode b_P_callDown 60 = .ok (.iconst 1, 1) := by decide +kernel
theorem d_P_callDown_61 : decode b_P_callDown 61 = .ok (.iadd, 1) := by decide +kernel
theorem d_P_callDown_62 : decode b_P_callDown 62 = .ok (.putfield 150, 3) := by decide +kernel
theorem d_P_callDown_65 : decode b_P_callDown 65 = .ok (.aload_n 0, 1) := by decide +kernel
theorem d_P_callDown_66 : decode b_P_callDown 66 = .ok (.getfield 21, 3) := by decide +kernel
theorem d_P_callDown_69 : decode b_P_callDown 69 = .ok (.dup, 1) := by decide +kernel
theorem d_P_callDown_70 : decode b_P_callDown 70 = .ok (.getfield 67, 3) := by decide +kernel
theorem d_P_callDown_73 : decode b_P_callDown 73 = .ok (.iload_n 1, 1) := by decide +kernel
theorem d_P_callDown_74 : decode b_P_callDown 74 = .ok (.iadd, 1) := by decide +kernel
theorem d_P_callDown_75 : decode b_P_callDown 75 = .ok (.putfield 67, 3) := by decide +kernel
theorem d_P_callDown_78 : decode b_P_callDown 78 = .ok (.iconst 1, 1) := by decide +kernel
theorem d_P_callDown_79 : decode b_P_callDown 79 = .ok (.ireturn, 1) := by decide +kernel
theorem d_P_changeLevel_0 : decode b_P_changeLevel 0 = .ok (.iload_n 1, 1) := by decide +kernel
theorem d_P_changeLevel_1 : decode b_P_changeLevel 1 = .ok (.aload_n 0, 1) := by decide +kernel
theorem d_P_changeLevel_2 : decode b_P_changeLevel 2 = .ok (.getfield 21, 3) := by decide +kernel
theorem d_P_changeLevel_5 : decode b_P_changeLevel 5 = .ok (.getfield 113, 3) := by decide +kernel
theorem d_P_changeLevel_8 : decode b_P_changeLevel 8 = .ok (.if_icmp .le 7, 3) := by decide +kernel
theorem d_P_changeLevel_11 : decode b_P_changeLevel 11 = .ok (.sipush 257, 3) := by decide +kernel
theorem d_P_changeLevel_14 : decode b_P_changeLevel 14 = .ok (.ireturn, 1) := by decide +kernel
theorem d_P_changeLevel_15 : decode b_P_changeLevel 15 = .ok (.aload_n 0, 1) := by decide +kernel
theorem d_P_changeLevel_16 : decode b_P_changeLevel 16 = .ok (.getfield 21, 3) := by decide +kernel
theorem d_P_changeLevel_19 : decode b_P_changeLevel 19 = .ok (.iload_n 1, 1) := by decide +kernel
theorem d_P_changeLevel_20 : decode b_P_changeLevel 20 = .ok (.putfield 113, 3) := by decide +kernel
theorem d_P_changeLevel_23 : decode b_P_changeLevel 23 = .ok (.iconst 0, 1) := by decide +kernel
theorem d_P_changeLevel_24 : decode b_P_changeLevel 24 = .ok (.ireturn, 1) := by decide +kernel
theorem d_P_compute_0 : decode b_P_compute 0 = .ok (.aload_n 0, 1) := by decide +kernel
theorem d_P_compute_1 : decode b_P_compute 1 = .ok (.getfield 21, 3) := by decide +kernel
theorem d_P_compute_4 : decode b_P_compute 4 = .ok (.getfield 103, 3) := by decide +kernel
theorem d_P_compute_7 : decode b_P_compute 7 = .ok (.astore_n 3, 1) := by decide +kernel
theorem d_P_compute_8 : decode b_P_compute 8 = .ok (.aload_n 0, 1) := by decide +kernel
theorem d_P_compute_9 : decode b_P_compute 9 = .ok (.getfield 21, 3) := by decide +kernel
theorem d_P_compute_12 : decode b_P_compute 12 = .ok (.getfield 172, 3) := by decide +kernel
theorem d_P_compute_15 : decode b_P_compute 15 = .ok (.astore 4, 2) := by decide +kernel
theorem d_P_compute_17 : decode b_P_compute 17 = .ok (.iload_n 2, 1) := by decide +kernel
theorem d_P_compute_18 : decode b_P_compute 18 = .ok (.invokestatic 175, 3) := by decide +kernel
theorem d_P_compute_21 : decode b_P_compute 21 = .ok (.istore 5, 2) := by decide +kernel
theorem d_P_compute_23 : decode b_P_compute 23 = .ok (.iload_n 2, 1) := by decide +kernel
theorem d_P_compute_24 : decode b_P_compute 24 = .ok (.invokestatic 178, 3) := by decide +kernel
theorem d_P_compute_27 : decode b_P_compute 27 = .ok (.istore 6, 2) := by decide +kernel
theorem d_P_compute_29 : decode b_P_compute 29 = .ok (.iload_n 2, 1) := by decide +kernel
theorem d_P_compute_30 : decode b_P_compute 30 = .ok (.invokestatic 181, 3) := by decide +kernel
theorem d_P_compute_33 : decode b_P_compute 33 = .ok (.istore 7, 2) := by decide +kernel
theorem d_P_compute_35 : decode b_P_compute 35 = .ok (.iload_n 2, 1) := by decide +kernel
theorem d_P_compute_36 : decode b_P_compute 36 = .ok (.invokestatic 131, 3) := by decide +kernel
theorem d_P_compute_39 : decode b_P_compute 39 = .ok (.istore 8, 2) := by decide +kernel
theorem d_P_compute_41 : decode b_P_compute 41 = .ok (.iload_n 1, 1) := by decide +kernel
theorem d_P_compute_42 : decode b_P_compute 42 = .ok (.tableswitch 229 1 11 #[58, 67, 81, 97, 113, 129, 145, 161, 191, 201, 217], 58) := by decide +kernel
theorem d_P_compute_100 : decode b_P_compute 100 = .ok (.aload_n 3, 1) := by decide +kernel
theorem d_P_compute_101 : decode b_P_compute 101 = .ok (.iload 5, 2) := by decide +kernel
theorem d_P_compute_103 : decode b_P_compute 103 = .ok (.iload 8, 2) := by decide +kernel
theorem d_P_compute_105 : decode b_P_compute 105 = .ok (.iastore, 1) := by decide +kernel
theorem d_P_compute_106 : decode b_P_compute 106 = .ok (.goto 174, 3) := by decide +kernel
theorem d_P_compute_109 : decode b_P_compute 109 = .ok (.aload_n 3, 1) := by decide +kernel
theorem d_P_compute_110 : decode b_P_compute 110 = .ok (.iload 5, 2) := by decide +kernel
theorem d_P_compute_112 : decode b_P_compute 112 = .ok (.aload_n 3, 1) := by decide +kernel
theorem d_P_compute_113 : decode b_P_compute 113 = .ok (.iload 6, 2) := by decide +kernel
theorem d_P_compute_115 : decode b_P_compute 115 = .ok (.iaload, 1) := by decide +kernel
theorem d_P_compute_116 : decode b_P_compute 116 = .ok (.iload 8, 2) := by decide +kernel
theorem d_P_compute_118 : decode b_P_compute 118 = .ok (.iadd, 1) := by decide +kernel
theorem d_P_compute_119 : decode b_P_compute 119 = .ok (.iastore, 1) := by decide +kernel
theorem d_P_compute_120 : decode b_P_compute 120 = .ok (.goto 160, 3) := by decide +kernel
theorem d_P_compute_123 : decode b_P_compute 123 = .ok (.aload_n 3, 1) := by decide +kernel
theorem d_P_compute_124 : decode b_P_compute 124 = .ok (.iload 5, 2) := by decide +kernel
theorem d_P_compute_126 : decode b_P_compute 126 = .ok (.aload_n 3, 1) := by decide +kernel
theorem d_P_compute_127 : decode b_P_compute 127 = .ok (.iload 6, 2) := by decide +kernel
theorem d_P_compute_129 : decode b_P_compute 129 = .ok (.iaload, 1) := by decide +kernel
theorem d_P_compute_130 : decode b_P_compute 130 = .ok (.aload_n 3, 1) := by decide +kernel
theorem d_P_compute_131 : decode b_P_compute 131 = .ok (.iload 7, 2) := by decide +kernel
theorem d_P_compute_133 : decode b_P_compute 133 = .ok (.iaload, 1) := by decide +kernel
theorem d_P_compute_134 : decode b_P_compute 134 = .ok (.iadd, 1) := by decide +kernel
theorem d_P_compute_135 : decode b_P_compute 135 = .ok (.iastore, 1) := by decide +kernel
theorem d_P_compute_136 : decode b_P_compute 136 = .ok (.goto 144, 3) := by decide +kernel
theorem d_P_compute_139 : decode b_P_compute 139 = .ok (.aload_n 3, 1) := by decide +kernel
theorem d_P_compute_140 : decode b_P_compute 140 = .ok (.iload 5, 2) := by decide +kernel
theorem d_P_compute_142 : decode b_P_compute 142 = .ok (.aload_n 3, 1) := by decide +kernel
theorem d_P_compute_143 : decode b_P_compute 143 = .ok (.iload 6, 2) := by decide +kernel
theorem d_P_compute_145 : decode b_P_compute 145 = .ok (.iaload, 1) := by decide +kernel
theorem d_P_compute_146 : decode b_P_compute 146 = .ok (.aload_n 3, 1) := by decide +kernel
theorem d_P_compute_147 : decode b_P_compute 147 = .ok (.iload 7, 2) := by decide +kernel
theorem d_P_compute_149 : decode b_P_compute 149 = .ok (.iaload, 1) := by decide +kernel
theorem d_P_compute_150 : decode b_P_compute 150 = .ok (.isub, 1) := by decide +kernel
theorem d_P_compute_151 : decode b_P_compute 151 = .ok (.iastore, 1) := by decide +kernel
theorem d_P_compute_152 : decode b_P_compute 152 = .ok (.goto 128, 3) := by decide +kernel
theorem d_P_compute_155 : decode b_P_compute 155 = .ok (.aload_n 3, 1) := by decide +kernel
theorem d_P_compute_156 : decode b_P_compute 156 = .ok (.iload 5, 2) := by decide +kernel
theorem d_P_compute_158 : decode b_P_compute 158 = .ok (.aload_n 3, 1) := by decide +kernel
theorem d_P_compute_159 : decode b_P_compute 159 = .ok (.iload 6, 2) := by decide +kernel
theorem d_P_compute_161 : decode b_P_compute 161 = .ok (.iaload, 1) := by decide +kernel
theorem d_P_compute_162 : decode b_P_compute 162 = .ok (.aload_n 3, 1) := by decide +kernel
theorem d_P_compute_163 : decode b_P_compute 163 = .ok (.iload 7, 2) := by decide +kernel
theorem d_P_compute_165 : decode b_P_compute 165 = .ok (.iaload, 1) := by decide +kernel
theorem d_P_compute_166 : decode b_P_compute 166 = .ok (.imul, 1) := by decide +kernel
theorem d_P_compute_167 : decode b_P_compute 167 = .ok (.iastore, 1) := by decide +kernel
theorem d_P_compute_168 : decode b_P_compute 168 = .ok (.goto 112, 3) := by decide +kernel
theorem d_P_compute_171 : decode b_P_compute 171 = .ok (.aload_n 3, 1) := by decide +kernel
theorem d_P_compute_172 : decode b_P_compute 172 = .ok (.iload 5, 2) := by decide +kernel
theorem d_P_compute_174 : decode b_P_compute 174 = .ok (.aload_n 3, 1) := by decide +kernel
theorem d_P_compute_175 : decode b_P_compute 175 = .ok (.iload 6, 2) := by decide +kernel
theorem d_P_compute_177 : decode b_P_compute 177 = .ok (.iaload, 1) := by decide +kernel
theorem d_P_compute_178 : decode b_P_compute 178 = .ok (.aload_n 3, 1) := by decide +kernel
theorem d_P_compute_179 : decode b_P_compute 179 = .ok (.iload 7, 2) := by decide +kernel
theorem d_P_compute_181 : decode b_P_compute 181 = .ok (.iaload, 1) := by decide +kernel
theorem d_P_compute_182 : decode b_P_compute 182 = .ok (.iand, 1) := by decide +kernel
theorem d_P_compute_183 : decode b_P_compute 183 = .ok (.iastore, 1) := by decide +kernel
theorem d_P_compute_184 : decode b_P_compute 184 = .ok (.goto 96, 3) := by decide +kernel
theorem d_P_compute_187 : decode b_P_compute 187 = .ok (.aload_n 3, 1) := by decide +kernel
theorem d_P_compute_188 : decode b_P_compute 188 = .ok (.iload 5, 2) := by decide +kernel
theorem d_P_compute_190 : decode b_P_compute 190 = .ok (.aload_n 3, 1) := by decide +kernel
theorem d_P_compute_191 : decode b_P_compute 191 = .ok (.iload 6, 2) := by decide +kernel
theorem d_P_compute_193 : decode b_P_compute 193 = .ok (.iaload, 1) := by decide +kernel
theorem d_P_compute_194 : decode b_P_compute 194 = .ok (.aload_n 3, 1) := by decide +kernel
theorem d_P_compute_195 : decode b_P_compute 195 = .ok (.iload 7, 2) := by decide +kernel
theorem d_P_compute_197 : decode b_P_compute 197 = .ok (.iaload, 1) := by decide +kernel
theorem d_P_compute_198 : decode b_P_compute 198 = .ok (.ixor, 1) := by decide +kernel
theorem d_P_compute_199 : decode b_P_compute 199 = .ok (.iastore, 1) := by decide +kernel
theorem d_P_compute_200 : decode b_P_compute 200 = .ok (.goto 80, 3) := by decide +kernel
theorem d_P_compute_203 : decode b_P_compute 203 = .ok (.aload_n 3, 1) := by decide +kernel
theorem d_P_compute_204 : decode b_P_compute 204 = .ok (.iload 5, 2) := by decide +kernel
theorem d_P_compute_206 : decode b_P_compute 206 = .ok (.iload 8, 2) := by decide +kernel
theorem d_P_compute_208 : decode b_P_compute 208 = .ok (.ifCond .ge 14, 3) := by decide +kernel
theorem d_P_compute_211 : decode b_P_compute 211 = .ok (.aload_n 3, 1) := by decide +kernel
theorem d_P_compute_212 : decode b_P_compute 212 = .ok (.iload 6, 2) := by decide +kernel
theorem d_P_compute_214 : decode b_P_compute 214 = .ok (.iaload, 1) := by decide +kernel
theorem d_P_compute_215 : decode b_P_compute 215 = .ok (.iload 8, 2) := by decide +kernel
theorem d_P_compute_217 : decode b_P_compute 217 = .ok (.ineg, 1) := by decide +kernel
theorem d_P_compute_218 : decode b_P_compute 218 = .ok (.ishr, 1) := by decide +kernel
theorem d_P_compute_219 : decode b_P_compute 219 = .ok (.goto 10, 3) := by decide +kernel
theorem d_P_compute_222 : decode b_P_compute 222 = .ok (.aload_n 3, 1) := by decide +kernel
theorem d_P_compute_223 : decode b_P_compute 223 = .ok (.iload 6, 2) := by decide +kernel
theorem d_P_compute_225 : decode b_P_compute 225 = .ok (.iaload, 1) := by decide +kernel
theorem d_P_compute_226 : decode b_P_compute 226 = .ok (.iload 8, 2) := by decide +kernel
theorem d_P_compute_228 : decode b_P_compute 228 = .ok (.ishl, 1) := by decide +kernel
theorem d_P_compute_229 : decode b_P_compute 229 = .ok (.iastore, 1) := by decide +kernel
theorem d_P_compute_230 : decode b_P_compute 230 = .ok (.goto 50, 3) := by decide +kernel
theorem d_P_compute_233 : decode b_P_compute 233 = .ok (.aload 4, 2) := by decide +kernel
theorem d_P_compute_235 : decode b_P_compute 235 = .ok (.iload 5, 2) := by decide +kernel
theorem d_P_compute_237 : decode b_P_compute 237 = .ok (.iload 8, 2) := by decide +kernel
theorem d_P_compute_239 : decode b_P_compute 239 = .ok (.iastore, 1) := by decide +kernel
theorem d_P_compute_240 : decode b_P_compute 240 = .ok (.goto 40, 3) := by decide +kernel
theorem d_P_compute_243 : decode b_P_compute 243 = .ok (.aload 4, 2) := by decide +kernel
theorem d_P_compute_245 : decode b_P_compute 245 = .ok (.iload 5, 2) := by decide +kernel
theorem d_P_compute_247 : decode b_P_compute 247 = .ok (.aload 4, 2) := by decide +kernel
theorem d_P_compute_249 : decode b_P_compute 249 = .ok (.iload 6, 2) := by decide +kernel
theorem d_P_compute_251 : decode b_P_compute 251 = .ok (.iaload, 1) := by decide +kernel
theorem d_P_compute_252 : decode b_P_compute 252 = .ok (.iload 8, 2) := by decide +kernel
theorem d_P_compute_254 : decode b_P_compute 254 = .ok (.iadd, 1) := by decide +kernel
theorem d_P_compute_255 : decode b_P_compute 255 = .ok (.iastore, 1) := by decide +kernel
theorem d_P_compute_256 : decode b_P_compute 256 = .ok (.goto 24, 3) := by decide +kernel
theorem d_P_compute_259 : decode b_P_compute 259 = .ok (.aload 4, 2) := by decide +kernel
theorem d_P_compute_261 : decode b_P_compute 261 = .ok (.iload 5, 2) := by decide +kernel
theorem d_P_compute_263 : decode b_P_compute 263 = .ok (.aload_n 3, 1) := by decide +kernel
theorem d_P_compute_264 : decode b_P_compute 264 = .ok (.iload 6, 2) := by decide +kernel
theorem d_P_compute_266 : decode b_P_compute 266 = .ok (.iaload, 1) := by decide +kernel
theorem d_P_compute_267 : decode b_P_compute 267 = .ok (.iastore, 1) := by decide +kernel
theorem d_P_compute_268 : decode b_P_compute 268 = .ok (.goto 12, 3) := by decide +kernel
theorem d_P_compute_271 : decode b_P_compute 271 = .ok (.aload_n 3, 1) := by decide +kernel
theorem d_P_compute_272 : decode b_P_compute 272 = .ok (.iload 5, 2) := by decide +kernel
theorem d_P_compute_274 : decode b_P_compute 274 = .ok (.aload 4, 2) := by decide +kernel
theorem d_P_compute_276 : decode b_P_compute 276 = .ok (.iload 6, 2) := by decide +kernel
theorem d_P_compute_278 : decode b_P_compute 278 = .ok (.iaload, 1) := by decide +kernel
theorem d_P_compute_279 : decode b_P_compute 279 = .ok (.iastore, 1) := by decide +kernel
theorem d_P_compute_280 : decode b_P_compute 280 = .ok (.iconst 0, 1) := by decide +kernel
theorem d_P_compute_281 : decode b_P_compute 281 = .ok (.ireturn, 1) := by decide +kernel
theorem d_P_fieldA_0 : decode b_P_fieldA 0 = .ok (.iload_n 0, 1) := by decide +kernel
theorem d_P_fieldA_1 : decode b_P_fieldA 1 = .ok (.iconst 5, 1) := by decide +kernel
theorem d_P_fieldA_2 : decode b_P_fieldA 2 = .ok (.ishr, 1) := by decide +kernel
theorem d_P_fieldA_3 : decode b_P_fieldA 3 = .ok (.bipush 7, 2) := by decide +kernel
theorem d_P_fieldA_5 : decode b_P_fieldA 5 = .ok (.iand, 1) := by decide +kernel
theorem d_P_fieldA_6 : decode b_P_fieldA 6 = .ok (.ireturn, 1) := by decide +kernel
theorem d_P_fieldB_0 : decode b_P_fieldB 0 = .ok (.iload_n 0, 1) := by decide +kernel
theorem d_P_fieldB_1 : decode b_P_fieldB 1 = .ok (.bipush 8, 2) := by decide +kernel
theorem d_P_fieldB_3 : decode b_P_fieldB 3 = .ok (.ishr, 1) := by decide +kernel
theorem d_P_fieldB_4 : decode b_P_fieldB 4 = .ok (.bipush 7, 2) := by decide +kernel
theorem d_P_fieldB_6 : decode b_P_fieldB 6 = .ok (.iand, 1) := by decide +kernel
theorem d_P_fieldB_7 : decode b_P_fieldB 7 = .ok (.ireturn, 1) := by decide +kernel
theorem d_P_fieldC_0 : decode b_P_fieldC 0 = .ok (.iload_n 0, 1) := by decide +kernel
theorem d_P_fieldC_1 : decode b_P_fieldC 1 = .ok (.bipush 11, 2) := by decide +kernel
theorem d_P_fieldC_3 : decode b_P_fieldC 3 = .ok (.ishr, 1) := by decide +kernel
theorem d_P_fieldC_4 : decode b_P_fieldC 4 = .ok (.bipush 7, 2) := by decide +kernel
theorem d_P_fieldC_6 : decode b_P_fieldC 6 = .ok (.iand, 1) := by decide +kernel
theorem d_P_fieldC_7 : decode b_P_fieldC 7 = .ok (.ireturn, 1) := by decide +kernel
theorem d_P_finish_0 : decode b_P_finish 0 = .ok (.iload_n 1, 1) := by decide +kernel
theorem d_P_finish_1 : decode b_P_finish 1 = .ok (.ifCond .ne 19, 3) := by decide +kernel
theorem d_P_finish_4 : decode b_P_finish 4 = .ok (.aload_n 0, 1) := by decide +kernel
theorem d_P_finish_5 : decode b_P_finish 5 = .ok (.getfield 21, 3) := by decide +kernel
theorem d_P_finish_8 : decode b_P_finish 8 = .ok (.dup, 1) := by decide +kernel
theorem d_P_finish_9 : decode b_P_finish 9 = .ok (.getfield 67, 3) := by decide +kernel
theorem d_P_finish_12 : decode b_P_finish 12 = .ok (.iconst 1, 1) := by decide +kernel
theorem d_P_finish_13 : decode b_P_finish 13 = .ok (.iadd, 1) := by decide +kernel
theorem d_P_finish_14 : decode b_P_finish 14 = .ok (.putfield 67, 3) := by decide +kernel
theorem d_P_finish_17 : decode b_P_finish 17 = .ok (.goto 54, 3) := by decide +kernel
theorem d_P_finish_20 : decode b_P_finish 20 = .ok (.iload_n 1, 1) := by decide +kernel
theorem d_P_finish_21 : decode b_P_finish 21 = .ok (.iconst 2, 1) := by decide +kernel
theorem d_P_finish_22 : decode b_P_finish 22 = .ok (.if_icmp .ne 11, 3) := by decide +kernel
theorem d_P_finish_25 : decode b_P_finish 25 = .ok (.aload_n 0, 1) := by decide +kernel
theorem d_P_finish_26 : decode b_P_finish 26 = .ok (.iconst 0, 1) := by decide +kernel
theorem d_P_finish_27 : decode b_P_finish 27 = .ok (.putfield 80, 3) := by decide +kernel
theorem d_P_finish_30 : decode b_P_finish 30 = .ok (.goto 41, 3) := by decide +kernel
theorem d_P_finish_33 : decode b_P_finish 33 = .ok (.iload_n 1, 1) := by decide +kernel
theorem d_P_finish_34 : decode b_P_finish 34 = .ok (.iconst 1, 1) := by decide +kernel
theorem d_P_finish_35 : decode b_P_finish 35 = .ok (.if_icmp .eq 36, 3) := by decide +kernel
theorem d_P_finish_38 : decode b_P_finish 38 = .ok (.aload_n 0, 1) := by decide +kernel
theorem d_P_finish_39 : decode b_P_finish 39 = .ok (.iload_n 1, 1) := by decide +kernel
theorem d_P_finish_40 : decode b_P_finish 40 = .ok (.iload_n 1, 1) := by decide +kernel
theorem d_P_finish_41 : decode b_P_finish 41 = .ok (.bipush 8, 2) := by decide +kernel
theorem d_P_finish_43 : decode b_P_finish 43 = .ok (.ishr, 1) := by decide +kernel
theorem d_P_finish_44 : decode b_P_finish 44 = .ok (.bipush 6, 2) := by decide +kernel
theorem d_P_finish_46 : decode b_P_finish 46 = .ok (.if_icmp .ne 15, 3) := by decide +kernel
theorem d_P_finish_49 : decode b_P_finish 49 = .ok (.aload_n 0, 1) := by decide +kernel
theorem d_P_finish_50 : decode b_P_finish 50 = .ok (.getfield 21, 3) := by decide +kernel
theorem d_P_finish_53 : decode b_P_finish 53 = .ok (.getfield 67, 3) := by decide +kernel
theorem d_P_finish_56 : decode b_P_finish 56 = .ok (.iconst 1, 1) := by decide +kernel
theorem d_P_finish_57 : decode b_P_finish 57 = .ok (.iadd, 1) := by decide +kernel
theorem d_P_finish_58 : decode b_P_finish 58 = .ok (.goto 10, 3) := by decide +kernel
theorem d_P_finish_61 : decode b_P_finish 61 = .ok (.aload_n 0, 1) := by decide +kernel
theorem d_P_finish_62 : decode b_P_finish 62 = .ok (.getfield 21, 3) := by decide +kernel
theorem d_P_finish_65 : decode b_P_finish 65 = .ok (.getfield 67, 3) := by decide +kernel
theorem d_P_finish_68 : decode b_P_finish 68 = .ok (.invokevirtual 83, 3) := by decide +kernel
theorem d_P_finish_71 : decode b_P_finish 71 = .ok (.return_, 1) := by decide +kernel
theorem d_P_goBack_0 : decode b_P_goBack 0 = .ok (.aload_n 0, 1) := by decide +kernel
theorem d_P_goBack_1 : decode b_P_goBack 1 = .ok (.getfield 21, 3) := by decide +kernel
theorem d_P_goBack_4 : decode b_P_goBack 4 = .ok (.iconst 1, 1) := by decide +kernel
theorem d_P_goBack_5 : decode b_P_goBack 5 = .ok (.invokevirtual 201, 3) := by decide +kernel
theorem d_P_goBack_8 : decode b_P_goBack 8 = .ok (.istore_n 2, 1) := by decide +kernel
theorem d_P_goBack_9 : decode b_P_goBack 9 = .ok (.iload_n 2, 1) := by decide +kernel
theorem d_P_goBack_10 : decode b_P_goBack 10 = .ok (.ifCond .eq 5, 3) := by decide +kernel
theorem d_P_goBack_13 : decode b_P_goBack 13 = .ok (.iload_n 2, 1) := by decide +kernel
theorem d_P_goBack_14 : decode b_P_goBack 14 = .ok (.ireturn, 1) := by decide +kernel
theorem d_P_goBack_15 : decode b_P_goBack 15 = .ok (.aload_n 0, 1) := by decide +kernel
theorem d_P_goBack_16 : decode b_P_goBack 16 = .ok (.getfield 21, 3) := by decide +kernel
theorem d_P_goBack_19 : decode b_P_goBack 19 = .ok (.aload_n 0, 1) := by decide +kernel
theorem d_P_goBack_20 : decode b_P_goBack 20 = .ok (.getfield 21, 3) := by decide +kernel
theorem d_P_goBack_23 : decode b_P_goBack 23 = .ok (.getfield 172, 3) := by decide +kernel
theorem d_P_goBack_26 : decode b_P_goBack 26 = .ok (.bipush 7, 2) := by decide +kernel
theorem d_P_goBack_28 : decode b_P_goBack 28 = .ok (.iaload, 1) := by decide +kernel
theorem d_P_goBack_29 : decode b_P_goBack 29 = .ok (.putfield 67, 3) := by decide +kernel
theorem d_P_goBack_32 : decode b_P_goBack 32 = .ok (.iload_n 1, 1) := by decide +kernel
theorem d_P_goBack_33 : decode b_P_goBack 33 = .ok (.ifCond .eq 49, 3) := by decide +kernel
theorem d_P_goBack_36 : decode b_P_goBack 36 = .ok (.aload_n 0, 1) := by decide +kernel
theorem d_P_goBack_37 : decode b_P_goBack 37 = .ok (.getfield 21, 3) := by decide +kernel
theorem d_P_goBack_40 : decode b_P_goBack 40 = .ok (.aload_n 0, 1) := by decide +kernel
theorem d_P_goBack_41 : decode b_P_goBack 41 = .ok (.getfield 21, 3) := by decide +kernel
theorem d_P_goBack_44 : decode b_P_goBack 44 = .ok (.getfield 204, 3) := by decide +kernel
theorem d_P_goBack_47 : decode b_P_goBack 47 = .ok (.bipush 8, 2) := by decide +kernel
theorem d_P_goBack_49 : decode b_P_goBack 49 = .ok (.ishr, 1) := by decide +kernel
theorem d_P_goBack_50 : decode b_P_goBack 50 = .ok (.bipush 15, 2) := by decide +kernel
theorem d_P_goBack_52 : decode b_P_goBack 52 = .ok (.iand, 1) := by decide +kernel
theorem d_P_goBack_53 : decode b_P_goBack 53 = .ok (.putfield 57, 3) := by decide +kernel
theorem d_P_goBack_56 : decode b_P_goBack 56 = .ok (.aload_n 0, 1) := by decide +kernel
theorem d_P_goBack_57 : decode b_P_goBack 57 = .ok (.getfield 21, 3) := by decide +kernel
theorem d_P_goBack_60 : decode b_P_goBack 60 = .ok (.aload_n 0, 1) := by decide +kernel
theorem d_P_goBack_61 : decode b_P_goBack 61 = .ok (.getfield 21, 3) := by decide +kernel
theorem d_P_goBack_64 : decode b_P_goBack 64 = .ok (.getfield 204, 3) := by decide +kernel
theorem d_P_goBack_67 : decode b_P_goBack 67 = .ok (.sipush 4096, 3) := by decide +kernel
theorem d_P_goBack_70 : decode b_P_goBack 70 = .ok (.iand, 1) := by decide +kernel
theorem d_P_goBack_71 : decode b_P_goBack 71 = .ok (.ifCond .eq 7, 3) := by decide +kernel
theorem d_P_goBack_74 : decode b_P_goBack 74 = .ok (.iconst 1, 1) := by decide +kernel
theorem d_P_goBack_75 : decode b_P_goBack 75 = .ok (.goto 4, 3) := by decide +kernel
theorem d_P_goBack_78 : decode b_P_goBack 78 = .ok (.iconst 0, 1) := by decide +kernel
theorem d_P_goBack_79 : decode b_P_goBack 79 = .ok (.putfield 50, 3) := by decide +kernel
theorem d_P_goBack_82 : decode b_P_goBack 82 = .ok (.aload_n 0, 1) := by decide +kernel
theorem d_P_goBack_83 : decode b_P_goBack 83 = .ok (.getfield 21, 3) := by decide +kernel
theorem d_P_goBack_86 : decode b_P_goBack 86 = .ok (.aload_n 0, 1) := by decide +kernel
theorem d_P_goBack_87 : decode b_P_goBack 87 = .ok (.getfield 12, 3) := by decide +kernel
theorem d_P_goBack_90 : decode b_P_goBack 90 = .ok (.iconst 1, 1) := by decide +kernel
theorem d_P_goBack_91 : decode b_P_goBack 91 = .ok (.invokevirtual 207, 3) := by decide +kernel
theorem d_P_goBack_94 : decode b_P_goBack 94 = .ok (.iconst 1, 1) := by decide +kernel
theorem d_P_goBack_95 : decode b_P_goBack 95 = .ok (.ireturn, 1) := by decide +kernel
theorem d_P_isGuarded_0 : decode b_P_isGuarded 0 = .ok (.aload_n 0, 1) := by decide +kernel
theorem d_P_isGuarded_1 : decode b_P_isGuarded 1 = .ok (.getfield 110, 3) := by decide +kernel
theorem d_P_isGuarded_4 : decode b_P_isGuarded 4 = .ok (.ifCond .eq 18, 3) := by decide +kernel
theorem d_P_isGuarded_7 : decode b_P_isGuarded 7 = .ok (.aload_n 0, 1) := by decide +kernel
theorem d_P_isGuarded_8 : decode b_P_isGuarded 8 = .ok (.getfield 21, 3) := by decide +kernel
theorem d_P_isGuarded_11 : decode b_P_isGuarded 11 = .ok (.getfield 113, 3) := by decide +kernel
theorem d_P_isGuarded_14 : decode b_P_isGuarded 14 = .ok (.iconst 2, 1) := by decide +kernel
theorem d_P_isGuarded_15 : decode b_P_isGuarded 15 = .ok (.if_icmp .eq 7, 3) := by decide +kernel
theorem d_P_isGuarded_18 : decode b_P_isGuarded 18 = .ok (.iconst 1, 1) := by decide +kernel
theorem d_P_isGuarded_19 : decode b_P_isGuarded 19 = .ok (.goto 4, 3) := by decide +kernel
theorem d_P_isGuarded_22 : decode b_P_isGuarded 22 = .ok (.iconst 0, 1) := by decide +kernel
theorem d_P_isGuarded_23 : decode b_P_isGuarded 23 = .ok (.ireturn, 1) := by decide +kernel
theorem d_P_jump_0 : decode b_P_jump 0 = .ok (.aload_n 0, 1) := by decide +kernel
theorem d_P_jump_1 : decode b_P_jump 1 = .ok (.getfield 21, 3) := by decide +kernel
theorem d_P_jump_4 : decode b_P_jump 4 = .ok (.getfield 103, 3) := by decide +kernel
theorem d_P_jump_7 : decode b_P_jump 7 = .ok (.iload_n 2, 1) := by decide +kernel
theorem d_P_jump_8 : decode b_P_jump 8 = .ok (.invokestatic 175, 3) := by decide +kernel
theorem d_P_jump_11 : decode b_P_jump 11 = .ok (.iaload, 1) := by decide +kernel
theorem d_P_jump_12 : decode b_P_jump 12 = .ok (.istore_n 3, 1) := by decide +kernel
theorem d_P_jump_13 : decode b_P_jump 13 = .ok (.aload_n 0, 1) := by decide +kernel
theorem d_P_jump_14 : decode b_P_jump 14 = .ok (.getfield 21, 3) := by decide +kernel
theorem d_P_jump_17 : decode b_P_jump 17 = .ok (.getfield 103, 3) := by decide +kernel
theorem d_P_jump_20 : decode b_P_jump 20 = .ok (.iload_n 2, 1) := by decide +kernel
theorem d_P_jump_21 : decode b_P_jump 21 = .ok (.invokestatic 178, 3) := by decide +kernel
theorem d_P_jump_24 : decode b_P_jump 24 = .ok (.iaload, 1) := by decide +kernel
theorem d_P_jump_25 : decode b_P_jump 25 = .ok (.istore 4, 2) := by decide +kernel
theorem d_P_jump_27 : decode b_P_jump 27 = .ok (.iload_n 1, 1) := by decide +kernel
theorem d_P_jump_28 : decode b_P_jump 28 = .ok (.bipush 18, 2) := by decide +kernel
theorem d_P_jump_30 : decode b_P_jump 30 = .ok (.if_icmp .eq 22, 3) := by decide +kernel
theorem d_P_jump_33 : decode b_P_jump 33 = .ok (.iload_n 1, 1) := by decide +kernel
theorem d_P_jump_34 : decode b_P_jump 34 = .ok (.bipush 19, 2) := by decide +kernel
theorem d_P_jump_36 : decode b_P_jump 36 = .ok (.if_icmp .ne 10, 3) := by decide +kernel
theorem d_P_jump_39 : decode b_P_jump 39 = .ok (.iload_n 3, 1) := by decide +kernel
theorem d_P_jump_40 : decode b_P_jump 40 = .ok (.ifCond .ne 16, 3) := by decide +kernel
theorem d_P_jump_43 : decode b_P_jump 43 = .ok (.goto 9, 3) := by decide +kernel
theorem d_P_jump_46 : decode b_P_jump 46 = .ok (.iload_n 3, 1) := by decide +kernel
theorem d_P_jump_47 : decode b_P_jump 47 = .ok (.iload 4, 2) := by decide +kernel
theorem d_P_jump_49 : decode b_P_jump 49 = .ok (.if_icmp .ge 7, 3) := by decide +kernel
theorem d_P_jump_52 : decode b_P_jump 52 = .ok (.iconst 1, 1) := by decide +kernel
theorem d_P_jump_53 : decode b_P_jump 53 = .ok (.goto 4, 3) := by decide +kernel
theorem d_P_jump_56 : decode b_P_jump 56 = .ok (.iconst 0, 1) := by decide +kernel
theorem d_P_jump_57 : decode b_P_jump 57 = .ok (.istore 5, 2) := by decide +kernel
theorem d_P_jump_59 : decode b_P_jump 59 = .ok (.iload 5, 2) := by decide +kernel
theorem d_P_jump_61 : decode b_P_jump 61 = .ok (.ifCond .ne 5, 3) := by decide +kernel
theorem d_P_jump_64 : decode b_P_jump 64 = .ok (.iconst 0, 1) := by decide +kernel
theorem d_P_jump_65 : decode b_P_jump 65 = .ok (.ireturn, 1) := by decide +kernel
theorem d_P_jump_66 : decode b_P_jump 66 = .ok (.aload_n 0, 1) := by decide +kernel
theorem d_P_jump_67 : decode b_P_jump 67 = .ok (.getfield 21, 3) := by decide +kernel
theorem d_P_jump_70 : decode b_P_jump 70 = .ok (.dup, 1) := by decide +kernel
theorem d_P_jump_71 : decode b_P_jump 71 = .ok (.getfield 67, 3) := by decide +kernel
theorem d_P_jump_74 : decode b_P_jump 74 = .ok (.iload_n 2, 1) := by decide +kernel
theorem d_P_jump_75 : decode b_P_jump 75 = .ok (.invokestatic 131, 3) := by decide +kernel
theorem d_P_jump_78 : decode b_P_jump 78 = .ok (.iadd, 1) := by decide +kernel
theorem d_P_jump_79 : decode b_P_jump 79 = .ok (.putfield 67, 3) := by decide +kernel
theorem d_P_jump_82 : decode b_P_jump 82 = .ok (.iconst 1, 1) := by decide +kernel
theorem d_P_jump_83 : decode b_P_jump 83 = .ok (.ireturn, 1) := by decide +kernel
theorem d_P_keepLower_0 : decode b_P_keepLower 0 = .ok (.aload_n 0, 1) := by decide +kernel
theorem d_P_keepLower_1 : decode b_P_keepLower 1 = .ok (.getfield 21, 3) := by decide +kernel
theorem d_P_keepLower_4 : decode b_P_keepLower 4 = .ok (.aload_n 0, 1) := by decide +kernel
theorem d_P_keepLower_5 : decode b_P_keepLower 5 = .ok (.getfield 12, 3) := by decide +kernel
theorem d_P_keepLower_8 : decode b_P_keepLower 8 = .ok (.iconst 0, 1) := by decide +kernel
theorem d_P_keepLower_9 : decode b_P_keepLower 9 = .ok (.invokevirtual 87, 3) := by decide +kernel
theorem d_P_keepLower_12 : decode b_P_keepLower 12 = .ok (.ifCond .eq 7, 3) := by decide +kernel
theorem d_P_keepLower_15 : decode b_P_keepLower 15 = .ok (.iconst 0, 1) := by decide +kernel
theorem d_P_keepLower_16 : decode b_P_keepLower 16 = .ok (.goto 4, 3) := by decide +kernel
theorem d_P_keepLower_19 : decode b_P_keepLower 19 = .ok (.iconst 2, 1) := by decide +kernel
theorem d_P_keepLower_20 : decode b_P_keepLower 20 = .ok (.ireturn, 1) := by decide +kernel
theorem d_P_moveWord_0 : decode b_P_moveWord 0 = .ok (.iload_n 2, 1) := by decide +kernel
theorem d_P_moveWord_1 : decode b_P_moveWord 1 = .ok (.invokestatic 178, 3) := by decide +kernel
theorem d_P_moveWord_4 : decode b_P_moveWord 4 = .ok (.istore_n 3, 1) := by decide +kernel
theorem d_P_moveWord_5 : decode b_P_moveWord 5 = .ok (.iload_n 2, 1) := by decide +kernel
theorem d_P_moveWord_6 : decode b_P_moveWord 6 = .ok (.invokestatic 131, 3) := by decide +kernel
theorem d_P_moveWord_9 : decode b_P_moveWord 9 = .ok (.istore 4, 2) := by decide +kernel
theorem d_P_moveWord_11 : decode b_P_moveWord 11 = .ok (.iload_n 1, 1) := by decide +kernel
theorem d_P_moveWord_12 : decode b_P_moveWord 12 = .ok (.bipush 14, 2) := by decide +kernel
theorem d_P_moveWord_14 : decode b_P_moveWord 14 = .ok (.if_icmp .eq 9, 3) := by decide +kernel
theorem d_P_moveWord_17 : decode b_P_moveWord 17 = .ok (.iload_n 1, 1) := by decide +kernel
theorem d_P_moveWord_18 : decode b_P_moveWord 18 = .ok (.bipush 16, 2) := by decide +kernel
theorem d_P_moveWord_20 : decode b_P_moveWord 20 = .ok (.if_icmp .ne 7, 3) := by decide +kernel
theorem d_P_moveWord_23 : decode b_P_moveWord 23 = .ok (.iconst 1, 1) := by decide +kernel
theorem d_P_moveWord_24 : decode b_P_moveWord 24 = .ok (.goto 4, 3) := by decide +kernel
theorem d_P_moveWord_27 : decode b_P_moveWord 27 = .ok (.iconst 0, 1) := by decide +kernel
theorem d_P_moveWord_28 : decode b_P_moveWord 28 = .ok (.istore 5, 2) := by decide +kernel
end
section
theorem d_P_moveWord_30 : decode b_P_moveWord 30 = .ok (.iload_n 1, 1) := by decide +kernel
theorem d_P_moveWord_31 : decode b_P_moveWord 31 = .ok (.bipush 15, 2) := by decide +kernel
theorem d_P_moveWord_33 : decode b_P_moveWord 33 = .ok (.if_icmp .lt 7, 3) := by decide +kernel
theorem d_P_moveWord_36 : decode b_P_moveWord 36 = .ok (.iconst 1, 1) := by decide +kernel
theorem d_P_moveWord_37 : decode b_P_moveWord 37 = .ok (.goto 4, 3) := by decide +kernel
theorem d_P_moveWord_40 : decode b_P_moveWord 40 = .ok (.iconst 0, 1) := by decide +kernel
theorem d_P_moveWord_41 : decode b_P_moveWord 41 = .ok (.istore 6, 2) := by decide +kernel
theorem d_P_moveWord_43 : decode b_P_moveWord 43 = .ok (.iload 6, 2) := by decide +kernel
theorem d_P_moveWord_45 : decode b_P_moveWord 45 = .ok (.ifCond .eq 15, 3) := by decide +kernel
theorem d_P_moveWord_48 : decode b_P_moveWord 48 = .ok (.aload_n 0, 1) := by decide +kernel
theorem d_P_moveWord_49 : decode b_P_moveWord 49 = .ok (.getfield 21, 3) := by decide +kernel
theorem d_P_moveWord_52 : decode b_P_moveWord 52 = .ok (.getfield 172, 3) := by decide +kernel
theorem d_P_moveWord_55 : decode b_P_moveWord 55 = .ok (.iload_n 3, 1) := by decide +kernel
theorem d_P_moveWord_56 : decode b_P_moveWord 56 = .ok (.iaload, 1) := by decide +kernel
theorem d_P_moveWord_57 : decode b_P_moveWord 57 = .ok (.goto 15, 3) := by decide +kernel
theorem d_P_moveWord_60 : decode b_P_moveWord 60 = .ok (.aload_n 0, 1) := by decide +kernel
theorem d_P_moveWord_61 : decode b_P_moveWord 61 = .ok (.getfield 21, 3) := by decide +kernel
theorem d_P_moveWord_64 : decode b_P_moveWord 64 = .ok (.getfield 172, 3) := by decide +kernel
theorem d_P_moveWord_67 : decode b_P_moveWord 67 = .ok (.iload_n 3, 1) := by decide +kernel
theorem d_P_moveWord_68 : decode b_P_moveWord 68 = .ok (.iaload, 1) := by decide +kernel
theorem d_P_moveWord_69 : decode b_P_moveWord 69 = .ok (.iload 4, 2) := by decide +kernel
theorem d_P_moveWord_71 : decode b_P_moveWord 71 = .ok (.iadd, 1) := by decide +kernel
theorem d_P_moveWord_72 : decode b_P_moveWord 72 = .ok (.istore 7, 2) := by decide +kernel
theorem d_P_moveWord_74 : decode b_P_moveWord 74 = .ok (.aload_n 0, 1) := by decide +kernel
theorem d_P_moveWord_75 : decode b_P_moveWord 75 = .ok (.iload 7, 2) := by decide +kernel
theorem d_P_moveWord_77 : decode b_P_moveWord 77 = .ok (.iload 5, 2) := by decide +kernel
theorem d_P_moveWord_79 : decode b_P_moveWord 79 = .ok (.ifCond .eq 7, 3) := by decide +kernel
theorem d_P_moveWord_82 : decode b_P_moveWord 82 = .ok (.iconst 2, 1) := by decide +kernel
theorem d_P_moveWord_83 : decode b_P_moveWord 83 = .ok (.goto 4, 3) := by decide +kernel
theorem d_P_moveWord_86 : decode b_P_moveWord 86 = .ok (.iconst 1, 1) := by decide +kernel
theorem d_P_moveWord_87 : decode b_P_moveWord 87 = .ok (.invokevirtual 188, 3) := by decide +kernel
theorem d_P_moveWord_90 : decode b_P_moveWord 90 = .ok (.istore 8, 2) := by decide +kernel
theorem d_P_moveWord_92 : decode b_P_moveWord 92 = .ok (.iload 8, 2) := by decide +kernel
theorem d_P_moveWord_94 : decode b_P_moveWord 94 = .ok (.ifCond .eq 6, 3) := by decide +kernel
theorem d_P_moveWord_97 : decode b_P_moveWord 97 = .ok (.iload 8, 2) := by decide +kernel
theorem d_P_moveWord_99 : decode b_P_moveWord 99 = .ok (.ireturn, 1) := by decide +kernel
theorem d_P_moveWord_100 : decode b_P_moveWord 100 = .ok (.iload 5, 2) := by decide +kernel
theorem d_P_moveWord_102 : decode b_P_moveWord 102 = .ok (.ifCond .eq 27, 3) := by decide +kernel
theorem d_P_moveWord_105 : decode b_P_moveWord 105 = .ok (.aload_n 0, 1) := by decide +kernel
theorem d_P_moveWord_106 : decode b_P_moveWord 106 = .ok (.getfield 12, 3) := by decide +kernel
theorem d_P_moveWord_109 : decode b_P_moveWord 109 = .ok (.iload 7, 2) := by decide +kernel
theorem d_P_moveWord_111 : decode b_P_moveWord 111 = .ok (.aload_n 0, 1) := by decide +kernel
theorem d_P_moveWord_112 : decode b_P_moveWord 112 = .ok (.getfield 21, 3) := by decide +kernel
theorem d_P_moveWord_115 : decode b_P_moveWord 115 = .ok (.getfield 103, 3) := by decide +kernel
theorem d_P_moveWord_118 : decode b_P_moveWord 118 = .ok (.iload_n 2, 1) := by decide +kernel
theorem d_P_moveWord_119 : decode b_P_moveWord 119 = .ok (.invokestatic 175, 3) := by decide +kernel
theorem d_P_moveWord_122 : decode b_P_moveWord 122 = .ok (.iaload, 1) := by decide +kernel
theorem d_P_moveWord_123 : decode b_P_moveWord 123 = .ok (.invokevirtual 191, 3) := by decide +kernel
theorem d_P_moveWord_126 : decode b_P_moveWord 126 = .ok (.goto 24, 3) := by decide +kernel
theorem d_P_moveWord_129 : decode b_P_moveWord 129 = .ok (.aload_n 0, 1) := by decide +kernel
theorem d_P_moveWord_130 : decode b_P_moveWord 130 = .ok (.getfield 21, 3) := by decide +kernel
theorem d_P_moveWord_133 : decode b_P_moveWord 133 = .ok (.getfield 103, 3) := by decide +kernel
theorem d_P_moveWord_136 : decode b_P_moveWord 136 = .ok (.iload_n 2, 1) := by decide +kernel
theorem d_P_moveWord_137 : decode b_P_moveWord 137 = .ok (.invokestatic 175, 3) := by decide +kernel
theorem d_P_moveWord_140 : decode b_P_moveWord 140 = .ok (.aload_n 0, 1) := by decide +kernel
theorem d_P_moveWord_141 : decode b_P_moveWord 141 = .ok (.getfield 12, 3) := by decide +kernel
theorem d_P_moveWord_144 : decode b_P_moveWord 144 = .ok (.iload 7, 2) := by decide +kernel
theorem d_P_moveWord_146 : decode b_P_moveWord 146 = .ok (.invokevirtual 70, 3) := by decide +kernel
theorem d_P_moveWord_149 : decode b_P_moveWord 149 = .ok (.iastore, 1) := by decide +kernel
theorem d_P_moveWord_150 : decode b_P_moveWord 150 = .ok (.iload 6, 2) := by decide +kernel
theorem d_P_moveWord_152 : decode b_P_moveWord 152 = .ok (.ifCond .eq 17, 3) := by decide +kernel
theorem d_P_moveWord_155 : decode b_P_moveWord 155 = .ok (.aload_n 0, 1) := by decide +kernel
theorem d_P_moveWord_156 : decode b_P_moveWord 156 = .ok (.getfield 21, 3) := by decide +kernel
theorem d_P_moveWord_159 : decode b_P_moveWord 159 = .ok (.getfield 172, 3) := by decide +kernel
theorem d_P_moveWord_162 : decode b_P_moveWord 162 = .ok (.iload_n 3, 1) := by decide +kernel
theorem d_P_moveWord_163 : decode b_P_moveWord 163 = .ok (.dup2, 1) := by decide +kernel
theorem d_P_moveWord_164 : decode b_P_moveWord 164 = .ok (.iaload, 1) := by decide +kernel
theorem d_P_moveWord_165 : decode b_P_moveWord 165 = .ok (.iload 4, 2) := by decide +kernel
theorem d_P_moveWord_167 : decode b_P_moveWord 167 = .ok (.iadd, 1) := by decide +kernel
theorem d_P_moveWord_168 : decode b_P_moveWord 168 = .ok (.iastore, 1) := by decide +kernel
theorem d_P_moveWord_169 : decode b_P_moveWord 169 = .ok (.iconst 0, 1) := by decide +kernel
theorem d_P_moveWord_170 : decode b_P_moveWord 170 = .ok (.ireturn, 1) := by decide +kernel
theorem d_P_needsTopLevel_0 : decode b_P_needsTopLevel 0 = .ok (.iload_n 0, 1) := by decide +kernel
theorem d_P_needsTopLevel_1 : decode b_P_needsTopLevel 1 = .ok (.bipush 25, 2) := by decide +kernel
theorem d_P_needsTopLevel_3 : decode b_P_needsTopLevel 3 = .ok (.if_icmp .eq 27, 3) := by decide +kernel
theorem d_P_needsTopLevel_6 : decode b_P_needsTopLevel 6 = .ok (.iload_n 0, 1) := by decide +kernel
theorem d_P_needsTopLevel_7 : decode b_P_needsTopLevel 7 = .ok (.bipush 26, 2) := by decide +kernel
theorem d_P_needsTopLevel_9 : decode b_P_needsTopLevel 9 = .ok (.if_icmp .eq 21, 3) := by decide +kernel
theorem d_P_needsTopLevel_12 : decode b_P_needsTopLevel 12 = .ok (.iload_n 0, 1) := by decide +kernel
theorem d_P_needsTopLevel_13 : decode b_P_needsTopLevel 13 = .ok (.bipush 28, 2) := by decide +kernel
theorem d_P_needsTopLevel_15 : decode b_P_needsTopLevel 15 = .ok (.if_icmp .eq 15, 3) := by decide +kernel
theorem d_P_needsTopLevel_18 : decode b_P_needsTopLevel 18 = .ok (.iload_n 0, 1) := by decide +kernel
theorem d_P_needsTopLevel_19 : decode b_P_needsTopLevel 19 = .ok (.bipush 29, 2) := by decide +kernel
theorem d_P_needsTopLevel_21 : decode b_P_needsTopLevel 21 = .ok (.if_icmp .eq 9, 3) := by decide +kernel
theorem d_P_needsTopLevel_24 : decode b_P_needsTopLevel 24 = .ok (.iload_n 0, 1) := by decide +kernel
theorem d_P_needsTopLevel_25 : decode b_P_needsTopLevel 25 = .ok (.bipush 31, 2) := by decide +kernel
theorem d_P_needsTopLevel_27 : decode b_P_needsTopLevel 27 = .ok (.if_icmp .ne 7, 3) := by decide +kernel
theorem d_P_needsTopLevel_30 : decode b_P_needsTopLevel 30 = .ok (.iconst 1, 1) := by decide +kernel
theorem d_P_needsTopLevel_31 : decode b_P_needsTopLevel 31 = .ok (.goto 4, 3) := by decide +kernel
theorem d_P_needsTopLevel_34 : decode b_P_needsTopLevel 34 = .ok (.iconst 0, 1) := by decide +kernel
theorem d_P_needsTopLevel_35 : decode b_P_needsTopLevel 35 = .ok (.ireturn, 1) := by decide +kernel
theorem d_P_openHandler_0 : decode b_P_openHandler 0 = .ok (.aload_n 0, 1) := by decide +kernel
theorem d_P_openHandler_1 : decode b_P_openHandler 1 = .ok (.getfield 21, 3) := by decide +kernel
theorem d_P_openHandler_4 : decode b_P_openHandler 4 = .ok (.aload_n 0, 1) := by decide +kernel
theorem d_P_openHandler_5 : decode b_P_openHandler 5 = .ok (.getfield 12, 3) := by decide +kernel
theorem d_P_openHandler_8 : decode b_P_openHandler 8 = .ok (.iconst 0, 1) := by decide +kernel
theorem d_P_openHandler_9 : decode b_P_openHandler 9 = .ok (.invokevirtual 87, 3) := by decide +kernel
theorem d_P_openHandler_12 : decode b_P_openHandler 12 = .ok (.ifCond .ne 5, 3) := by decide +kernel
theorem d_P_openHandler_15 : decode b_P_openHandler 15 = .ok (.iconst 2, 1) := by decide +kernel
theorem d_P_openHandler_16 : decode b_P_openHandler 16 = .ok (.ireturn, 1) := by decide +kernel
theorem d_P_openHandler_17 : decode b_P_openHandler 17 = .ok (.aload_n 0, 1) := by decide +kernel
theorem d_P_openHandler_18 : decode b_P_openHandler 18 = .ok (.getfield 21, 3) := by decide +kernel
theorem d_P_openHandler_21 : decode b_P_openHandler 21 = .ok (.iload_n 1, 1) := by decide +kernel
theorem d_P_openHandler_22 : decode b_P_openHandler 22 = .ok (.putfield 57, 3) := by decide +kernel
theorem d_P_openHandler_25 : decode b_P_openHandler 25 = .ok (.aload_n 0, 1) := by decide +kernel
theorem d_P_openHandler_26 : decode b_P_openHandler 26 = .ok (.getfield 21, 3) := by decide +kernel
theorem d_P_openHandler_29 : decode b_P_openHandler 29 = .ok (.iconst 1, 1) := by decide +kernel
theorem d_P_openHandler_30 : decode b_P_openHandler 30 = .ok (.putfield 50, 3) := by decide +kernel
theorem d_P_openHandler_33 : decode b_P_openHandler 33 = .ok (.iconst 0, 1) := by decide +kernel
theorem d_P_openHandler_34 : decode b_P_openHandler 34 = .ok (.ireturn, 1) := by decide +kernel
theorem d_P_perform_0 : decode b_P_perform 0 = .ok (.iload_n 1, 1) := by decide +kernel
theorem d_P_perform_1 : decode b_P_perform 1 = .ok (.bipush 31, 2) := by decide +kernel
theorem d_P_perform_3 : decode b_P_perform 3 = .ok (.iand, 1) := by decide +kernel
theorem d_P_perform_4 : decode b_P_perform 4 = .ok (.istore_n 2, 1) := by decide +kernel
theorem d_P_perform_5 : decode b_P_perform 5 = .ok (.iload_n 1, 1) := by decide +kernel
theorem d_P_perform_6 : decode b_P_perform 6 = .ok (.invokestatic 131, 3) := by decide +kernel
theorem d_P_perform_9 : decode b_P_perform 9 = .ok (.istore_n 3, 1) := by decide +kernel
theorem d_P_perform_10 : decode b_P_perform 10 = .ok (.iload_n 2, 1) := by decide +kernel
theorem d_P_perform_11 : decode b_P_perform 11 = .ok (.invokestatic 134, 3) := by decide +kernel
theorem d_P_perform_14 : decode b_P_perform 14 = .ok (.ifCond .eq 18, 3) := by decide +kernel
theorem d_P_perform_17 : decode b_P_perform 17 = .ok (.aload_n 0, 1) := by decide +kernel
theorem d_P_perform_18 : decode b_P_perform 18 = .ok (.getfield 21, 3) := by decide +kernel
theorem d_P_perform_21 : decode b_P_perform 21 = .ok (.getfield 113, 3) := by decide +kernel
theorem d_P_perform_24 : decode b_P_perform 24 = .ok (.iconst 2, 1) := by decide +kernel
theorem d_P_perform_25 : decode b_P_perform 25 = .ok (.if_icmp .eq 7, 3) := by decide +kernel
theorem d_P_perform_28 : decode b_P_perform 28 = .ok (.sipush 257, 3) := by decide +kernel
theorem d_P_perform_31 : decode b_P_perform 31 = .ok (.ireturn, 1) := by decide +kernel
theorem d_P_perform_32 : decode b_P_perform 32 = .ok (.iload_n 2, 1) := by decide +kernel
theorem d_P_perform_33 : decode b_P_perform 33 = .ok (.tableswitch 273 0 31 #[143, 273, 273, 273, 273, 273, 273, 273, 273, 273, 273, 273, 273, 147, 147, 147, 147, 154, 160, 160, 160, 167, 173, 195, 200, 205, 214, 220, 230, 251, 263, 271], 143) := by decide +kernel
theorem d_P_perform_176 : decode b_P_perform 176 = .ok (.sipush 513, 3) := by decide +kernel
theorem d_P_perform_179 : decode b_P_perform 179 = .ok (.ireturn, 1) := by decide +kernel
theorem d_P_perform_180 : decode b_P_perform 180 = .ok (.aload_n 0, 1) := by decide +kernel
theorem d_P_perform_181 : decode b_P_perform 181 = .ok (.iload_n 2, 1) := by decide +kernel
theorem d_P_perform_182 : decode b_P_perform 182 = .ok (.iload_n 1, 1) := by decide +kernel
theorem d_P_perform_183 : decode b_P_perform 183 = .ok (.invokevirtual 137, 3) := by decide +kernel
theorem d_P_perform_186 : decode b_P_perform 186 = .ok (.ireturn, 1) := by decide +kernel
theorem d_P_perform_187 : decode b_P_perform 187 = .ok (.aload_n 0, 1) := by decide +kernel
theorem d_P_perform_188 : decode b_P_perform 188 = .ok (.iload_n 1, 1) := by decide +kernel
theorem d_P_perform_189 : decode b_P_perform 189 = .ok (.invokevirtual 141, 3) := by decide +kernel
theorem d_P_perform_192 : decode b_P_perform 192 = .ok (.ireturn, 1) := by decide +kernel
theorem d_P_perform_193 : decode b_P_perform 193 = .ok (.aload_n 0, 1) := by decide +kernel
theorem d_P_perform_194 : decode b_P_perform 194 = .ok (.iload_n 2, 1) := by decide +kernel
theorem d_P_perform_195 : decode b_P_perform 195 = .ok (.iload_n 1, 1) := by decide +kernel
theorem d_P_perform_196 : decode b_P_perform 196 = .ok (.invokevirtual 144, 3) := by decide +kernel
theorem d_P_perform_199 : decode b_P_perform 199 = .ok (.ireturn, 1) := by decide +kernel
theorem d_P_perform_200 : decode b_P_perform 200 = .ok (.aload_n 0, 1) := by decide +kernel
theorem d_P_perform_201 : decode b_P_perform 201 = .ok (.iload_n 3, 1) := by decide +kernel
theorem d_P_perform_202 : decode b_P_perform 202 = .ok (.invokevirtual 147, 3) := by decide +kernel
theorem d_P_perform_205 : decode b_P_perform 205 = .ok (.ireturn, 1) := by decide +kernel
theorem d_P_perform_206 : decode b_P_perform 206 = .ok (.aload_n 0, 1) := by decide +kernel
theorem d_P_perform_207 : decode b_P_perform 207 = .ok (.getfield 21, 3) := by decide +kernel
theorem d_P_perform_210 : decode b_P_perform 210 = .ok (.getfield 150, 3) := by decide +kernel
theorem d_P_perform_213 : decode b_P_perform 213 = .ok (.ifCond .ne 9, 3) := by decide +kernel
theorem d_P_perform_216 : decode b_P_perform 216 = .ok (.sipush 771, 3) := by decide +kernel
theorem d_P_perform_219 : decode b_P_perform 219 = .ok (.goto 8, 3) := by decide +kernel
theorem d_P_perform_222 : decode b_P_perform 222 = .ok (.aload_n 0, 1) := by decide +kernel
theorem d_P_perform_223 : decode b_P_perform 223 = .ok (.iconst 0, 1) := by decide +kernel
theorem d_P_perform_224 : decode b_P_perform 224 = .ok (.invokevirtual 153, 3) := by decide +kernel
theorem d_P_perform_227 : decode b_P_perform 227 = .ok (.ireturn, 1) := by decide +kernel
theorem d_P_perform_228 : decode b_P_perform 228 = .ok (.aload_n 0, 1) := by decide +kernel
theorem d_P_perform_229 : decode b_P_perform 229 = .ok (.invokevirtual 157, 3) := by decide +kernel
theorem d_P_perform_232 : decode b_P_perform 232 = .ok (.ireturn, 1) := by decide +kernel
theorem d_P_perform_233 : decode b_P_perform 233 = .ok (.aload_n 0, 1) := by decide +kernel
theorem d_P_perform_234 : decode b_P_perform 234 = .ok (.invokevirtual 160, 3) := by decide +kernel
theorem d_P_perform_237 : decode b_P_perform 237 = .ok (.ireturn, 1) := by decide +kernel
theorem d_P_perform_238 : decode b_P_perform 238 = .ok (.aload_n 0, 1) := by decide +kernel
theorem d_P_perform_239 : decode b_P_perform 239 = .ok (.iload_n 3, 1) := by decide +kernel
theorem d_P_perform_240 : decode b_P_perform 240 = .ok (.bipush 15, 2) := by decide +kernel
theorem d_P_perform_242 : decode b_P_perform 242 = .ok (.iand, 1) := by decide +kernel
theorem d_P_perform_243 : decode b_P_perform 243 = .ok (.invokevirtual 163, 3) := by decide +kernel
theorem d_P_perform_246 : decode b_P_perform 246 = .ok (.ireturn, 1) := by decide +kernel
theorem d_P_perform_247 : decode b_P_perform 247 = .ok (.aload_n 0, 1) := by decide +kernel
theorem d_P_perform_248 : decode b_P_perform 248 = .ok (.iconst 1, 1) := by decide +kernel
theorem d_P_perform_249 : decode b_P_perform 249 = .ok (.invokevirtual 153, 3) := by decide +kernel
theorem d_P_perform_252 : decode b_P_perform 252 = .ok (.ireturn, 1) := by decide +kernel
theorem d_P_perform_253 : decode b_P_perform 253 = .ok (.sipush 1536, 3) := by decide +kernel
theorem d_P_perform_256 : decode b_P_perform 256 = .ok (.iload_n 3, 1) := by decide +kernel
theorem d_P_perform_257 : decode b_P_perform 257 = .ok (.sipush 255, 3) := by decide +kernel
theorem d_P_perform_260 : decode b_P_perform 260 = .ok (.iand, 1) := by decide +kernel
theorem d_P_perform_261 : decode b_P_perform 261 = .ok (.iadd, 1) := by decide +kernel
theorem d_P_perform_262 : decode b_P_perform 262 = .ok (.ireturn, 1) := by decide +kernel
theorem d_P_perform_263 : decode b_P_perform 263 = .ok (.aload_n 0, 1) := by decide +kernel
theorem d_P_perform_264 : decode b_P_perform 264 = .ok (.getfield 21, 3) := by decide +kernel
theorem d_P_perform_267 : decode b_P_perform 267 = .ok (.iload_n 3, 1) := by decide +kernel
theorem d_P_perform_268 : decode b_P_perform 268 = .ok (.iconst 1, 1) := by decide +kernel
theorem d_P_perform_269 : decode b_P_perform 269 = .ok (.iand, 1) := by decide +kernel
theorem d_P_perform_270 : decode b_P_perform 270 = .ok (.iconst 1, 1) := by decide +kernel
theorem d_P_perform_271 : decode b_P_perform 271 = .ok (.if_icmp .ne 7, 3) := by decide +kernel
theorem d_P_perform_274 : decode b_P_perform 274 = .ok (.iconst 1, 1) := by decide +kernel
theorem d_P_perform_275 : decode b_P_perform 275 = .ok (.goto 4, 3) := by decide +kernel
theorem d_P_perform_278 : decode b_P_perform 278 = .ok (.iconst 0, 1) := by decide +kernel
theorem d_P_perform_279 : decode b_P_perform 279 = .ok (.putfield 50, 3) := by decide +kernel
theorem d_P_perform_282 : decode b_P_perform 282 = .ok (.iconst 0, 1) := by decide +kernel
theorem d_P_perform_283 : decode b_P_perform 283 = .ok (.ireturn, 1) := by decide +kernel
theorem d_P_perform_284 : decode b_P_perform 284 = .ok (.aload_n 0, 1) := by decide +kernel
theorem d_P_perform_285 : decode b_P_perform 285 = .ok (.getfield 21, 3) := by decide +kernel
theorem d_P_perform_288 : decode b_P_perform 288 = .ok (.iload_n 3, 1) := by decide +kernel
theorem d_P_perform_289 : decode b_P_perform 289 = .ok (.iconst 1, 1) := by decide +kernel
theorem d_P_perform_290 : decode b_P_perform 290 = .ok (.iand, 1) := by decide +kernel
theorem d_P_perform_291 : decode b_P_perform 291 = .ok (.putfield 124, 3) := by decide +kernel
theorem d_P_perform_294 : decode b_P_perform 294 = .ok (.iconst 0, 1) := by decide +kernel
theorem d_P_perform_295 : decode b_P_perform 295 = .ok (.ireturn, 1) := by decide +kernel
theorem d_P_perform_296 : decode b_P_perform 296 = .ok (.aload_n 0, 1) := by decide +kernel
theorem d_P_perform_297 : decode b_P_perform 297 = .ok (.iload_n 3, 1) := by decide +kernel
theorem d_P_perform_298 : decode b_P_perform 298 = .ok (.iconst 1, 1) := by decide +kernel
theorem d_P_perform_299 : decode b_P_perform 299 = .ok (.iand, 1) := by decide +kernel
theorem d_P_perform_300 : decode b_P_perform 300 = .ok (.invokevirtual 166, 3) := by decide +kernel
theorem d_P_perform_303 : decode b_P_perform 303 = .ok (.ireturn, 1) := by decide +kernel
theorem d_P_perform_304 : decode b_P_perform 304 = .ok (.iconst 2, 1) := by decide +kernel
theorem d_P_perform_305 : decode b_P_perform 305 = .ok (.ireturn, 1) := by decide +kernel
theorem d_P_perform_306 : decode b_P_perform 306 = .ok (.aload_n 0, 1) := by decide +kernel
theorem d_P_perform_307 : decode b_P_perform 307 = .ok (.iload_n 2, 1) := by decide +kernel
theorem d_P_perform_308 : decode b_P_perform 308 = .ok (.iload_n 1, 1) := by decide +kernel
theorem d_P_perform_309 : decode b_P_perform 309 = .ok (.invokevirtual 169, 3) := by decide +kernel
theorem d_P_perform_312 : decode b_P_perform 312 = .ok (.ireturn, 1) := by decide +kernel
theorem d_P_readRing_0 : decode b_P_readRing 0 = .ok (.iload_n 1, 1) := by decide +kernel
theorem d_P_readRing_1 : decode b_P_readRing 1 = .ok (.invokestatic 178, 3) := by decide +kernel
theorem d_P_readRing_4 : decode b_P_readRing 4 = .ok (.istore_n 2, 1) := by decide +kernel
theorem d_P_readRing_5 : decode b_P_readRing 5 = .ok (.iload_n 2, 1) := by decide +kernel
theorem d_P_readRing_6 : decode b_P_readRing 6 = .ok (.iconst 1, 1) := by decide +kernel
theorem d_P_readRing_7 : decode b_P_readRing 7 = .ok (.iadd, 1) := by decide +kernel
theorem d_P_readRing_8 : decode b_P_readRing 8 = .ok (.bipush 7, 2) := by decide +kernel
theorem d_P_readRing_10 : decode b_P_readRing 10 = .ok (.iand, 1) := by decide +kernel
theorem d_P_readRing_11 : decode b_P_readRing 11 = .ok (.istore_n 3, 1) := by decide +kernel
theorem d_P_readRing_12 : decode b_P_readRing 12 = .ok (.aload_n 0, 1) := by decide +kernel
theorem d_P_readRing_13 : decode b_P_readRing 13 = .ok (.getfield 21, 3) := by decide +kernel
theorem d_P_readRing_16 : decode b_P_readRing 16 = .ok (.getfield 172, 3) := by decide +kernel
theorem d_P_readRing_19 : decode b_P_readRing 19 = .ok (.iload_n 3, 1) := by decide +kernel
theorem d_P_readRing_20 : decode b_P_readRing 20 = .ok (.iaload, 1) := by decide +kernel
theorem d_P_readRing_21 : decode b_P_readRing 21 = .ok (.ldc 194, 2) := by decide +kernel
theorem d_P_readRing_23 : decode b_P_readRing 23 = .ok (.iand, 1) := by decide +kernel
theorem d_P_readRing_24 : decode b_P_readRing 24 = .ok (.istore 4, 2) := by decide +kernel
theorem d_P_readRing_26 : decode b_P_readRing 26 = .ok (.aload_n 0, 1) := by decide +kernel
theorem d_P_readRing_27 : decode b_P_readRing 27 = .ok (.getfield 21, 3) := by decide +kernel
theorem d_P_readRing_30 : decode b_P_readRing 30 = .ok (.getfield 172, 3) := by decide +kernel
theorem d_P_readRing_33 : decode b_P_readRing 33 = .ok (.iload_n 3, 1) := by decide +kernel
theorem d_P_readRing_34 : decode b_P_readRing 34 = .ok (.iaload, 1) := by decide +kernel
theorem d_P_readRing_35 : decode b_P_readRing 35 = .ok (.bipush 16, 2) := by decide +kernel
theorem d_P_readRing_37 : decode b_P_readRing 37 = .ok (.iushr, 1) := by decide +kernel
theorem d_P_readRing_38 : decode b_P_readRing 38 = .ok (.istore 5, 2) := by decide +kernel
theorem d_P_readRing_40 : decode b_P_readRing 40 = .ok (.iload 5, 2) := by decide +kernel
theorem d_P_readRing_42 : decode b_P_readRing 42 = .ok (.ifCond .eq 10, 3) := by decide +kernel
theorem d_P_readRing_45 : decode b_P_readRing 45 = .ok (.iload 4, 2) := by decide +kernel
theorem d_P_readRing_47 : decode b_P_readRing 47 = .ok (.iload 5, 2) := by decide +kernel
theorem d_P_readRing_49 : decode b_P_readRing 49 = .ok (.if_icmp .lt 7, 3) := by decide +kernel
theorem d_P_readRing_52 : decode b_P_readRing 52 = .ok (.sipush 514, 3) := by decide +kernel
theorem d_P_readRing_55 : decode b_P_readRing 55 = .ok (.ireturn, 1) := by decide +kernel
theorem d_P_readRing_56 : decode b_P_readRing 56 = .ok (.aload_n 0, 1) := by decide +kernel
theorem d_P_readRing_57 : decode b_P_readRing 57 = .ok (.getfield 21, 3) := by decide +kernel
theorem d_P_readRing_60 : decode b_P_readRing 60 = .ok (.getfield 172, 3) := by decide +kernel
theorem d_P_readRing_63 : decode b_P_readRing 63 = .ok (.iload_n 2, 1) := by decide +kernel
theorem d_P_readRing_64 : decode b_P_readRing 64 = .ok (.iaload, 1) := by decide +kernel
theorem d_P_readRing_65 : decode b_P_readRing 65 = .ok (.iload 4, 2) := by decide +kernel
theorem d_P_readRing_67 : decode b_P_readRing 67 = .ok (.iadd, 1) := by decide +kernel
theorem d_P_readRing_68 : decode b_P_readRing 68 = .ok (.istore 6, 2) := by decide +kernel
theorem d_P_readRing_70 : decode b_P_readRing 70 = .ok (.aload_n 0, 1) := by decide +kernel
theorem d_P_readRing_71 : decode b_P_readRing 71 = .ok (.iload 6, 2) := by decide +kernel
theorem d_P_readRing_73 : decode b_P_readRing 73 = .ok (.iconst 1, 1) := by decide +kernel
theorem d_P_readRing_74 : decode b_P_readRing 74 = .ok (.invokevirtual 188, 3) := by decide +kernel
theorem d_P_readRing_77 : decode b_P_readRing 77 = .ok (.istore 7, 2) := by decide +kernel
theorem d_P_readRing_79 : decode b_P_readRing 79 = .ok (.iload 7, 2) := by decide +kernel
theorem d_P_readRing_81 : decode b_P_readRing 81 = .ok (.ifCond .eq 6, 3) := by decide +kernel
theorem d_P_readRing_84 : decode b_P_readRing 84 = .ok (.iload 7, 2) := by decide +kernel
theorem d_P_readRing_86 : decode b_P_readRing 86 = .ok (.ireturn, 1) := by decide +kernel
theorem d_P_readRing_87 : decode b_P_readRing 87 = .ok (.aload_n 0, 1) := by decide +kernel
theorem d_P_readRing_88 : decode b_P_readRing 88 = .ok (.getfield 21, 3) := by decide +kernel
theorem d_P_readRing_91 : decode b_P_readRing 91 = .ok (.getfield 103, 3) := by decide +kernel
theorem d_P_readRing_94 : decode b_P_readRing 94 = .ok (.iload_n 1, 1) := by decide +kernel
theorem d_P_readRing_95 : decode b_P_readRing 95 = .ok (.invokestatic 175, 3) := by decide +kernel
theorem d_P_readRing_98 : decode b_P_readRing 98 = .ok (.aload_n 0, 1) := by decide +kernel
theorem d_P_readRing_99 : decode b_P_readRing 99 = .ok (.getfield 12, 3) := by decide +kernel
theorem d_P_readRing_102 : decode b_P_readRing 102 = .ok (.iload 6, 2) := by decide +kernel
theorem d_P_readRing_104 : decode b_P_readRing 104 = .ok (.invokevirtual 70, 3) := by decide +kernel
theorem d_P_readRing_107 : decode b_P_readRing 107 = .ok (.iastore, 1) := by decide +kernel
theorem d_P_readRing_108 : decode b_P_readRing 108 = .ok (.aload_n 0, 1) := by decide +kernel
theorem d_P_readRing_109 : decode b_P_readRing 109 = .ok (.getfield 21, 3) := by decide +kernel
theorem d_P_readRing_112 : decode b_P_readRing 112 = .ok (.getfield 172, 3) := by decide +kernel
theorem d_P_readRing_115 : decode b_P_readRing 115 = .ok (.iload_n 3, 1) := by decide +kernel
theorem d_P_readRing_116 : decode b_P_readRing 116 = .ok (.iload 5, 2) := by decide +kernel
theorem d_P_readRing_118 : decode b_P_readRing 118 = .ok (.ldc 195, 2) := by decide +kernel
theorem d_P_readRing_120 : decode b_P_readRing 120 = .ok (.imul, 1) := by decide +kernel
theorem d_P_readRing_121 : decode b_P_readRing 121 = .ok (.iload 4, 2) := by decide +kernel
theorem d_P_readRing_123 : decode b_P_readRing 123 = .ok (.iload_n 1, 1) := by decide +kernel
theorem d_P_readRing_124 : decode b_P_readRing 124 = .ok (.invokestatic 131, 3) := by decide +kernel
theorem d_P_readRing_127 : decode b_P_readRing 127 = .ok (.iadd, 1) := by decide +kernel
theorem d_P_readRing_128 : decode b_P_readRing 128 = .ok (.iload 5, 2) := by decide +kernel
theorem d_P_readRing_130 : decode b_P_readRing 130 = .ok (.invokestatic 196, 3) := by decide +kernel
theorem d_P_readRing_133 : decode b_P_readRing 133 = .ok (.iadd, 1) := by decide +kernel
theorem d_P_readRing_134 : decode b_P_readRing 134 = .ok (.iastore, 1) := by decide +kernel
theorem d_P_readRing_135 : decode b_P_readRing 135 = .ok (.iconst 0, 1) := by decide +kernel
theorem d_P_readRing_136 : decode b_P_readRing 136 = .ok (.ireturn, 1) := by decide +kernel
theorem d_P_refuseFetch_0 : decode b_P_refuseFetch 0 = .ok (.aload_n 0, 1) := by decide +kernel
theorem d_P_refuseFetch_1 : decode b_P_refuseFetch 1 = .ok (.getfield 21, 3) := by decide +kernel
theorem d_P_refuseFetch_4 : decode b_P_refuseFetch 4 = .ok (.getfield 67, 3) := by decide +kernel
theorem d_P_refuseFetch_7 : decode b_P_refuseFetch 7 = .ok (.invokestatic 116, 3) := by decide +kernel
theorem d_P_refuseFetch_10 : decode b_P_refuseFetch 10 = .ok (.ifCond .ne 7, 3) := by decide +kernel
theorem d_P_refuseFetch_13 : decode b_P_refuseFetch 13 = .ok (.sipush 1025, 3) := by decide +kernel
theorem d_P_refuseFetch_16 : decode b_P_refuseFetch 16 = .ok (.ireturn, 1) := by decide +kernel
theorem d_P_refuseFetch_17 : decode b_P_refuseFetch 17 = .ok (.aload_n 0, 1) := by decide +kernel
theorem d_P_refuseFetch_18 : decode b_P_refuseFetch 18 = .ok (.invokevirtual 120, 3) := by decide +kernel
theorem d_P_refuseFetch_21 : decode b_P_refuseFetch 21 = .ok (.ifCond .eq 27, 3) := by decide +kernel
theorem d_P_refuseFetch_24 : decode b_P_refuseFetch 24 = .ok (.aload_n 0, 1) := by decide +kernel
theorem d_P_refuseFetch_25 : decode b_P_refuseFetch 25 = .ok (.getfield 28, 3) := by decide +kernel
theorem d_P_refuseFetch_28 : decode b_P_refuseFetch 28 = .ok (.aload_n 0, 1) := by decide +kernel
theorem d_P_refuseFetch_29 : decode b_P_refuseFetch 29 = .ok (.getfield 21, 3) := by decide +kernel
theorem d_P_refuseFetch_32 : decode b_P_refuseFetch 32 = .ok (.getfield 124, 3) := by decide +kernel
theorem d_P_refuseFetch_35 : decode b_P_refuseFetch 35 = .ok (.aload_n 0, 1) := by decide +kernel
theorem d_P_refuseFetch_36 : decode b_P_refuseFetch 36 = .ok (.getfield 21, 3) := by decide +kernel
theorem d_P_refuseFetch_39 : decode b_P_refuseFetch 39 = .ok (.getfield 67, 3) := by decide +kernel
theorem d_P_refuseFetch_42 : decode b_P_refuseFetch 42 = .ok (.invokevirtual 127, 3) := by decide +kernel
theorem d_P_refuseFetch_45 : decode b_P_refuseFetch 45 = .ok (.ifCond .eq 7, 3) := by decide +kernel
theorem d_P_refuseFetch_48 : decode b_P_refuseFetch 48 = .ok (.iconst 1, 1) := by decide +kernel
theorem d_P_refuseFetch_49 : decode b_P_refuseFetch 49 = .ok (.goto 4, 3) := by decide +kernel
theorem d_P_refuseFetch_52 : decode b_P_refuseFetch 52 = .ok (.iconst 0, 1) := by decide +kernel
theorem d_P_refuseFetch_53 : decode b_P_refuseFetch 53 = .ok (.istore_n 1, 1) := by decide +kernel
theorem d_P_refuseFetch_54 : decode b_P_refuseFetch 54 = .ok (.iload_n 1, 1) := by decide +kernel
theorem d_P_refuseFetch_55 : decode b_P_refuseFetch 55 = .ok (.ifCond .eq 7, 3) := by decide +kernel
theorem d_P_refuseFetch_58 : decode b_P_refuseFetch 58 = .ok (.iconst 0, 1) := by decide +kernel
theorem d_P_refuseFetch_59 : decode b_P_refuseFetch 59 = .ok (.goto 6, 3) := by decide +kernel
theorem d_P_refuseFetch_62 : decode b_P_refuseFetch 62 = .ok (.sipush 260, 3) := by decide +kernel
theorem d_P_refuseFetch_65 : decode b_P_refuseFetch 65 = .ok (.ireturn, 1) := by decide +kernel
theorem d_P_refuseWord_0 : decode b_P_refuseWord 0 = .ok (.iload_n 1, 1) := by decide +kernel
theorem d_P_refuseWord_1 : decode b_P_refuseWord 1 = .ok (.invokestatic 116, 3) := by decide +kernel
theorem d_P_refuseWord_4 : decode b_P_refuseWord 4 = .ok (.ifCond .ne 7, 3) := by decide +kernel
theorem d_P_refuseWord_7 : decode b_P_refuseWord 7 = .ok (.sipush 1025, 3) := by decide +kernel
theorem d_P_refuseWord_10 : decode b_P_refuseWord 10 = .ok (.ireturn, 1) := by decide +kernel
theorem d_P_refuseWord_11 : decode b_P_refuseWord 11 = .ok (.aload_n 0, 1) := by decide +kernel
theorem d_P_refuseWord_12 : decode b_P_refuseWord 12 = .ok (.invokevirtual 120, 3) := by decide +kernel
theorem d_P_refuseWord_15 : decode b_P_refuseWord 15 = .ok (.ifCond .eq 22, 3) := by decide +kernel
theorem d_P_refuseWord_18 : decode b_P_refuseWord 18 = .ok (.aload_n 0, 1) := by decide +kernel
theorem d_P_refuseWord_19 : decode b_P_refuseWord 19 = .ok (.getfield 28, 3) := by decide +kernel
theorem d_P_refuseWord_22 : decode b_P_refuseWord 22 = .ok (.aload_n 0, 1) := by decide +kernel
theorem d_P_refuseWord_23 : decode b_P_refuseWord 23 = .ok (.getfield 21, 3) := by decide +kernel
theorem d_P_refuseWord_26 : decode b_P_refuseWord 26 = .ok (.getfield 124, 3) := by decide +kernel
theorem d_P_refuseWord_29 : decode b_P_refuseWord 29 = .ok (.iload_n 1, 1) := by decide +kernel
theorem d_P_refuseWord_30 : decode b_P_refuseWord 30 = .ok (.iload_n 2, 1) := by decide +kernel
theorem d_P_refuseWord_31 : decode b_P_refuseWord 31 = .ok (.invokevirtual 184, 3) := by decide +kernel
theorem d_P_refuseWord_34 : decode b_P_refuseWord 34 = .ok (.ifCond .eq 5, 3) := by decide +kernel
theorem d_P_refuseWord_37 : decode b_P_refuseWord 37 = .ok (.iconst 0, 1) := by decide +kernel
theorem d_P_refuseWord_38 : decode b_P_refuseWord 38 = .ok (.ireturn, 1) := by decide +kernel
theorem d_P_refuseWord_39 : decode b_P_refuseWord 39 = .ok (.iload_n 2, 1) := by decide +kernel
theorem d_P_refuseWord_40 : decode b_P_refuseWord 40 = .ok (.iconst 1, 1) := by decide +kernel
theorem d_P_refuseWord_41 : decode b_P_refuseWord 41 = .ok (.if_icmp .ne 9, 3) := by decide +kernel
theorem d_P_refuseWord_44 : decode b_P_refuseWord 44 = .ok (.sipush 258, 3) := by decide +kernel
theorem d_P_refuseWord_47 : decode b_P_refuseWord 47 = .ok (.goto 6, 3) := by decide +kernel
theorem d_P_refuseWord_50 : decode b_P_refuseWord 50 = .ok (.sipush 259, 3) := by decide +kernel
theorem d_P_refuseWord_53 : decode b_P_refuseWord 53 = .ok (.ireturn, 1) := by decide +kernel
theorem d_P_step_0 : decode b_P_step 0 = .ok (.aload_n 0, 1) := by decide +kernel
theorem d_P_step_1 : decode b_P_step 1 = .ok (.getfield 35, 3) := by decide +kernel
theorem d_P_step_4 : decode b_P_step 4 = .ok (.invokevirtual 43, 3) := by decide +kernel
theorem d_P_step_7 : decode b_P_step 7 = .ok (.aload_n 0, 1) := by decide +kernel
theorem d_P_step_8 : decode b_P_step 8 = .ok (.getfield 21, 3) := by decide +kernel
theorem d_P_step_11 : decode b_P_step 11 = .ok (.iconst 0, 1) := by decide +kernel
theorem d_P_step_12 : decode b_P_step 12 = .ok (.putfield 46, 3) := by decide +kernel
theorem d_P_step_15 : decode b_P_step 15 = .ok (.aload_n 0, 1) := by decide +kernel
theorem d_P_step_16 : decode b_P_step 16 = .ok (.getfield 21, 3) := by decide +kernel
theorem d_P_step_19 : decode b_P_step 19 = .ok (.getfield 50, 3) := by decide +kernel
theorem d_P_step_22 : decode b_P_step 22 = .ok (.ifCond .eq 13, 3) := by decide +kernel
theorem d_P_step_25 : decode b_P_step 25 = .ok (.aload_n 0, 1) := by decide +kernel
theorem d_P_step_26 : decode b_P_step 26 = .ok (.getfield 35, 3) := by decide +kernel
theorem d_P_step_29 : decode b_P_step 29 = .ok (.invokevirtual 53, 3) := by decide +kernel
theorem d_P_step_32 : decode b_P_step 32 = .ok (.goto 4, 3) := by decide +kernel
theorem d_P_step_35 : decode b_P_step 35 = .ok (.iconst 0, 1) := by decide +kernel
theorem d_P_step_36 : decode b_P_step 36 = .ok (.istore_n 1, 1) := by decide +kernel
theorem d_P_step_37 : decode b_P_step 37 = .ok (.iload_n 1, 1) := by decide +kernel
theorem d_P_step_38 : decode b_P_step 38 = .ok (.aload_n 0, 1) := by decide +kernel
theorem d_P_step_39 : decode b_P_step 39 = .ok (.getfield 21, 3) := by decide +kernel
theorem d_P_step_42 : decode b_P_step 42 = .ok (.getfield 57, 3) := by decide +kernel
theorem d_P_step_45 : decode b_P_step 45 = .ok (.if_icmp .le 11, 3) := by decide +kernel
theorem d_P_step_48 : decode b_P_step 48 = .ok (.aload_n 0, 1) := by decide +kernel
theorem d_P_step_49 : decode b_P_step 49 = .ok (.iload_n 1, 1) := by decide +kernel
theorem d_P_step_50 : decode b_P_step 50 = .ok (.invokevirtual 60, 3) := by decide +kernel
theorem d_P_step_53 : decode b_P_step 53 = .ok (.goto 38, 3) := by decide +kernel
theorem d_P_step_56 : decode b_P_step 56 = .ok (.aload_n 0, 1) := by decide +kernel
theorem d_P_step_57 : decode b_P_step 57 = .ok (.invokevirtual 64, 3) := by decide +kernel
theorem d_P_step_60 : decode b_P_step 60 = .ok (.istore_n 2, 1) := by decide +kernel
theorem d_P_step_61 : decode b_P_step 61 = .ok (.aload_n 0, 1) := by decide +kernel
theorem d_P_step_62 : decode b_P_step 62 = .ok (.iload_n 2, 1) := by decide +kernel
theorem d_P_step_63 : decode b_P_step 63 = .ok (.ifCond .ne 24, 3) := by decide +kernel
theorem d_P_step_66 : decode b_P_step 66 = .ok (.aload_n 0, 1) := by decide +kernel
theorem d_P_step_67 : decode b_P_step 67 = .ok (.aload_n 0, 1) := by decide +kernel
theorem d_P_step_68 : decode b_P_step 68 = .ok (.getfield 12, 3) := by decide +kernel
theorem d_P_step_71 : decode b_P_step 71 = .ok (.aload_n 0, 1) := by decide +kernel
theorem d_P_step_72 : decode b_P_step 72 = .ok (.getfield 21, 3) := by decide +kernel
theorem d_P_step_75 : decode b_P_step 75 = .ok (.getfield 67, 3) := by decide +kernel
theorem d_P_step_78 : decode b_P_step 78 = .ok (.invokevirtual 70, 3) := by decide +kernel
theorem d_P_step_81 : decode b_P_step 81 = .ok (.invokevirtual 74, 3) := by decide +kernel
theorem d_P_step_84 : decode b_P_step 84 = .ok (.goto 4, 3) := by decide +kernel
theorem d_P_step_87 : decode b_P_step 87 = .ok (.iload_n 2, 1) := by decide +kernel
theorem d_P_step_88 : decode b_P_step 88 = .ok (.invokevirtual 77, 3) := by decide +kernel
theorem d_P_step_91 : decode b_P_step 91 = .ok (.aload_n 0, 1) := by decide +kernel
theorem d_P_step_92 : decode b_P_step 92 = .ok (.getfield 80, 3) := by decide +kernel
theorem d_P_step_95 : decode b_P_step 95 = .ok (.ifCond .eq 27, 3) := by decide +kernel
theorem d_P_step_98 : decode b_P_step 98 = .ok (.aload_n 0, 1) := by decide +kernel
theorem d_P_step_99 : decode b_P_step 99 = .ok (.getfield 21, 3) := by decide +kernel
theorem d_P_step_102 : decode b_P_step 102 = .ok (.getfield 46, 3) := by decide +kernel
theorem d_P_step_105 : decode b_P_step 105 = .ok (.ifCond .eq 17, 3) := by decide +kernel
theorem d_P_step_108 : decode b_P_step 108 = .ok (.aload_n 0, 1) := by decide +kernel
theorem d_P_step_109 : decode b_P_step 109 = .ok (.sipush 769, 3) := by decide +kernel
theorem d_P_step_112 : decode b_P_step 112 = .ok (.aload_n 0, 1) := by decide +kernel
end
section
theorem d_P_step_113 : decode b_P_step 113 = .ok (.getfield 21, 3) := by decide +kernel
theorem d_P_step_116 : decode b_P_step 116 = .ok (.getfield 67, 3) := by decide +kernel
theorem d_P_step_119 : decode b_P_step 119 = .ok (.invokevirtual 83, 3) := by decide +kernel
theorem d_P_step_122 : decode b_P_step 122 = .ok (.return_, 1) := by decide +kernel
theorem d_P_takeInterrupt_0 : decode b_P_takeInterrupt 0 = .ok (.aload_n 0, 1) := by decide +kernel
theorem d_P_takeInterrupt_1 : decode b_P_takeInterrupt 1 = .ok (.getfield 21, 3) := by decide +kernel
theorem d_P_takeInterrupt_4 : decode b_P_takeInterrupt 4 = .ok (.aload_n 0, 1) := by decide +kernel
theorem d_P_takeInterrupt_5 : decode b_P_takeInterrupt 5 = .ok (.getfield 12, 3) := by decide +kernel
theorem d_P_takeInterrupt_8 : decode b_P_takeInterrupt 8 = .ok (.iconst 1, 1) := by decide +kernel
theorem d_P_takeInterrupt_9 : decode b_P_takeInterrupt 9 = .ok (.invokevirtual 87, 3) := by decide +kernel
theorem d_P_takeInterrupt_12 : decode b_P_takeInterrupt 12 = .ok (.ifCond .ne 9, 3) := by decide +kernel
theorem d_P_takeInterrupt_15 : decode b_P_takeInterrupt 15 = .ok (.aload_n 0, 1) := by decide +kernel
theorem d_P_takeInterrupt_16 : decode b_P_takeInterrupt 16 = .ok (.iconst 0, 1) := by decide +kernel
theorem d_P_takeInterrupt_17 : decode b_P_takeInterrupt 17 = .ok (.putfield 80, 3) := by decide +kernel
theorem d_P_takeInterrupt_20 : decode b_P_takeInterrupt 20 = .ok (.return_, 1) := by decide +kernel
theorem d_P_takeInterrupt_21 : decode b_P_takeInterrupt 21 = .ok (.aload_n 0, 1) := by decide +kernel
theorem d_P_takeInterrupt_22 : decode b_P_takeInterrupt 22 = .ok (.getfield 35, 3) := by decide +kernel
theorem d_P_takeInterrupt_25 : decode b_P_takeInterrupt 25 = .ok (.iload_n 1, 1) := by decide +kernel
theorem d_P_takeInterrupt_26 : decode b_P_takeInterrupt 26 = .ok (.invokevirtual 91, 3) := by decide +kernel
theorem d_P_takeInterrupt_29 : decode b_P_takeInterrupt 29 = .ok (.aload_n 0, 1) := by decide +kernel
theorem d_P_takeInterrupt_30 : decode b_P_takeInterrupt 30 = .ok (.getfield 21, 3) := by decide +kernel
theorem d_P_takeInterrupt_33 : decode b_P_takeInterrupt 33 = .ok (.iload_n 1, 1) := by decide +kernel
theorem d_P_takeInterrupt_34 : decode b_P_takeInterrupt 34 = .ok (.putfield 57, 3) := by decide +kernel
theorem d_P_takeInterrupt_37 : decode b_P_takeInterrupt 37 = .ok (.aload_n 0, 1) := by decide +kernel
theorem d_P_takeInterrupt_38 : decode b_P_takeInterrupt 38 = .ok (.getfield 21, 3) := by decide +kernel
theorem d_P_takeInterrupt_41 : decode b_P_takeInterrupt 41 = .ok (.aload_n 0, 1) := by decide +kernel
theorem d_P_takeInterrupt_42 : decode b_P_takeInterrupt 42 = .ok (.getfield 94, 3) := by decide +kernel
theorem d_P_takeInterrupt_45 : decode b_P_takeInterrupt 45 = .ok (.iconst 4, 1) := by decide +kernel
theorem d_P_takeInterrupt_46 : decode b_P_takeInterrupt 46 = .ok (.iload_n 1, 1) := by decide +kernel
theorem d_P_takeInterrupt_47 : decode b_P_takeInterrupt 47 = .ok (.imul, 1) := by decide +kernel
theorem d_P_takeInterrupt_48 : decode b_P_takeInterrupt 48 = .ok (.iadd, 1) := by decide +kernel
theorem d_P_takeInterrupt_49 : decode b_P_takeInterrupt 49 = .ok (.aload_n 0, 1) := by decide +kernel
theorem d_P_takeInterrupt_50 : decode b_P_takeInterrupt 50 = .ok (.getfield 21, 3) := by decide +kernel
theorem d_P_takeInterrupt_53 : decode b_P_takeInterrupt 53 = .ok (.getfield 67, 3) := by decide +kernel
theorem d_P_takeInterrupt_56 : decode b_P_takeInterrupt 56 = .ok (.invokevirtual 97, 3) := by decide +kernel
theorem d_P_takeInterrupt_59 : decode b_P_takeInterrupt 59 = .ok (.return_, 1) := by decide +kernel
theorem d_P_takeTrap_0 : decode b_P_takeTrap 0 = .ok (.aload_n 0, 1) := by decide +kernel
theorem d_P_takeTrap_1 : decode b_P_takeTrap 1 = .ok (.getfield 21, 3) := by decide +kernel
theorem d_P_takeTrap_4 : decode b_P_takeTrap 4 = .ok (.aload_n 0, 1) := by decide +kernel
theorem d_P_takeTrap_5 : decode b_P_takeTrap 5 = .ok (.getfield 12, 3) := by decide +kernel
theorem d_P_takeTrap_8 : decode b_P_takeTrap 8 = .ok (.iconst 1, 1) := by decide +kernel
theorem d_P_takeTrap_9 : decode b_P_takeTrap 9 = .ok (.invokevirtual 87, 3) := by decide +kernel
theorem d_P_takeTrap_12 : decode b_P_takeTrap 12 = .ok (.ifCond .ne 9, 3) := by decide +kernel
theorem d_P_takeTrap_15 : decode b_P_takeTrap 15 = .ok (.aload_n 0, 1) := by decide +kernel
theorem d_P_takeTrap_16 : decode b_P_takeTrap 16 = .ok (.iconst 0, 1) := by decide +kernel
theorem d_P_takeTrap_17 : decode b_P_takeTrap 17 = .ok (.putfield 80, 3) := by decide +kernel
theorem d_P_takeTrap_20 : decode b_P_takeTrap 20 = .ok (.return_, 1) := by decide +kernel
theorem d_P_takeTrap_21 : decode b_P_takeTrap 21 = .ok (.iload_n 1, 1) := by decide +kernel
theorem d_P_takeTrap_22 : decode b_P_takeTrap 22 = .ok (.bipush 8, 2) := by decide +kernel
theorem d_P_takeTrap_24 : decode b_P_takeTrap 24 = .ok (.ishr, 1) := by decide +kernel
theorem d_P_takeTrap_25 : decode b_P_takeTrap 25 = .ok (.istore_n 3, 1) := by decide +kernel
theorem d_P_takeTrap_26 : decode b_P_takeTrap 26 = .ok (.iload_n 1, 1) := by decide +kernel
theorem d_P_takeTrap_27 : decode b_P_takeTrap 27 = .ok (.sipush 255, 3) := by decide +kernel
theorem d_P_takeTrap_30 : decode b_P_takeTrap 30 = .ok (.iand, 1) := by decide +kernel
theorem d_P_takeTrap_31 : decode b_P_takeTrap 31 = .ok (.istore 4, 2) := by decide +kernel
theorem d_P_takeTrap_33 : decode b_P_takeTrap 33 = .ok (.aload_n 0, 1) := by decide +kernel
theorem d_P_takeTrap_34 : decode b_P_takeTrap 34 = .ok (.getfield 21, 3) := by decide +kernel
theorem d_P_takeTrap_37 : decode b_P_takeTrap 37 = .ok (.aload_n 0, 1) := by decide +kernel
theorem d_P_takeTrap_38 : decode b_P_takeTrap 38 = .ok (.getfield 100, 3) := by decide +kernel
theorem d_P_takeTrap_41 : decode b_P_takeTrap 41 = .ok (.iconst 4, 1) := by decide +kernel
theorem d_P_takeTrap_42 : decode b_P_takeTrap 42 = .ok (.iload_n 3, 1) := by decide +kernel
theorem d_P_takeTrap_43 : decode b_P_takeTrap 43 = .ok (.imul, 1) := by decide +kernel
theorem d_P_takeTrap_44 : decode b_P_takeTrap 44 = .ok (.iadd, 1) := by decide +kernel
theorem d_P_takeTrap_45 : decode b_P_takeTrap 45 = .ok (.iload_n 2, 1) := by decide +kernel
theorem d_P_takeTrap_46 : decode b_P_takeTrap 46 = .ok (.invokevirtual 97, 3) := by decide +kernel
theorem d_P_takeTrap_49 : decode b_P_takeTrap 49 = .ok (.aload_n 0, 1) := by decide +kernel
theorem d_P_takeTrap_50 : decode b_P_takeTrap 50 = .ok (.getfield 21, 3) := by decide +kernel
theorem d_P_takeTrap_53 : decode b_P_takeTrap 53 = .ok (.getfield 103, 3) := by decide +kernel
theorem d_P_takeTrap_56 : decode b_P_takeTrap 56 = .ok (.bipush 7, 2) := by decide +kernel
theorem d_P_takeTrap_58 : decode b_P_takeTrap 58 = .ok (.iload 4, 2) := by decide +kernel
theorem d_P_takeTrap_60 : decode b_P_takeTrap 60 = .ok (.iastore, 1) := by decide +kernel
theorem d_P_takeTrap_61 : decode b_P_takeTrap 61 = .ok (.aload_n 0, 1) := by decide +kernel
theorem d_P_takeTrap_62 : decode b_P_takeTrap 62 = .ok (.dup, 1) := by decide +kernel
theorem d_P_takeTrap_63 : decode b_P_takeTrap 63 = .ok (.getfield 107, 3) := by decide +kernel
theorem d_P_takeTrap_66 : decode b_P_takeTrap 66 = .ok (.iconst 1, 1) := by decide +kernel
theorem d_P_takeTrap_67 : decode b_P_takeTrap 67 = .ok (.iadd, 1) := by decide +kernel
theorem d_P_takeTrap_68 : decode b_P_takeTrap 68 = .ok (.putfield 107, 3) := by decide +kernel
theorem d_P_takeTrap_71 : decode b_P_takeTrap 71 = .ok (.aload_n 0, 1) := by decide +kernel
theorem d_P_takeTrap_72 : decode b_P_takeTrap 72 = .ok (.bipush 16, 2) := by decide +kernel
theorem d_P_takeTrap_74 : decode b_P_takeTrap 74 = .ok (.iload_n 3, 1) := by decide +kernel
theorem d_P_takeTrap_75 : decode b_P_takeTrap 75 = .ok (.imul, 1) := by decide +kernel
theorem d_P_takeTrap_76 : decode b_P_takeTrap 76 = .ok (.iload 4, 2) := by decide +kernel
theorem d_P_takeTrap_78 : decode b_P_takeTrap 78 = .ok (.bipush 15, 2) := by decide +kernel
theorem d_P_takeTrap_80 : decode b_P_takeTrap 80 = .ok (.iand, 1) := by decide +kernel
theorem d_P_takeTrap_81 : decode b_P_takeTrap 81 = .ok (.iadd, 1) := by decide +kernel
theorem d_P_takeTrap_82 : decode b_P_takeTrap 82 = .ok (.putfield 39, 3) := by decide +kernel
theorem d_P_takeTrap_85 : decode b_P_takeTrap 85 = .ok (.iload_n 3, 1) := by decide +kernel
theorem d_P_takeTrap_86 : decode b_P_takeTrap 86 = .ok (.iconst 3, 1) := by decide +kernel
theorem d_P_takeTrap_87 : decode b_P_takeTrap 87 = .ok (.if_icmp .ne 11, 3) := by decide +kernel
theorem d_P_takeTrap_90 : decode b_P_takeTrap 90 = .ok (.aload_n 0, 1) := by decide +kernel
theorem d_P_takeTrap_91 : decode b_P_takeTrap 91 = .ok (.getfield 21, 3) := by decide +kernel
theorem d_P_takeTrap_94 : decode b_P_takeTrap 94 = .ok (.iconst 0, 1) := by decide +kernel
theorem d_P_takeTrap_95 : decode b_P_takeTrap 95 = .ok (.putfield 46, 3) := by decide +kernel
theorem d_P_takeTrap_98 : decode b_P_takeTrap 98 = .ok (.return_, 1) := by decide +kernel
theorem d_Z_floorMod_0 : decode b_Z_floorMod 0 = .ok (.iload_n 0, 1) := by decide +kernel
theorem d_Z_floorMod_1 : decode b_Z_floorMod 1 = .ok (.iload_n 1, 1) := by decide +kernel
theorem d_Z_floorMod_2 : decode b_Z_floorMod 2 = .ok (.irem, 1) := by decide +kernel
theorem d_Z_floorMod_3 : decode b_Z_floorMod 3 = .ok (.istore_n 2, 1) := by decide +kernel
theorem d_Z_floorMod_4 : decode b_Z_floorMod 4 = .ok (.iload_n 2, 1) := by decide +kernel
theorem d_Z_floorMod_5 : decode b_Z_floorMod 5 = .ok (.iload_n 1, 1) := by decide +kernel
theorem d_Z_floorMod_6 : decode b_Z_floorMod 6 = .ok (.ixor, 1) := by decide +kernel
theorem d_Z_floorMod_7 : decode b_Z_floorMod 7 = .ok (.ifCond .ge 11, 3) := by decide +kernel
theorem d_Z_floorMod_10 : decode b_Z_floorMod 10 = .ok (.iload_n 2, 1) := by decide +kernel
theorem d_Z_floorMod_11 : decode b_Z_floorMod 11 = .ok (.ifCond .eq 7, 3) := by decide +kernel
theorem d_Z_floorMod_14 : decode b_Z_floorMod 14 = .ok (.iload_n 2, 1) := by decide +kernel
theorem d_Z_floorMod_15 : decode b_Z_floorMod 15 = .ok (.iload_n 1, 1) := by decide +kernel
theorem d_Z_floorMod_16 : decode b_Z_floorMod 16 = .ok (.iadd, 1) := by decide +kernel
theorem d_Z_floorMod_17 : decode b_Z_floorMod 17 = .ok (.istore_n 2, 1) := by decide +kernel
theorem d_Z_floorMod_18 : decode b_Z_floorMod 18 = .ok (.iload_n 2, 1) := by decide +kernel
theorem d_Z_floorMod_19 : decode b_Z_floorMod 19 = .ok (.ireturn, 1) := by decide +kernel
end
section
theorem d_C_guard_0 : decode b_C_guard 0 = .ok (.aload_n 0, 1) := by decide +kernel
theorem d_C_guard_1 : decode b_C_guard 1 = .ok (.getfield 10, 3) := by decide +kernel
theorem d_C_guard_4 : decode b_C_guard 4 = .ok (.iload_n 1, 1) := by decide +kernel
theorem d_C_guard_5 : decode b_C_guard 5 = .ok (.putfield 86, 3) := by decide +kernel
theorem d_C_guard_8 : decode b_C_guard 8 = .ok (.return_, 1) := by decide +kernel
theorem d_C_halt_0 : decode b_C_halt 0 = .ok (.aload_n 0, 1) := by decide +kernel
theorem d_C_halt_1 : decode b_C_halt 1 = .ok (.getfield 10, 3) := by decide +kernel
theorem d_C_halt_4 : decode b_C_halt 4 = .ok (.getfield 37, 3) := by decide +kernel
theorem d_C_halt_7 : decode b_C_halt 7 = .ok (.istore_n 1, 1) := by decide +kernel
theorem d_C_halt_8 : decode b_C_halt 8 = .ok (.aload_n 0, 1) := by decide +kernel
theorem d_C_halt_9 : decode b_C_halt 9 = .ok (.getfield 10, 3) := by decide +kernel
theorem d_C_halt_12 : decode b_C_halt 12 = .ok (.iconst 0, 1) := by decide +kernel
theorem d_C_halt_13 : decode b_C_halt 13 = .ok (.putfield 37, 3) := by decide +kernel
theorem d_C_halt_16 : decode b_C_halt 16 = .ok (.iload_n 1, 1) := by decide +kernel
theorem d_C_halt_17 : decode b_C_halt 17 = .ok (.ireturn, 1) := by decide +kernel
theorem d_C_list_0 : decode b_C_list 0 = .ok (.iload_n 1, 1) := by decide +kernel
theorem d_C_list_1 : decode b_C_list 1 = .ok (.ifCond .lt 8, 3) := by decide +kernel
theorem d_C_list_4 : decode b_C_list 4 = .ok (.iload_n 1, 1) := by decide +kernel
theorem d_C_list_5 : decode b_C_list 5 = .ok (.iconst 1, 1) := by decide +kernel
theorem d_C_list_6 : decode b_C_list 6 = .ok (.if_icmp .le 5, 3) := by decide +kernel
theorem d_C_list_9 : decode b_C_list 9 = .ok (.iconst (-1), 1) := by decide +kernel
theorem d_C_list_10 : decode b_C_list 10 = .ok (.ireturn, 1) := by decide +kernel
theorem d_C_list_11 : decode b_C_list 11 = .ok (.aload_n 0, 1) := by decide +kernel
theorem d_C_list_12 : decode b_C_list 12 = .ok (.getfield 10, 3) := by decide +kernel
theorem d_C_list_15 : decode b_C_list 15 = .ok (.getfield 22, 3) := by decide +kernel
theorem d_C_list_18 : decode b_C_list 18 = .ok (.iload_n 1, 1) := by decide +kernel
theorem d_C_list_19 : decode b_C_list 19 = .ok (.ifCond .ne 16, 3) := by decide +kernel
theorem d_C_list_22 : decode b_C_list 22 = .ok (.aload_n 0, 1) := by decide +kernel
theorem d_C_list_23 : decode b_C_list 23 = .ok (.getfield 10, 3) := by decide +kernel
theorem d_C_list_26 : decode b_C_list 26 = .ok (.getfield 50, 3) := by decide +kernel
theorem d_C_list_29 : decode b_C_list 29 = .ok (.getfield 54, 3) := by decide +kernel
theorem d_C_list_32 : decode b_C_list 32 = .ok (.goto 13, 3) := by decide +kernel
theorem d_C_list_35 : decode b_C_list 35 = .ok (.aload_n 0, 1) := by decide +kernel
theorem d_C_list_36 : decode b_C_list 36 = .ok (.getfield 10, 3) := by decide +kernel
theorem d_C_list_39 : decode b_C_list 39 = .ok (.getfield 50, 3) := by decide +kernel
theorem d_C_list_42 : decode b_C_list 42 = .ok (.getfield 63, 3) := by decide +kernel
theorem d_C_list_45 : decode b_C_list 45 = .ok (.invokevirtual 165, 3) := by decide +kernel
theorem d_C_list_48 : decode b_C_list 48 = .ok (.ireturn, 1) := by decide +kernel
theorem d_C_look_0 : decode b_C_look 0 = .ok (.aload_n 0, 1) := by decide +kernel
theorem d_C_look_1 : decode b_C_look 1 = .ok (.getfield 10, 3) := by decide +kernel
theorem d_C_look_4 : decode b_C_look 4 = .ok (.getfield 50, 3) := by decide +kernel
theorem d_C_look_7 : decode b_C_look 7 = .ok (.astore_n 2, 1) := by decide +kernel
theorem d_C_look_8 : decode b_C_look 8 = .ok (.iload_n 1, 1) := by decide +kernel
theorem d_C_look_9 : decode b_C_look 9 = .ok (.tableswitch 175 0 12 #[67, 83, 88, 93, 98, 103, 108, 113, 126, 137, 148, 156, 164], 67) := by decide +kernel
theorem d_C_look_76 : decode b_C_look 76 = .ok (.aload_n 0, 1) := by decide +kernel
theorem d_C_look_77 : decode b_C_look 77 = .ok (.getfield 10, 3) := by decide +kernel
theorem d_C_look_80 : decode b_C_look 80 = .ok (.getfield 37, 3) := by decide +kernel
theorem d_C_look_83 : decode b_C_look 83 = .ok (.ifCond .eq 7, 3) := by decide +kernel
theorem d_C_look_86 : decode b_C_look 86 = .ok (.iconst 1, 1) := by decide +kernel
theorem d_C_look_87 : decode b_C_look 87 = .ok (.goto 4, 3) := by decide +kernel
theorem d_C_look_90 : decode b_C_look 90 = .ok (.iconst 0, 1) := by decide +kernel
theorem d_C_look_91 : decode b_C_look 91 = .ok (.ireturn, 1) := by decide +kernel
theorem d_C_look_92 : decode b_C_look 92 = .ok (.aload_n 2, 1) := by decide +kernel
theorem d_C_look_93 : decode b_C_look 93 = .ok (.getfield 137, 3) := by decide +kernel
theorem d_C_look_96 : decode b_C_look 96 = .ok (.ireturn, 1) := by decide +kernel
theorem d_C_look_97 : decode b_C_look 97 = .ok (.aload_n 2, 1) := by decide +kernel
theorem d_C_look_98 : decode b_C_look 98 = .ok (.getfield 54, 3) := by decide +kernel
theorem d_C_look_101 : decode b_C_look 101 = .ok (.ireturn, 1) := by decide +kernel
theorem d_C_look_102 : decode b_C_look 102 = .ok (.aload_n 2, 1) := by decide +kernel
theorem d_C_look_103 : decode b_C_look 103 = .ok (.getfield 60, 3) := by decide +kernel
theorem d_C_look_106 : decode b_C_look 106 = .ok (.ireturn, 1) := by decide +kernel
theorem d_C_look_107 : decode b_C_look 107 = .ok (.aload_n 2, 1) := by decide +kernel
theorem d_C_look_108 : decode b_C_look 108 = .ok (.getfield 63, 3) := by decide +kernel
theorem d_C_look_111 : decode b_C_look 111 = .ok (.ireturn, 1) := by decide +kernel
theorem d_C_look_112 : decode b_C_look 112 = .ok (.aload_n 2, 1) := by decide +kernel
theorem d_C_look_113 : decode b_C_look 113 = .ok (.invokevirtual 140, 3) := by decide +kernel
theorem d_C_look_116 : decode b_C_look 116 = .ok (.ireturn, 1) := by decide +kernel
theorem d_C_look_117 : decode b_C_look 117 = .ok (.aload_n 2, 1) := by decide +kernel
theorem d_C_look_118 : decode b_C_look 118 = .ok (.getfield 144, 3) := by decide +kernel
theorem d_C_look_121 : decode b_C_look 121 = .ok (.ireturn, 1) := by decide +kernel
theorem d_C_look_122 : decode b_C_look 122 = .ok (.aload_n 2, 1) := by decide +kernel
theorem d_C_look_123 : decode b_C_look 123 = .ok (.getfield 147, 3) := by decide +kernel
theorem d_C_look_126 : decode b_C_look 126 = .ok (.ifCond .eq 7, 3) := by decide +kernel
theorem d_C_look_129 : decode b_C_look 129 = .ok (.iconst 1, 1) := by decide +kernel
theorem d_C_look_130 : decode b_C_look 130 = .ok (.goto 4, 3) := by decide +kernel
theorem d_C_look_133 : decode b_C_look 133 = .ok (.iconst 0, 1) := by decide +kernel
theorem d_C_look_134 : decode b_C_look 134 = .ok (.ireturn, 1) := by decide +kernel
theorem d_C_look_135 : decode b_C_look 135 = .ok (.aload_n 0, 1) := by decide +kernel
theorem d_C_look_136 : decode b_C_look 136 = .ok (.getfield 10, 3) := by decide +kernel
theorem d_C_look_139 : decode b_C_look 139 = .ok (.getfield 94, 3) := by decide +kernel
theorem d_C_look_142 : decode b_C_look 142 = .ok (.getfield 150, 3) := by decide +kernel
theorem d_C_look_145 : decode b_C_look 145 = .ok (.ireturn, 1) := by decide +kernel
theorem d_C_look_146 : decode b_C_look 146 = .ok (.aload_n 0, 1) := by decide +kernel
theorem d_C_look_147 : decode b_C_look 147 = .ok (.getfield 10, 3) := by decide +kernel
theorem d_C_look_150 : decode b_C_look 150 = .ok (.getfield 94, 3) := by decide +kernel
theorem d_C_look_153 : decode b_C_look 153 = .ok (.getfield 153, 3) := by decide +kernel
theorem d_C_look_156 : decode b_C_look 156 = .ok (.ireturn, 1) := by decide +kernel
theorem d_C_look_157 : decode b_C_look 157 = .ok (.aload_n 0, 1) := by decide +kernel
theorem d_C_look_158 : decode b_C_look 158 = .ok (.getfield 10, 3) := by decide +kernel
theorem d_C_look_161 : decode b_C_look 161 = .ok (.getfield 156, 3) := by decide +kernel
theorem d_C_look_164 : decode b_C_look 164 = .ok (.ireturn, 1) := by decide +kernel
theorem d_C_look_165 : decode b_C_look 165 = .ok (.aload_n 0, 1) := by decide +kernel
theorem d_C_look_166 : decode b_C_look 166 = .ok (.getfield 10, 3) := by decide +kernel
theorem d_C_look_169 : decode b_C_look 169 = .ok (.getfield 159, 3) := by decide +kernel
theorem d_C_look_172 : decode b_C_look 172 = .ok (.ireturn, 1) := by decide +kernel
theorem d_C_look_173 : decode b_C_look 173 = .ok (.aload_n 0, 1) := by decide +kernel
theorem d_C_look_174 : decode b_C_look 174 = .ok (.getfield 10, 3) := by decide +kernel
theorem d_C_look_177 : decode b_C_look 177 = .ok (.getfield 94, 3) := by decide +kernel
theorem d_C_look_180 : decode b_C_look 180 = .ok (.getfield 162, 3) := by decide +kernel
theorem d_C_look_183 : decode b_C_look 183 = .ok (.ireturn, 1) := by decide +kernel
theorem d_C_look_184 : decode b_C_look 184 = .ok (.iconst (-1), 1) := by decide +kernel
theorem d_C_look_185 : decode b_C_look 185 = .ok (.ireturn, 1) := by decide +kernel
theorem d_C_pool_0 : decode b_C_pool 0 = .ok (.iload_n 1, 1) := by decide +kernel
theorem d_C_pool_1 : decode b_C_pool 1 = .ok (.ifCond .lt 19, 3) := by decide +kernel
theorem d_C_pool_4 : decode b_C_pool 4 = .ok (.iload_n 1, 1) := by decide +kernel
theorem d_C_pool_5 : decode b_C_pool 5 = .ok (.bipush 24, 2) := by decide +kernel
theorem d_C_pool_7 : decode b_C_pool 7 = .ok (.if_icmp .gt 13, 3) := by decide +kernel
theorem d_C_pool_10 : decode b_C_pool 10 = .ok (.iload_n 2, 1) := by decide +kernel
theorem d_C_pool_11 : decode b_C_pool 11 = .ok (.ifCond .lt 9, 3) := by decide +kernel
theorem d_C_pool_14 : decode b_C_pool 14 = .ok (.iload_n 2, 1) := by decide +kernel
theorem d_C_pool_15 : decode b_C_pool 15 = .ok (.bipush 31, 2) := by decide +kernel
theorem d_C_pool_17 : decode b_C_pool 17 = .ok (.if_icmp .le 13, 3) := by decide +kernel
theorem d_C_pool_20 : decode b_C_pool 20 = .ok (.new 30, 3) := by decide +kernel
theorem d_C_pool_30 : decode b_C_pool 30 = .ok (.aload_n 0, 1) := by decide +kernel
theorem d_C_pool_31 : decode b_C_pool 31 = .ok (.getfield 10, 3) := by decide +kernel
theorem d_C_pool_34 : decode b_C_pool 34 = .ok (.getfield 37, 3) := by decide +kernel
theorem d_C_pool_37 : decode b_C_pool 37 = .ok (.ifCond .eq 13, 3) := by decide +kernel
theorem d_C_pool_40 : decode b_C_pool 40 = .ok (.new 41, 3) := by decide +kernel
theorem d_C_pool_50 : decode b_C_pool 50 = .ok (.aload_n 0, 1) := by decide +kernel
theorem d_C_pool_51 : decode b_C_pool 51 = .ok (.getfield 10, 3) := by decide +kernel
theorem d_C_pool_54 : decode b_C_pool 54 = .ok (.getfield 22, 3) := by decide +kernel
theorem d_C_pool_57 : decode b_C_pool 57 = .ok (.iload_n 1, 1) := by decide +kernel
theorem d_C_pool_58 : decode b_C_pool 58 = .ok (.invokevirtual 46, 3) := by decide +kernel
theorem d_C_pool_61 : decode b_C_pool 61 = .ok (.aload_n 0, 1) := by decide +kernel
theorem d_C_pool_62 : decode b_C_pool 62 = .ok (.getfield 10, 3) := by decide +kernel
theorem d_C_pool_65 : decode b_C_pool 65 = .ok (.getfield 50, 3) := by decide +kernel
theorem d_C_pool_68 : decode b_C_pool 68 = .ok (.iload_n 1, 1) := by decide +kernel
theorem d_C_pool_69 : decode b_C_pool 69 = .ok (.ifCond .ne 7, 3) := by decide +kernel
theorem d_C_pool_72 : decode b_C_pool 72 = .ok (.iconst 0, 1) := by decide +kernel
theorem d_C_pool_73 : decode b_C_pool 73 = .ok (.goto 4, 3) := by decide +kernel
theorem d_C_pool_76 : decode b_C_pool 76 = .ok (.iconst 1, 1) := by decide +kernel
theorem d_C_pool_77 : decode b_C_pool 77 = .ok (.putfield 54, 3) := by decide +kernel
theorem d_C_pool_80 : decode b_C_pool 80 = .ok (.aload_n 0, 1) := by decide +kernel
theorem d_C_pool_81 : decode b_C_pool 81 = .ok (.getfield 10, 3) := by decide +kernel
theorem d_C_pool_84 : decode b_C_pool 84 = .ok (.getfield 50, 3) := by decide +kernel
theorem d_C_pool_87 : decode b_C_pool 87 = .ok (.iload_n 2, 1) := by decide +kernel
theorem d_C_pool_88 : decode b_C_pool 88 = .ok (.putfield 60, 3) := by decide +kernel
theorem d_C_pool_91 : decode b_C_pool 91 = .ok (.aload_n 0, 1) := by decide +kernel
theorem d_C_pool_92 : decode b_C_pool 92 = .ok (.getfield 10, 3) := by decide +kernel
theorem d_C_pool_95 : decode b_C_pool 95 = .ok (.getfield 50, 3) := by decide +kernel
theorem d_C_pool_98 : decode b_C_pool 98 = .ok (.iconst 0, 1) := by decide +kernel
theorem d_C_pool_99 : decode b_C_pool 99 = .ok (.putfield 63, 3) := by decide +kernel
theorem d_C_pool_102 : decode b_C_pool 102 = .ok (.return_, 1) := by decide +kernel
theorem d_C_put_0 : decode b_C_put 0 = .ok (.iload_n 1, 1) := by decide +kernel
theorem d_C_put_1 : decode b_C_put 1 = .ok (.invokestatic 16, 3) := by decide +kernel
theorem d_C_put_4 : decode b_C_put 4 = .ok (.ifCond .ne 5, 3) := by decide +kernel
theorem d_C_put_7 : decode b_C_put 7 = .ok (.iconst 0, 1) := by decide +kernel
theorem d_C_put_8 : decode b_C_put 8 = .ok (.ireturn, 1) := by decide +kernel
theorem d_C_put_9 : decode b_C_put 9 = .ok (.aload_n 0, 1) := by decide +kernel
theorem d_C_put_10 : decode b_C_put 10 = .ok (.getfield 10, 3) := by decide +kernel
theorem d_C_put_13 : decode b_C_put 13 = .ok (.getfield 22, 3) := by decide +kernel
theorem d_C_put_16 : decode b_C_put 16 = .ok (.iload_n 1, 1) := by decide +kernel
theorem d_C_put_17 : decode b_C_put 17 = .ok (.iload_n 2, 1) := by decide +kernel
theorem d_C_put_18 : decode b_C_put 18 = .ok (.invokevirtual 26, 3) := by decide +kernel
theorem d_C_put_21 : decode b_C_put 21 = .ok (.iconst 1, 1) := by decide +kernel
theorem d_C_put_22 : decode b_C_put 22 = .ok (.ireturn, 1) := by decide +kernel
theorem d_C_range_0 : decode b_C_range 0 = .ok (.iload_n 1, 1) := by decide +kernel
theorem d_C_range_1 : decode b_C_range 1 = .ok (.ifCond .lt 17, 3) := by decide +kernel
theorem d_C_range_4 : decode b_C_range 4 = .ok (.iload_n 1, 1) := by decide +kernel
theorem d_C_range_5 : decode b_C_range 5 = .ok (.iconst 2, 1) := by decide +kernel
theorem d_C_range_6 : decode b_C_range 6 = .ok (.if_icmp .ge 12, 3) := by decide +kernel
theorem d_C_range_9 : decode b_C_range 9 = .ok (.iload_n 2, 1) := by decide +kernel
theorem d_C_range_10 : decode b_C_range 10 = .ok (.ifCond .lt 8, 3) := by decide +kernel
theorem d_C_range_13 : decode b_C_range 13 = .ok (.iload_n 2, 1) := by decide +kernel
theorem d_C_range_14 : decode b_C_range 14 = .ok (.iconst 3, 1) := by decide +kernel
theorem d_C_range_15 : decode b_C_range 15 = .ok (.if_icmp .lt 13, 3) := by decide +kernel
theorem d_C_range_18 : decode b_C_range 18 = .ok (.new 30, 3) := by decide +kernel
theorem d_C_range_28 : decode b_C_range 28 = .ok (.iload 5, 2) := by decide +kernel
theorem d_C_range_30 : decode b_C_range 30 = .ok (.ifCond .lt 9, 3) := by decide +kernel
theorem d_C_range_33 : decode b_C_range 33 = .ok (.iload 5, 2) := by decide +kernel
theorem d_C_range_35 : decode b_C_range 35 = .ok (.iconst 3, 1) := by decide +kernel
theorem d_C_range_36 : decode b_C_range 36 = .ok (.if_icmp .le 13, 3) := by decide +kernel
theorem d_C_range_39 : decode b_C_range 39 = .ok (.new 30, 3) := by decide +kernel
theorem d_C_range_49 : decode b_C_range 49 = .ok (.aload_n 0, 1) := by decide +kernel
theorem d_C_range_50 : decode b_C_range 50 = .ok (.getfield 10, 3) := by decide +kernel
theorem d_C_range_53 : decode b_C_range 53 = .ok (.getfield 76, 3) := by decide +kernel
theorem d_C_range_56 : decode b_C_range 56 = .ok (.iload_n 1, 1) := by decide +kernel
theorem d_C_range_57 : decode b_C_range 57 = .ok (.iconst 3, 1) := by decide +kernel
theorem d_C_range_58 : decode b_C_range 58 = .ok (.imul, 1) := by decide +kernel
theorem d_C_range_59 : decode b_C_range 59 = .ok (.iload_n 2, 1) := by decide +kernel
theorem d_C_range_60 : decode b_C_range 60 = .ok (.iadd, 1) := by decide +kernel
theorem d_C_range_61 : decode b_C_range 61 = .ok (.iload_n 3, 1) := by decide +kernel
theorem d_C_range_62 : decode b_C_range 62 = .ok (.iload 4, 2) := by decide +kernel
theorem d_C_range_64 : decode b_C_range 64 = .ok (.iload 5, 2) := by decide +kernel
theorem d_C_range_66 : decode b_C_range 66 = .ok (.invokevirtual 80, 3) := by decide +kernel
theorem d_C_range_69 : decode b_C_range 69 = .ok (.return_, 1) := by decide +kernel
theorem d_C_register_0 : decode b_C_register 0 = .ok (.iload_n 1, 1) := by decide +kernel
theorem d_C_register_1 : decode b_C_register 1 = .ok (.ifCond .lt 18, 3) := by decide +kernel
theorem d_C_register_4 : decode b_C_register 4 = .ok (.iload_n 1, 1) := by decide +kernel
theorem d_C_register_5 : decode b_C_register 5 = .ok (.iconst 1, 1) := by decide +kernel
theorem d_C_register_6 : decode b_C_register 6 = .ok (.if_icmp .gt 13, 3) := by decide +kernel
theorem d_C_register_9 : decode b_C_register 9 = .ok (.iload_n 2, 1) := by decide +kernel
theorem d_C_register_10 : decode b_C_register 10 = .ok (.ifCond .lt 9, 3) := by decide +kernel
theorem d_C_register_13 : decode b_C_register 13 = .ok (.iload_n 2, 1) := by decide +kernel
theorem d_C_register_14 : decode b_C_register 14 = .ok (.bipush 7, 2) := by decide +kernel
theorem d_C_register_16 : decode b_C_register 16 = .ok (.if_icmp .le 13, 3) := by decide +kernel
theorem d_C_register_19 : decode b_C_register 19 = .ok (.new 121, 3) := by decide +kernel
theorem d_C_register_29 : decode b_C_register 29 = .ok (.iload_n 1, 1) := by decide +kernel
theorem d_C_register_30 : decode b_C_register 30 = .ok (.ifCond .ne 18, 3) := by decide +kernel
theorem d_C_register_33 : decode b_C_register 33 = .ok (.aload_n 0, 1) := by decide +kernel
theorem d_C_register_34 : decode b_C_register 34 = .ok (.getfield 10, 3) := by decide +kernel
theorem d_C_register_37 : decode b_C_register 37 = .ok (.getfield 50, 3) := by decide +kernel
theorem d_C_register_40 : decode b_C_register 40 = .ok (.getfield 126, 3) := by decide +kernel
theorem d_C_register_43 : decode b_C_register 43 = .ok (.iload_n 2, 1) := by decide +kernel
theorem d_C_register_44 : decode b_C_register 44 = .ok (.iaload, 1) := by decide +kernel
theorem d_C_register_45 : decode b_C_register 45 = .ok (.goto 15, 3) := by decide +kernel
theorem d_C_register_48 : decode b_C_register 48 = .ok (.aload_n 0, 1) := by decide +kernel
theorem d_C_register_49 : decode b_C_register 49 = .ok (.getfield 10, 3) := by decide +kernel
theorem d_C_register_52 : decode b_C_register 52 = .ok (.getfield 50, 3) := by decide +kernel
theorem d_C_register_55 : decode b_C_register 55 = .ok (.getfield 130, 3) := by decide +kernel
theorem d_C_register_58 : decode b_C_register 58 = .ok (.iload_n 2, 1) := by decide +kernel
theorem d_C_register_59 : decode b_C_register 59 = .ok (.iaload, 1) := by decide +kernel
theorem d_C_register_60 : decode b_C_register 60 = .ok (.ireturn, 1) := by decide +kernel
theorem d_C_request_0 : decode b_C_request 0 = .ok (.iload_n 1, 1) := by decide +kernel
theorem d_C_request_1 : decode b_C_request 1 = .ok (.invokestatic 89, 3) := by decide +kernel
theorem d_C_request_4 : decode b_C_request 4 = .ok (.ifCond .eq 17, 3) := by decide +kernel
theorem d_C_request_7 : decode b_C_request 7 = .ok (.aload_n 0, 1) := by decide +kernel
theorem d_C_request_8 : decode b_C_request 8 = .ok (.getfield 10, 3) := by decide +kernel
theorem d_C_request_11 : decode b_C_request 11 = .ok (.getfield 94, 3) := by decide +kernel
theorem d_C_request_14 : decode b_C_request 14 = .ok (.iload_n 1, 1) := by decide +kernel
theorem d_C_request_15 : decode b_C_request 15 = .ok (.invokevirtual 104, 3) := by decide +kernel
theorem d_C_request_18 : decode b_C_request 18 = .ok (.ifCond .eq 5, 3) := by decide +kernel
theorem d_C_request_21 : decode b_C_request 21 = .ok (.iconst 0, 1) := by decide +kernel
theorem d_C_request_22 : decode b_C_request 22 = .ok (.ireturn, 1) := by decide +kernel
theorem d_C_request_23 : decode b_C_request 23 = .ok (.aload_n 0, 1) := by decide +kernel
theorem d_C_request_24 : decode b_C_request 24 = .ok (.getfield 10, 3) := by decide +kernel
theorem d_C_request_27 : decode b_C_request 27 = .ok (.getfield 94, 3) := by decide +kernel
theorem d_C_request_30 : decode b_C_request 30 = .ok (.iload_n 1, 1) := by decide +kernel
theorem d_C_request_31 : decode b_C_request 31 = .ok (.invokevirtual 107, 3) := by decide +kernel
theorem d_C_request_34 : decode b_C_request 34 = .ok (.iconst 1, 1) := by decide +kernel
theorem d_C_request_35 : decode b_C_request 35 = .ok (.ireturn, 1) := by decide +kernel
theorem d_C_run_0 : decode b_C_run 0 = .ok (.iload_n 1, 1) := by decide +kernel
theorem d_C_run_1 : decode b_C_run 1 = .ok (.ifCond .lt 10, 3) := by decide +kernel
theorem d_C_run_4 : decode b_C_run 4 = .ok (.iload_n 1, 1) := by decide +kernel
theorem d_C_run_5 : decode b_C_run 5 = .ok (.sipush 300, 3) := by decide +kernel
theorem d_C_run_8 : decode b_C_run 8 = .ok (.if_icmp .le 13, 3) := by decide +kernel
theorem d_C_run_11 : decode b_C_run 11 = .ok (.new 30, 3) := by decide +kernel
theorem d_C_run_21 : decode b_C_run 21 = .ok (.iconst 0, 1) := by decide +kernel
theorem d_C_run_22 : decode b_C_run 22 = .ok (.istore_n 2, 1) := by decide +kernel
theorem d_C_run_23 : decode b_C_run 23 = .ok (.iload_n 2, 1) := by decide +kernel
theorem d_C_run_24 : decode b_C_run 24 = .ok (.iload_n 1, 1) := by decide +kernel
theorem d_C_run_25 : decode b_C_run 25 = .ok (.if_icmp .ge 26, 3) := by decide +kernel
theorem d_C_run_28 : decode b_C_run 28 = .ok (.aload_n 0, 1) := by decide +kernel
theorem d_C_run_29 : decode b_C_run 29 = .ok (.getfield 10, 3) := by decide +kernel
theorem d_C_run_32 : decode b_C_run 32 = .ok (.getfield 37, 3) := by decide +kernel
theorem d_C_run_35 : decode b_C_run 35 = .ok (.ifCond .eq 16, 3) := by decide +kernel
theorem d_C_run_38 : decode b_C_run 38 = .ok (.aload_n 0, 1) := by decide +kernel
theorem d_C_run_39 : decode b_C_run 39 = .ok (.getfield 10, 3) := by decide +kernel
theorem d_C_run_42 : decode b_C_run 42 = .ok (.invokevirtual 118, 3) := by decide +kernel
theorem d_C_run_45 : decode b_C_run 45 = .ok (.iinc 2 1, 3) := by decide +kernel
theorem d_C_run_48 : decode b_C_run 48 = .ok (.goto (-25), 3) := by decide +kernel
theorem d_C_run_51 : decode b_C_run 51 = .ok (.iload_n 2, 1) := by decide +kernel
theorem d_C_run_52 : decode b_C_run 52 = .ok (.ireturn, 1) := by decide +kernel
theorem d_C_start_0 : decode b_C_start 0 = .ok (.iload_n 2, 1) := by decide +kernel
theorem d_C_start_1 : decode b_C_start 1 = .ok (.ifCond .lt 8, 3) := by decide +kernel
theorem d_C_start_4 : decode b_C_start 4 = .ok (.iload_n 2, 1) := by decide +kernel
theorem d_C_start_5 : decode b_C_start 5 = .ok (.iconst 2, 1) := by decide +kernel
theorem d_C_start_6 : decode b_C_start 6 = .ok (.if_icmp .le 13, 3) := by decide +kernel
theorem d_C_start_9 : decode b_C_start 9 = .ok (.new 30, 3) := by decide +kernel
theorem d_C_start_19 : decode b_C_start 19 = .ok (.aload_n 0, 1) := by decide +kernel
theorem d_C_start_20 : decode b_C_start 20 = .ok (.getfield 10, 3) := by decide +kernel
theorem d_C_start_23 : decode b_C_start 23 = .ok (.getfield 37, 3) := by decide +kernel
theorem d_C_start_26 : decode b_C_start 26 = .ok (.ifCond .eq 13, 3) := by decide +kernel
theorem d_C_start_29 : decode b_C_start 29 = .ok (.new 41, 3) := by decide +kernel
theorem d_C_start_39 : decode b_C_start 39 = .ok (.aload_n 0, 1) := by decide +kernel
theorem d_C_start_40 : decode b_C_start 40 = .ok (.getfield 10, 3) := by decide +kernel
theorem d_C_start_43 : decode b_C_start 43 = .ok (.getfield 50, 3) := by decide +kernel
theorem d_C_start_46 : decode b_C_start 46 = .ok (.iload_n 1, 1) := by decide +kernel
theorem d_C_start_47 : decode b_C_start 47 = .ok (.iload_n 2, 1) := by decide +kernel
theorem d_C_start_48 : decode b_C_start 48 = .ok (.iload_n 3, 1) := by decide +kernel
theorem d_C_start_49 : decode b_C_start 49 = .ok (.invokevirtual 112, 3) := by decide +kernel
theorem d_C_start_52 : decode b_C_start 52 = .ok (.aload_n 0, 1) := by decide +kernel
theorem d_C_start_53 : decode b_C_start 53 = .ok (.getfield 10, 3) := by decide +kernel
theorem d_C_start_56 : decode b_C_start 56 = .ok (.iconst 1, 1) := by decide +kernel
theorem d_C_start_57 : decode b_C_start 57 = .ok (.putfield 37, 3) := by decide +kernel
theorem d_C_start_60 : decode b_C_start 60 = .ok (.return_, 1) := by decide +kernel
theorem d_C_tables_0 : decode b_C_tables 0 = .ok (.aload_n 0, 1) := by decide +kernel
theorem d_C_tables_1 : decode b_C_tables 1 = .ok (.getfield 10, 3) := by decide +kernel
theorem d_C_tables_4 : decode b_C_tables 4 = .ok (.iload_n 1, 1) := by decide +kernel
theorem d_C_tables_5 : decode b_C_tables 5 = .ok (.putfield 66, 3) := by decide +kernel
theorem d_C_tables_8 : decode b_C_tables 8 = .ok (.aload_n 0, 1) := by decide +kernel
theorem d_C_tables_9 : decode b_C_tables 9 = .ok (.getfield 10, 3) := by decide +kernel
theorem d_C_tables_12 : decode b_C_tables 12 = .ok (.iload_n 2, 1) := by decide +kernel
theorem d_C_tables_13 : decode b_C_tables 13 = .ok (.putfield 69, 3) := by decide +kernel
theorem d_C_tables_16 : decode b_C_tables 16 = .ok (.return_, 1) := by decide +kernel
theorem d_C_timer_0 : decode b_C_timer 0 = .ok (.iload_n 1, 1) := by decide +kernel
theorem d_C_timer_1 : decode b_C_timer 1 = .ok (.ifCond .lt 10, 3) := by decide +kernel
theorem d_C_timer_4 : decode b_C_timer 4 = .ok (.iload_n 2, 1) := by decide +kernel
theorem d_C_timer_5 : decode b_C_timer 5 = .ok (.invokestatic 89, 3) := by decide +kernel
theorem d_C_timer_8 : decode b_C_timer 8 = .ok (.ifCond .ne 13, 3) := by decide +kernel
theorem d_C_timer_11 : decode b_C_timer 11 = .ok (.new 30, 3) := by decide +kernel
theorem d_C_timer_21 : decode b_C_timer 21 = .ok (.aload_n 0, 1) := by decide +kernel
theorem d_C_timer_22 : decode b_C_timer 22 = .ok (.getfield 10, 3) := by decide +kernel
theorem d_C_timer_25 : decode b_C_timer 25 = .ok (.getfield 94, 3) := by decide +kernel
theorem d_C_timer_28 : decode b_C_timer 28 = .ok (.iload_n 1, 1) := by decide +kernel
theorem d_C_timer_29 : decode b_C_timer 29 = .ok (.putfield 98, 3) := by decide +kernel
theorem d_C_timer_32 : decode b_C_timer 32 = .ok (.aload_n 0, 1) := by decide +kernel
theorem d_C_timer_33 : decode b_C_timer 33 = .ok (.getfield 10, 3) := by decide +kernel
theorem d_C_timer_36 : decode b_C_timer 36 = .ok (.getfield 94, 3) := by decide +kernel
theorem d_C_timer_39 : decode b_C_timer 39 = .ok (.iload_n 2, 1) := by decide +kernel
theorem d_C_timer_40 : decode b_C_timer 40 = .ok (.putfield 101, 3) := by decide +kernel
theorem d_C_timer_43 : decode b_C_timer 43 = .ok (.return_, 1) := by decide +kernel
theorem d_C_word_0 : decode b_C_word 0 = .ok (.aload_n 0, 1) := by decide +kernel
theorem d_C_word_1 : decode b_C_word 1 = .ok (.getfield 10, 3) := by decide +kernel
theorem d_C_word_4 : decode b_C_word 4 = .ok (.getfield 22, 3) := by decide +kernel
theorem d_C_word_7 : decode b_C_word 7 = .ok (.iload_n 1, 1) := by decide +kernel
theorem d_C_word_8 : decode b_C_word 8 = .ok (.invokevirtual 133, 3) := by decide +kernel
theorem d_C_word_11 : decode b_C_word 11 = .ok (.ireturn, 1) := by decide +kernel
end
section
theorem d_X_bring_0 : decode b_X_bring 0 = .ok (.aload_n 0, 1) := by decide +kernel
theorem d_X_bring_1 : decode b_X_bring 1 = .ok (.getfield 19, 3) := by decide +kernel
theorem d_X_bring_4 : decode b_X_bring 4 = .ok (.iconst 3, 1) := by decide +kernel
theorem d_X_bring_5 : decode b_X_bring 5 = .ok (.iaload, 1) := by decide +kernel
theorem d_X_bring_6 : decode b_X_bring 6 = .ok (.bipush 31, 2) := by decide +kernel
theorem d_X_bring_8 : decode b_X_bring 8 = .ok (.iand, 1) := by decide +kernel
theorem d_X_bring_9 : decode b_X_bring 9 = .ok (.istore_n 2, 1) := by decide +kernel
theorem d_X_bring_10 : decode b_X_bring 10 = .ok (.iload_n 2, 1) := by decide +kernel
theorem d_X_bring_11 : decode b_X_bring 11 = .ok (.invokestatic 49, 3) := by decide +kernel
theorem d_X_bring_14 : decode b_X_bring 14 = .ok (.istore_n 3, 1) := by decide +kernel
theorem d_X_bring_15 : decode b_X_bring 15 = .ok (.iload_n 1, 1) := by decide +kernel
theorem d_X_bring_16 : decode b_X_bring 16 = .ok (.ifCond .eq 87, 3) := by decide +kernel
theorem d_X_bring_19 : decode b_X_bring 19 = .ok (.aload_n 0, 1) := by decide +kernel
theorem d_X_bring_20 : decode b_X_bring 20 = .ok (.getfield 7, 3) := by decide +kernel
theorem d_X_bring_23 : decode b_X_bring 23 = .ok (.iload_n 3, 1) := by decide +kernel
theorem d_X_bring_24 : decode b_X_bring 24 = .ok (.iconst 1, 1) := by decide +kernel
theorem d_X_bring_25 : decode b_X_bring 25 = .ok (.iadd, 1) := by decide +kernel
theorem d_X_bring_26 : decode b_X_bring 26 = .ok (.iaload, 1) := by decide +kernel
theorem d_X_bring_27 : decode b_X_bring 27 = .ok (.istore 4, 2) := by decide +kernel
theorem d_X_bring_29 : decode b_X_bring 29 = .ok (.aload_n 0, 1) := by decide +kernel
theorem d_X_bring_30 : decode b_X_bring 30 = .ok (.iload 4, 2) := by decide +kernel
theorem d_X_bring_32 : decode b_X_bring 32 = .ok (.iconst 3, 1) := by decide +kernel
theorem d_X_bring_33 : decode b_X_bring 33 = .ok (.iand, 1) := by decide +kernel
theorem d_X_bring_34 : decode b_X_bring 34 = .ok (.iconst 3, 1) := by decide +kernel
theorem d_X_bring_35 : decode b_X_bring 35 = .ok (.if_icmp .ne 7, 3) := by decide +kernel
theorem d_X_bring_38 : decode b_X_bring 38 = .ok (.iconst 2, 1) := by decide +kernel
theorem d_X_bring_39 : decode b_X_bring 39 = .ok (.goto 7, 3) := by decide +kernel
theorem d_X_bring_42 : decode b_X_bring 42 = .ok (.iload 4, 2) := by decide +kernel
theorem d_X_bring_44 : decode b_X_bring 44 = .ok (.iconst 3, 1) := by decide +kernel
theorem d_X_bring_45 : decode b_X_bring 45 = .ok (.iand, 1) := by decide +kernel
theorem d_X_bring_46 : decode b_X_bring 46 = .ok (.putfield 53, 3) := by decide +kernel
theorem d_X_bring_49 : decode b_X_bring 49 = .ok (.aload_n 0, 1) := by decide +kernel
theorem d_X_bring_50 : decode b_X_bring 50 = .ok (.iload 4, 2) := by decide +kernel
theorem d_X_bring_52 : decode b_X_bring 52 = .ok (.iconst 2, 1) := by decide +kernel
theorem d_X_bring_53 : decode b_X_bring 53 = .ok (.ishr, 1) := by decide +kernel
theorem d_X_bring_54 : decode b_X_bring 54 = .ok (.iconst 1, 1) := by decide +kernel
theorem d_X_bring_55 : decode b_X_bring 55 = .ok (.iand, 1) := by decide +kernel
theorem d_X_bring_56 : decode b_X_bring 56 = .ok (.putfield 56, 3) := by decide +kernel
theorem d_X_bring_59 : decode b_X_bring 59 = .ok (.aload_n 0, 1) := by decide +kernel
theorem d_X_bring_60 : decode b_X_bring 60 = .ok (.iload 4, 2) := by decide +kernel
theorem d_X_bring_62 : decode b_X_bring 62 = .ok (.iconst 3, 1) := by decide +kernel
theorem d_X_bring_63 : decode b_X_bring 63 = .ok (.ishr, 1) := by decide +kernel
theorem d_X_bring_64 : decode b_X_bring 64 = .ok (.bipush 15, 2) := by decide +kernel
theorem d_X_bring_66 : decode b_X_bring 66 = .ok (.iand, 1) := by decide +kernel
theorem d_X_bring_67 : decode b_X_bring 67 = .ok (.putfield 59, 3) := by decide +kernel
theorem d_X_bring_70 : decode b_X_bring 70 = .ok (.aload_n 0, 1) := by decide +kernel
theorem d_X_bring_71 : decode b_X_bring 71 = .ok (.getfield 16, 3) := by decide +kernel
theorem d_X_bring_74 : decode b_X_bring 74 = .ok (.bipush 6, 2) := by decide +kernel
theorem d_X_bring_76 : decode b_X_bring 76 = .ok (.aload_n 0, 1) := by decide +kernel
theorem d_X_bring_77 : decode b_X_bring 77 = .ok (.getfield 7, 3) := by decide +kernel
theorem d_X_bring_80 : decode b_X_bring 80 = .ok (.iload_n 3, 1) := by decide +kernel
theorem d_X_bring_81 : decode b_X_bring 81 = .ok (.iconst 2, 1) := by decide +kernel
theorem d_X_bring_82 : decode b_X_bring 82 = .ok (.iadd, 1) := by decide +kernel
theorem d_X_bring_83 : decode b_X_bring 83 = .ok (.iaload, 1) := by decide +kernel
theorem d_X_bring_84 : decode b_X_bring 84 = .ok (.iastore, 1) := by decide +kernel
theorem d_X_bring_85 : decode b_X_bring 85 = .ok (.aload_n 0, 1) := by decide +kernel
theorem d_X_bring_86 : decode b_X_bring 86 = .ok (.getfield 16, 3) := by decide +kernel
theorem d_X_bring_89 : decode b_X_bring 89 = .ok (.bipush 7, 2) := by decide +kernel
theorem d_X_bring_91 : decode b_X_bring 91 = .ok (.aload_n 0, 1) := by decide +kernel
theorem d_X_bring_92 : decode b_X_bring 92 = .ok (.getfield 7, 3) := by decide +kernel
theorem d_X_bring_95 : decode b_X_bring 95 = .ok (.iload_n 3, 1) := by decide +kernel
theorem d_X_bring_96 : decode b_X_bring 96 = .ok (.iconst 3, 1) := by decide +kernel
theorem d_X_bring_97 : decode b_X_bring 97 = .ok (.iadd, 1) := by decide +kernel
theorem d_X_bring_98 : decode b_X_bring 98 = .ok (.iaload, 1) := by decide +kernel
theorem d_X_bring_99 : decode b_X_bring 99 = .ok (.iastore, 1) := by decide +kernel
theorem d_X_bring_100 : decode b_X_bring 100 = .ok (.goto 46, 3) := by decide +kernel
theorem d_X_bring_103 : decode b_X_bring 103 = .ok (.aload_n 0, 1) := by decide +kernel
theorem d_X_bring_104 : decode b_X_bring 104 = .ok (.getfield 16, 3) := by decide +kernel
theorem d_X_bring_107 : decode b_X_bring 107 = .ok (.bipush 7, 2) := by decide +kernel
theorem d_X_bring_109 : decode b_X_bring 109 = .ok (.aload_n 0, 1) := by decide +kernel
theorem d_X_bring_110 : decode b_X_bring 110 = .ok (.getfield 7, 3) := by decide +kernel
theorem d_X_bring_113 : decode b_X_bring 113 = .ok (.iload_n 3, 1) := by decide +kernel
theorem d_X_bring_114 : decode b_X_bring 114 = .ok (.iconst 1, 1) := by decide +kernel
theorem d_X_bring_115 : decode b_X_bring 115 = .ok (.iadd, 1) := by decide +kernel
theorem d_X_bring_116 : decode b_X_bring 116 = .ok (.iaload, 1) := by decide +kernel
theorem d_X_bring_117 : decode b_X_bring 117 = .ok (.iastore, 1) := by decide +kernel
theorem d_X_bring_118 : decode b_X_bring 118 = .ok (.aload_n 0, 1) := by decide +kernel
theorem d_X_bring_119 : decode b_X_bring 119 = .ok (.getfield 16, 3) := by decide +kernel
theorem d_X_bring_122 : decode b_X_bring 122 = .ok (.iconst 2, 1) := by decide +kernel
theorem d_X_bring_123 : decode b_X_bring 123 = .ok (.aload_n 0, 1) := by decide +kernel
theorem d_X_bring_124 : decode b_X_bring 124 = .ok (.getfield 7, 3) := by decide +kernel
theorem d_X_bring_127 : decode b_X_bring 127 = .ok (.iload_n 3, 1) := by decide +kernel
theorem d_X_bring_128 : decode b_X_bring 128 = .ok (.iconst 2, 1) := by decide +kernel
theorem d_X_bring_129 : decode b_X_bring 129 = .ok (.iadd, 1) := by decide +kernel
theorem d_X_bring_130 : decode b_X_bring 130 = .ok (.iaload, 1) := by decide +kernel
theorem d_X_bring_131 : decode b_X_bring 131 = .ok (.iastore, 1) := by decide +kernel
theorem d_X_bring_132 : decode b_X_bring 132 = .ok (.aload_n 0, 1) := by decide +kernel
theorem d_X_bring_133 : decode b_X_bring 133 = .ok (.getfield 16, 3) := by decide +kernel
theorem d_X_bring_136 : decode b_X_bring 136 = .ok (.iconst 3, 1) := by decide +kernel
theorem d_X_bring_137 : decode b_X_bring 137 = .ok (.aload_n 0, 1) := by decide +kernel
theorem d_X_bring_138 : decode b_X_bring 138 = .ok (.getfield 7, 3) := by decide +kernel
theorem d_X_bring_141 : decode b_X_bring 141 = .ok (.iload_n 3, 1) := by decide +kernel
theorem d_X_bring_142 : decode b_X_bring 142 = .ok (.iconst 3, 1) := by decide +kernel
theorem d_X_bring_143 : decode b_X_bring 143 = .ok (.iadd, 1) := by decide +kernel
theorem d_X_bring_144 : decode b_X_bring 144 = .ok (.iaload, 1) := by decide +kernel
theorem d_X_bring_145 : decode b_X_bring 145 = .ok (.iastore, 1) := by decide +kernel
theorem d_X_bring_146 : decode b_X_bring 146 = .ok (.iconst 0, 1) := by decide +kernel
theorem d_X_bring_147 : decode b_X_bring 147 = .ok (.istore 4, 2) := by decide +kernel
theorem d_X_bring_149 : decode b_X_bring 149 = .ok (.iload 4, 2) := by decide +kernel
theorem d_X_bring_151 : decode b_X_bring 151 = .ok (.iconst 4, 1) := by decide +kernel
theorem d_X_bring_152 : decode b_X_bring 152 = .ok (.if_icmp .ge 42, 3) := by decide +kernel
theorem d_X_bring_155 : decode b_X_bring 155 = .ok (.aload_n 0, 1) := by decide +kernel
theorem d_X_bring_156 : decode b_X_bring 156 = .ok (.getfield 7, 3) := by decide +kernel
theorem d_X_bring_159 : decode b_X_bring 159 = .ok (.iload_n 3, 1) := by decide +kernel
theorem d_X_bring_160 : decode b_X_bring 160 = .ok (.iconst 4, 1) := by decide +kernel
theorem d_X_bring_161 : decode b_X_bring 161 = .ok (.iadd, 1) := by decide +kernel
theorem d_X_bring_162 : decode b_X_bring 162 = .ok (.iload 4, 2) := by decide +kernel
theorem d_X_bring_164 : decode b_X_bring 164 = .ok (.iadd, 1) := by decide +kernel
theorem d_X_bring_165 : decode b_X_bring 165 = .ok (.iaload, 1) := by decide +kernel
theorem d_X_bring_166 : decode b_X_bring 166 = .ok (.istore 5, 2) := by decide +kernel
theorem d_X_bring_168 : decode b_X_bring 168 = .ok (.aload_n 0, 1) := by decide +kernel
theorem d_X_bring_169 : decode b_X_bring 169 = .ok (.getfield 13, 3) := by decide +kernel
theorem d_X_bring_172 : decode b_X_bring 172 = .ok (.iload_n 1, 1) := by decide +kernel
theorem d_X_bring_173 : decode b_X_bring 173 = .ok (.ifCond .eq 10, 3) := by decide +kernel
theorem d_X_bring_176 : decode b_X_bring 176 = .ok (.iconst 4, 1) := by decide +kernel
theorem d_X_bring_177 : decode b_X_bring 177 = .ok (.iload 4, 2) := by decide +kernel
theorem d_X_bring_179 : decode b_X_bring 179 = .ok (.iadd, 1) := by decide +kernel
theorem d_X_bring_180 : decode b_X_bring 180 = .ok (.goto 5, 3) := by decide +kernel
theorem d_X_bring_183 : decode b_X_bring 183 = .ok (.iload 4, 2) := by decide +kernel
theorem d_X_bring_185 : decode b_X_bring 185 = .ok (.iload 5, 2) := by decide +kernel
theorem d_X_bring_187 : decode b_X_bring 187 = .ok (.iastore, 1) := by decide +kernel
theorem d_X_bring_188 : decode b_X_bring 188 = .ok (.iinc 4 1, 3) := by decide +kernel
theorem d_X_bring_191 : decode b_X_bring 191 = .ok (.goto (-42), 3) := by decide +kernel
theorem d_X_bring_194 : decode b_X_bring 194 = .ok (.aload_n 0, 1) := by decide +kernel
theorem d_X_bring_195 : decode b_X_bring 195 = .ok (.getfield 19, 3) := by decide +kernel
theorem d_X_bring_198 : decode b_X_bring 198 = .ok (.iconst 3, 1) := by decide +kernel
theorem d_X_bring_199 : decode b_X_bring 199 = .ok (.aload_n 0, 1) := by decide +kernel
theorem d_X_bring_200 : decode b_X_bring 200 = .ok (.getfield 7, 3) := by decide +kernel
theorem d_X_bring_203 : decode b_X_bring 203 = .ok (.iload_n 3, 1) := by decide +kernel
theorem d_X_bring_204 : decode b_X_bring 204 = .ok (.iaload, 1) := by decide +kernel
theorem d_X_bring_205 : decode b_X_bring 205 = .ok (.iastore, 1) := by decide +kernel
theorem d_X_bring_206 : decode b_X_bring 206 = .ok (.aload_n 0, 1) := by decide +kernel
theorem d_X_bring_207 : decode b_X_bring 207 = .ok (.getfield 7, 3) := by decide +kernel
theorem d_X_bring_210 : decode b_X_bring 210 = .ok (.iload_n 3, 1) := by decide +kernel
theorem d_X_bring_211 : decode b_X_bring 211 = .ok (.aload_n 0, 1) := by decide +kernel
theorem d_X_bring_212 : decode b_X_bring 212 = .ok (.getfield 19, 3) := by decide +kernel
theorem d_X_bring_215 : decode b_X_bring 215 = .ok (.iconst 1, 1) := by decide +kernel
theorem d_X_bring_216 : decode b_X_bring 216 = .ok (.iaload, 1) := by decide +kernel
theorem d_X_bring_217 : decode b_X_bring 217 = .ok (.iastore, 1) := by decide +kernel
theorem d_X_bring_218 : decode b_X_bring 218 = .ok (.aload_n 0, 1) := by decide +kernel
theorem d_X_bring_219 : decode b_X_bring 219 = .ok (.getfield 19, 3) := by decide +kernel
theorem d_X_bring_222 : decode b_X_bring 222 = .ok (.iconst 1, 1) := by decide +kernel
theorem d_X_bring_223 : decode b_X_bring 223 = .ok (.iload_n 2, 1) := by decide +kernel
theorem d_X_bring_224 : decode b_X_bring 224 = .ok (.iastore, 1) := by decide +kernel
theorem d_X_bring_225 : decode b_X_bring 225 = .ok (.return_, 1) := by decide +kernel
theorem d_X_canBring_0 : decode b_X_canBring 0 = .ok (.aload_n 0, 1) := by decide +kernel
theorem d_X_canBring_1 : decode b_X_canBring 1 = .ok (.getfield 19, 3) := by decide +kernel
theorem d_X_canBring_4 : decode b_X_canBring 4 = .ok (.iconst 3, 1) := by decide +kernel
theorem d_X_canBring_5 : decode b_X_canBring 5 = .ok (.iaload, 1) := by decide +kernel
theorem d_X_canBring_6 : decode b_X_canBring 6 = .ok (.bipush 31, 2) := by decide +kernel
theorem d_X_canBring_8 : decode b_X_canBring 8 = .ok (.iand, 1) := by decide +kernel
theorem d_X_canBring_9 : decode b_X_canBring 9 = .ok (.invokestatic 41, 3) := by decide +kernel
theorem d_X_canBring_12 : decode b_X_canBring 12 = .ok (.ifCond .ne 10, 3) := by decide +kernel
theorem d_X_canBring_15 : decode b_X_canBring 15 = .ok (.aload_n 0, 1) := by decide +kernel
theorem d_X_canBring_16 : decode b_X_canBring 16 = .ok (.iconst 0, 1) := by decide +kernel
theorem d_X_canBring_17 : decode b_X_canBring 17 = .ok (.putfield 45, 3) := by decide +kernel
theorem d_X_canBring_20 : decode b_X_canBring 20 = .ok (.iconst 0, 1) := by decide +kernel
theorem d_X_canBring_21 : decode b_X_canBring 21 = .ok (.ireturn, 1) := by decide +kernel
theorem d_X_canBring_22 : decode b_X_canBring 22 = .ok (.aload_n 0, 1) := by decide +kernel
theorem d_X_canBring_23 : decode b_X_canBring 23 = .ok (.getfield 19, 3) := by decide +kernel
theorem d_X_canBring_26 : decode b_X_canBring 26 = .ok (.iconst 3, 1) := by decide +kernel
theorem d_X_canBring_27 : decode b_X_canBring 27 = .ok (.iaload, 1) := by decide +kernel
theorem d_X_canBring_28 : decode b_X_canBring 28 = .ok (.bipush 32, 2) := by decide +kernel
theorem d_X_canBring_30 : decode b_X_canBring 30 = .ok (.iand, 1) := by decide +kernel
theorem d_X_canBring_31 : decode b_X_canBring 31 = .ok (.ifCond .eq 7, 3) := by decide +kernel
theorem d_X_canBring_34 : decode b_X_canBring 34 = .ok (.iconst 1, 1) := by decide +kernel
theorem d_X_canBring_35 : decode b_X_canBring 35 = .ok (.goto 4, 3) := by decide +kernel
theorem d_X_canBring_38 : decode b_X_canBring 38 = .ok (.iconst 0, 1) := by decide +kernel
theorem d_X_canBring_39 : decode b_X_canBring 39 = .ok (.iload_n 1, 1) := by decide +kernel
theorem d_X_canBring_40 : decode b_X_canBring 40 = .ok (.if_icmp .ne 7, 3) := by decide +kernel
theorem d_X_canBring_43 : decode b_X_canBring 43 = .ok (.iconst 1, 1) := by decide +kernel
theorem d_X_canBring_44 : decode b_X_canBring 44 = .ok (.goto 4, 3) := by decide +kernel
theorem d_X_canBring_47 : decode b_X_canBring 47 = .ok (.iconst 0, 1) := by decide +kernel
theorem d_X_canBring_48 : decode b_X_canBring 48 = .ok (.istore_n 2, 1) := by decide +kernel
theorem d_X_canBring_49 : decode b_X_canBring 49 = .ok (.aload_n 0, 1) := by decide +kernel
theorem d_X_canBring_50 : decode b_X_canBring 50 = .ok (.iload_n 2, 1) := by decide +kernel
theorem d_X_canBring_51 : decode b_X_canBring 51 = .ok (.ifCond .eq 10, 3) := by decide +kernel
theorem d_X_canBring_54 : decode b_X_canBring 54 = .ok (.aload_n 0, 1) := by decide +kernel
theorem d_X_canBring_55 : decode b_X_canBring 55 = .ok (.getfield 71, 3) := by decide +kernel
theorem d_X_canBring_58 : decode b_X_canBring 58 = .ok (.goto 6, 3) := by decide +kernel
theorem d_X_canBring_61 : decode b_X_canBring 61 = .ok (.sipush 772, 3) := by decide +kernel
theorem d_X_canBring_64 : decode b_X_canBring 64 = .ok (.putfield 71, 3) := by decide +kernel
theorem d_X_canBring_67 : decode b_X_canBring 67 = .ok (.iload_n 2, 1) := by decide +kernel
theorem d_X_canBring_68 : decode b_X_canBring 68 = .ok (.ireturn, 1) := by decide +kernel
theorem d_X_context_0 : decode b_X_context 0 = .ok (.aload_n 0, 1) := by decide +kernel
theorem d_X_context_1 : decode b_X_context 1 = .ok (.getfield 19, 3) := by decide +kernel
theorem d_X_context_4 : decode b_X_context 4 = .ok (.iconst 0, 1) := by decide +kernel
theorem d_X_context_5 : decode b_X_context 5 = .ok (.iaload, 1) := by decide +kernel
theorem d_X_context_6 : decode b_X_context 6 = .ok (.istore_n 3, 1) := by decide +kernel
theorem d_X_context_7 : decode b_X_context 7 = .ok (.iload_n 1, 1) := by decide +kernel
theorem d_X_context_8 : decode b_X_context 8 = .ok (.bipush 21, 2) := by decide +kernel
theorem d_X_context_10 : decode b_X_context 10 = .ok (.if_icmp .ne 12, 3) := by decide +kernel
theorem d_X_context_13 : decode b_X_context 13 = .ok (.aload_n 0, 1) := by decide +kernel
theorem d_X_context_14 : decode b_X_context 14 = .ok (.getfield 59, 3) := by decide +kernel
theorem d_X_context_17 : decode b_X_context 17 = .ok (.bipush 15, 2) := by decide +kernel
theorem d_X_context_19 : decode b_X_context 19 = .ok (.if_icmp .eq 16, 3) := by decide +kernel
theorem d_X_context_22 : decode b_X_context 22 = .ok (.iload_n 1, 1) := by decide +kernel
theorem d_X_context_23 : decode b_X_context 23 = .ok (.bipush 22, 2) := by decide +kernel
theorem d_X_context_25 : decode b_X_context 25 = .ok (.if_icmp .ne 32, 3) := by decide +kernel
theorem d_X_context_28 : decode b_X_context 28 = .ok (.aload_n 0, 1) := by decide +kernel
theorem d_X_context_29 : decode b_X_context 29 = .ok (.getfield 59, 3) := by decide +kernel
theorem d_X_context_32 : decode b_X_context 32 = .ok (.ifCond .ne 25, 3) := by decide +kernel
theorem d_X_context_35 : decode b_X_context 35 = .ok (.aload_n 0, 1) := by decide +kernel
theorem d_X_context_36 : decode b_X_context 36 = .ok (.iload_n 1, 1) := by decide +kernel
theorem d_X_context_37 : decode b_X_context 37 = .ok (.bipush 21, 2) := by decide +kernel
theorem d_X_context_39 : decode b_X_context 39 = .ok (.if_icmp .ne 9, 3) := by decide +kernel
theorem d_X_context_42 : decode b_X_context 42 = .ok (.sipush 770, 3) := by decide +kernel
theorem d_X_context_45 : decode b_X_context 45 = .ok (.goto 6, 3) := by decide +kernel
theorem d_X_context_48 : decode b_X_context 48 = .ok (.sipush 771, 3) := by decide +kernel
theorem d_X_context_51 : decode b_X_context 51 = .ok (.putfield 71, 3) := by decide +kernel
theorem d_X_context_54 : decode b_X_context 54 = .ok (.goto 191, 3) := by decide +kernel
theorem d_X_context_57 : decode b_X_context 57 = .ok (.iload_n 1, 1) := by decide +kernel
theorem d_X_context_58 : decode b_X_context 58 = .ok (.bipush 21, 2) := by decide +kernel
theorem d_X_context_60 : decode b_X_context 60 = .ok (.if_icmp .ne 35, 3) := by decide +kernel
theorem d_X_context_63 : decode b_X_context 63 = .ok (.aload_n 0, 1) := by decide +kernel
theorem d_X_context_64 : decode b_X_context 64 = .ok (.iconst 1, 1) := by decide +kernel
theorem d_X_context_65 : decode b_X_context 65 = .ok (.invokevirtual 74, 3) := by decide +kernel
theorem d_X_context_68 : decode b_X_context 68 = .ok (.ifCond .eq 177, 3) := by decide +kernel
theorem d_X_context_71 : decode b_X_context 71 = .ok (.aload_n 0, 1) := by decide +kernel
theorem d_X_context_72 : decode b_X_context 72 = .ok (.getfield 16, 3) := by decide +kernel
theorem d_X_context_75 : decode b_X_context 75 = .ok (.bipush 7, 2) := by decide +kernel
theorem d_X_context_77 : decode b_X_context 77 = .ok (.iload_n 3, 1) := by decide +kernel
theorem d_X_context_78 : decode b_X_context 78 = .ok (.iconst 1, 1) := by decide +kernel
theorem d_X_context_79 : decode b_X_context 79 = .ok (.iadd, 1) := by decide +kernel
theorem d_X_context_80 : decode b_X_context 80 = .ok (.iastore, 1) := by decide +kernel
theorem d_X_context_81 : decode b_X_context 81 = .ok (.aload_n 0, 1) := by decide +kernel
theorem d_X_context_82 : decode b_X_context 82 = .ok (.dup, 1) := by decide +kernel
theorem d_X_context_83 : decode b_X_context 83 = .ok (.getfield 59, 3) := by decide +kernel
theorem d_X_context_86 : decode b_X_context 86 = .ok (.iconst 1, 1) := by decide +kernel
theorem d_X_context_87 : decode b_X_context 87 = .ok (.iadd, 1) := by decide +kernel
theorem d_X_context_88 : decode b_X_context 88 = .ok (.putfield 59, 3) := by decide +kernel
theorem d_X_context_91 : decode b_X_context 91 = .ok (.iload_n 3, 1) := by decide +kernel
theorem d_X_context_92 : decode b_X_context 92 = .ok (.iload_n 2, 1) := by decide +kernel
theorem d_X_context_93 : decode b_X_context 93 = .ok (.iadd, 1) := by decide +kernel
theorem d_X_context_94 : decode b_X_context 94 = .ok (.ireturn, 1) := by decide +kernel
theorem d_X_context_95 : decode b_X_context 95 = .ok (.iload_n 1, 1) := by decide +kernel
theorem d_X_context_96 : decode b_X_context 96 = .ok (.bipush 22, 2) := by decide +kernel
theorem d_X_context_98 : decode b_X_context 98 = .ok (.if_icmp .eq 9, 3) := by decide +kernel
theorem d_X_context_101 : decode b_X_context 101 = .ok (.iload_n 1, 1) := by decide +kernel
theorem d_X_context_102 : decode b_X_context 102 = .ok (.bipush 26, 2) := by decide +kernel
theorem d_X_context_104 : decode b_X_context 104 = .ok (.if_icmp .ne 92, 3) := by decide +kernel
theorem d_X_context_107 : decode b_X_context 107 = .ok (.aload_n 0, 1) := by decide +kernel
theorem d_X_context_108 : decode b_X_context 108 = .ok (.iconst 1, 1) := by decide +kernel
theorem d_X_context_109 : decode b_X_context 109 = .ok (.invokevirtual 104, 3) := by decide +kernel
theorem d_X_context_112 : decode b_X_context 112 = .ok (.ifCond .eq 133, 3) := by decide +kernel
theorem d_X_context_115 : decode b_X_context 115 = .ok (.aload_n 0, 1) := by decide +kernel
theorem d_X_context_116 : decode b_X_context 116 = .ok (.getfield 16, 3) := by decide +kernel
theorem d_X_context_119 : decode b_X_context 119 = .ok (.bipush 7, 2) := by decide +kernel
theorem d_X_context_121 : decode b_X_context 121 = .ok (.iaload, 1) := by decide +kernel
theorem d_X_context_122 : decode b_X_context 122 = .ok (.istore 4, 2) := by decide +kernel
theorem d_X_context_124 : decode b_X_context 124 = .ok (.aload_n 0, 1) := by decide +kernel
theorem d_X_context_125 : decode b_X_context 125 = .ok (.iload_n 1, 1) := by decide +kernel
theorem d_X_context_126 : decode b_X_context 126 = .ok (.bipush 26, 2) := by decide +kernel
theorem d_X_context_128 : decode b_X_context 128 = .ok (.if_icmp .ne 18, 3) := by decide +kernel
theorem d_X_context_131 : decode b_X_context 131 = .ok (.aload_n 0, 1) := by decide +kernel
theorem d_X_context_132 : decode b_X_context 132 = .ok (.getfield 19, 3) := by decide +kernel
theorem d_X_context_135 : decode b_X_context 135 = .ok (.iconst 3, 1) := by decide +kernel
theorem d_X_context_136 : decode b_X_context 136 = .ok (.iaload, 1) := by decide +kernel
theorem d_X_context_137 : decode b_X_context 137 = .ok (.bipush 8, 2) := by decide +kernel
theorem d_X_context_139 : decode b_X_context 139 = .ok (.ishr, 1) := by decide +kernel
theorem d_X_context_140 : decode b_X_context 140 = .ok (.bipush 15, 2) := by decide +kernel
theorem d_X_context_142 : decode b_X_context 142 = .ok (.iand, 1) := by decide +kernel
theorem d_X_context_143 : decode b_X_context 143 = .ok (.goto 7, 3) := by decide +kernel
theorem d_X_context_146 : decode b_X_context 146 = .ok (.aload_n 0, 1) := by decide +kernel
theorem d_X_context_147 : decode b_X_context 147 = .ok (.getfield 62, 3) := by decide +kernel
theorem d_X_context_150 : decode b_X_context 150 = .ok (.putfield 62, 3) := by decide +kernel
theorem d_X_context_153 : decode b_X_context 153 = .ok (.aload_n 0, 1) := by decide +kernel
theorem d_X_context_154 : decode b_X_context 154 = .ok (.iload_n 1, 1) := by decide +kernel
theorem d_X_context_155 : decode b_X_context 155 = .ok (.bipush 26, 2) := by decide +kernel
theorem d_X_context_157 : decode b_X_context 157 = .ok (.if_icmp .ne 24, 3) := by decide +kernel
theorem d_X_context_160 : decode b_X_context 160 = .ok (.aload_n 0, 1) := by decide +kernel
theorem d_X_context_161 : decode b_X_context 161 = .ok (.getfield 19, 3) := by decide +kernel
theorem d_X_context_164 : decode b_X_context 164 = .ok (.iconst 3, 1) := by decide +kernel
theorem d_X_context_165 : decode b_X_context 165 = .ok (.iaload, 1) := by decide +kernel
theorem d_X_context_166 : decode b_X_context 166 = .ok (.sipush 4096, 3) := by decide +kernel
theorem d_X_context_169 : decode b_X_context 169 = .ok (.iand, 1) := by decide +kernel
theorem d_X_context_170 : decode b_X_context 170 = .ok (.ifCond .eq 7, 3) := by decide +kernel
theorem d_X_context_173 : decode b_X_context 173 = .ok (.iconst 1, 1) := by decide +kernel
theorem d_X_context_174 : decode b_X_context 174 = .ok (.goto 11, 3) := by decide +kernel
theorem d_X_context_177 : decode b_X_context 177 = .ok (.iconst 0, 1) := by decide +kernel
theorem d_X_context_178 : decode b_X_context 178 = .ok (.goto 7, 3) := by decide +kernel
theorem d_X_context_181 : decode b_X_context 181 = .ok (.aload_n 0, 1) := by decide +kernel
theorem d_X_context_182 : decode b_X_context 182 = .ok (.getfield 65, 3) := by decide +kernel
theorem d_X_context_185 : decode b_X_context 185 = .ok (.putfield 65, 3) := by decide +kernel
theorem d_X_context_188 : decode b_X_context 188 = .ok (.aload_n 0, 1) := by decide +kernel
theorem d_X_context_189 : decode b_X_context 189 = .ok (.iconst 1, 1) := by decide +kernel
theorem d_X_context_190 : decode b_X_context 190 = .ok (.invokevirtual 107, 3) := by decide +kernel
theorem d_X_context_193 : decode b_X_context 193 = .ok (.iload 4, 2) := by decide +kernel
theorem d_X_context_195 : decode b_X_context 195 = .ok (.ireturn, 1) := by decide +kernel
theorem d_X_context_196 : decode b_X_context 196 = .ok (.iload_n 1, 1) := by decide +kernel
theorem d_X_context_197 : decode b_X_context 197 = .ok (.bipush 24, 2) := by decide +kernel
theorem d_X_context_199 : decode b_X_context 199 = .ok (.if_icmp .ne 19, 3) := by decide +kernel
theorem d_X_context_202 : decode b_X_context 202 = .ok (.aload_n 0, 1) := by decide +kernel
theorem d_X_context_203 : decode b_X_context 203 = .ok (.iconst 0, 1) := by decide +kernel
theorem d_X_context_204 : decode b_X_context 204 = .ok (.invokevirtual 104, 3) := by decide +kernel
theorem d_X_context_207 : decode b_X_context 207 = .ok (.ifCond .eq 38, 3) := by decide +kernel
theorem d_X_context_210 : decode b_X_context 210 = .ok (.aload_n 0, 1) := by decide +kernel
theorem d_X_context_211 : decode b_X_context 211 = .ok (.iconst 0, 1) := by decide +kernel
theorem d_X_context_212 : decode b_X_context 212 = .ok (.invokevirtual 107, 3) := by decide +kernel
theorem d_X_context_215 : decode b_X_context 215 = .ok (.goto 30, 3) := by decide +kernel
theorem d_X_context_218 : decode b_X_context 218 = .ok (.aload_n 0, 1) := by decide +kernel
theorem d_X_context_219 : decode b_X_context 219 = .ok (.iconst 0, 1) := by decide +kernel
theorem d_X_context_220 : decode b_X_context 220 = .ok (.invokevirtual 74, 3) := by decide +kernel
theorem d_X_context_223 : decode b_X_context 223 = .ok (.ifCond .eq 22, 3) := by decide +kernel
theorem d_X_context_226 : decode b_X_context 226 = .ok (.iload_n 1, 1) := by decide +kernel
theorem d_X_context_227 : decode b_X_context 227 = .ok (.bipush 25, 2) := by decide +kernel
theorem d_X_context_229 : decode b_X_context 229 = .ok (.if_icmp .ne 16, 3) := by decide +kernel
theorem d_X_context_232 : decode b_X_context 232 = .ok (.aload_n 0, 1) := by decide +kernel
theorem d_X_context_233 : decode b_X_context 233 = .ok (.iload_n 2, 1) := by decide +kernel
theorem d_X_context_234 : decode b_X_context 234 = .ok (.bipush 15, 2) := by decide +kernel
theorem d_X_context_236 : decode b_X_context 236 = .ok (.iand, 1) := by decide +kernel
theorem d_X_context_237 : decode b_X_context 237 = .ok (.putfield 62, 3) := by decide +kernel
theorem d_X_context_240 : decode b_X_context 240 = .ok (.aload_n 0, 1) := by decide +kernel
theorem d_X_context_241 : decode b_X_context 241 = .ok (.iconst 1, 1) := by decide +kernel
theorem d_X_context_242 : decode b_X_context 242 = .ok (.putfield 65, 3) := by decide +kernel
theorem d_X_context_245 : decode b_X_context 245 = .ok (.iload_n 3, 1) := by decide +kernel
theorem d_X_context_246 : decode b_X_context 246 = .ok (.iconst 1, 1) := by decide +kernel
theorem d_X_context_247 : decode b_X_context 247 = .ok (.iadd, 1) := by decide +kernel
theorem d_X_context_248 : decode b_X_context 248 = .ok (.ireturn, 1) := by decide +kernel
theorem d_X_enter_0 : decode b_X_enter 0 = .ok (.aload_n 0, 1) := by decide +kernel
theorem d_X_enter_1 : decode b_X_enter 1 = .ok (.iconst 1, 1) := by decide +kernel
theorem d_X_enter_2 : decode b_X_enter 2 = .ok (.invokevirtual 74, 3) := by decide +kernel
theorem d_X_enter_5 : decode b_X_enter 5 = .ok (.ifCond .ne 5, 3) := by decide +kernel
theorem d_X_enter_8 : decode b_X_enter 8 = .ok (.iconst 0, 1) := by decide +kernel
theorem d_X_enter_9 : decode b_X_enter 9 = .ok (.ireturn, 1) := by decide +kernel
theorem d_X_enter_10 : decode b_X_enter 10 = .ok (.aload_n 0, 1) := by decide +kernel
theorem d_X_enter_11 : decode b_X_enter 11 = .ok (.getfield 16, 3) := by decide +kernel
theorem d_X_enter_14 : decode b_X_enter 14 = .ok (.bipush 7, 2) := by decide +kernel
theorem d_X_enter_16 : decode b_X_enter 16 = .ok (.iload_n 1, 1) := by decide +kernel
theorem d_X_enter_17 : decode b_X_enter 17 = .ok (.iastore, 1) := by decide +kernel
theorem d_X_enter_18 : decode b_X_enter 18 = .ok (.aload_n 0, 1) := by decide +kernel
theorem d_X_enter_19 : decode b_X_enter 19 = .ok (.iconst 2, 1) := by decide +kernel
theorem d_X_enter_20 : decode b_X_enter 20 = .ok (.putfield 53, 3) := by decide +kernel
theorem d_X_enter_23 : decode b_X_enter 23 = .ok (.aload_n 0, 1) := by decide +kernel
theorem d_X_enter_24 : decode b_X_enter 24 = .ok (.iconst 0, 1) := by decide +kernel
theorem d_X_enter_25 : decode b_X_enter 25 = .ok (.putfield 56, 3) := by decide +kernel
theorem d_X_enter_28 : decode b_X_enter 28 = .ok (.aload_n 0, 1) := by decide +kernel
theorem d_X_enter_29 : decode b_X_enter 29 = .ok (.iconst 0, 1) := by decide +kernel
theorem d_X_enter_30 : decode b_X_enter 30 = .ok (.putfield 59, 3) := by decide +kernel
theorem d_X_enter_33 : decode b_X_enter 33 = .ok (.aload_n 0, 1) := by decide +kernel
theorem d_X_enter_34 : decode b_X_enter 34 = .ok (.iconst 0, 1) := by decide +kernel
theorem d_X_enter_35 : decode b_X_enter 35 = .ok (.putfield 65, 3) := by decide +kernel
theorem d_X_enter_38 : decode b_X_enter 38 = .ok (.aload_n 0, 1) := by decide +kernel
theorem d_X_enter_39 : decode b_X_enter 39 = .ok (.getfield 19, 3) := by decide +kernel
theorem d_X_enter_42 : decode b_X_enter 42 = .ok (.iconst 0, 1) := by decide +kernel
theorem d_X_enter_43 : decode b_X_enter 43 = .ok (.iload_n 2, 1) := by decide +kernel
theorem d_X_enter_44 : decode b_X_enter 44 = .ok (.iastore, 1) := by decide +kernel
theorem d_X_enter_45 : decode b_X_enter 45 = .ok (.iconst 1, 1) := by decide +kernel
theorem d_X_enter_46 : decode b_X_enter 46 = .ok (.ireturn, 1) := by decide +kernel
theorem d_X_guard_0 : decode b_X_guard 0 = .ok (.aload_n 0, 1) := by decide +kernel
theorem d_X_guard_1 : decode b_X_guard 1 = .ok (.iconst 0, 1) := by decide +kernel
theorem d_X_guard_2 : decode b_X_guard 2 = .ok (.putfield 38, 3) := by decide +kernel
theorem d_X_guard_5 : decode b_X_guard 5 = .ok (.aload_n 0, 1) := by decide +kernel
theorem d_X_guard_6 : decode b_X_guard 6 = .ok (.iload_n 1, 1) := by decide +kernel
theorem d_X_guard_7 : decode b_X_guard 7 = .ok (.putfield 91, 3) := by decide +kernel
theorem d_X_guard_10 : decode b_X_guard 10 = .ok (.return_, 1) := by decide +kernel
theorem d_X_guarded_0 : decode b_X_guarded 0 = .ok (.aload_n 0, 1) := by decide +kernel
theorem d_X_guarded_1 : decode b_X_guarded 1 = .ok (.getfield 91, 3) := by decide +kernel
theorem d_X_guarded_4 : decode b_X_guarded 4 = .ok (.ifCond .eq 15, 3) := by decide +kernel
theorem d_X_guarded_7 : decode b_X_guarded 7 = .ok (.aload_n 0, 1) := by decide +kernel
theorem d_X_guarded_8 : decode b_X_guarded 8 = .ok (.getfield 53, 3) := by decide +kernel
theorem d_X_guarded_11 : decode b_X_guarded 11 = .ok (.iconst 2, 1) := by decide +kernel
theorem d_X_guarded_12 : decode b_X_guarded 12 = .ok (.if_icmp .eq 7, 3) := by decide +kernel
theorem d_X_guarded_15 : decode b_X_guarded 15 = .ok (.iconst 1, 1) := by decide +kernel
theorem d_X_guarded_16 : decode b_X_guarded 16 = .ok (.goto 4, 3) := by decide +kernel
theorem d_X_guarded_19 : decode b_X_guarded 19 = .ok (.iconst 0, 1) := by decide +kernel
theorem d_X_guarded_20 : decode b_X_guarded 20 = .ok (.ireturn, 1) := by decide +kernel
theorem d_X_halt_0 : decode b_X_halt 0 = .ok (.aload_n 0, 1) := by decide +kernel
theorem d_X_halt_1 : decode b_X_halt 1 = .ok (.iconst 0, 1) := by decide +kernel
theorem d_X_halt_2 : decode b_X_halt 2 = .ok (.putfield 38, 3) := by decide +kernel
theorem d_X_halt_5 : decode b_X_halt 5 = .ok (.aload_n 0, 1) := by decide +kernel
theorem d_X_halt_6 : decode b_X_halt 6 = .ok (.getfield 45, 3) := by decide +kernel
theorem d_X_halt_9 : decode b_X_halt 9 = .ok (.istore_n 1, 1) := by decide +kernel
theorem d_X_halt_10 : decode b_X_halt 10 = .ok (.aload_n 0, 1) := by decide +kernel
theorem d_X_halt_11 : decode b_X_halt 11 = .ok (.iconst 0, 1) := by decide +kernel
theorem d_X_halt_12 : decode b_X_halt 12 = .ok (.putfield 45, 3) := by decide +kernel
theorem d_X_halt_15 : decode b_X_halt 15 = .ok (.iload_n 1, 1) := by decide +kernel
theorem d_X_halt_16 : decode b_X_halt 16 = .ok (.ireturn, 1) := by decide +kernel
theorem d_X_instruction_0 : decode b_X_instruction 0 = .ok (.iload_n 1, 1) := by decide +kernel
theorem d_X_instruction_1 : decode b_X_instruction 1 = .ok (.bipush 31, 2) := by decide +kernel
theorem d_X_instruction_3 : decode b_X_instruction 3 = .ok (.iand, 1) := by decide +kernel
theorem d_X_instruction_4 : decode b_X_instruction 4 = .ok (.istore_n 2, 1) := by decide +kernel
theorem d_X_instruction_5 : decode b_X_instruction 5 = .ok (.iload_n 1, 1) := by decide +kernel
theorem d_X_instruction_6 : decode b_X_instruction 6 = .ok (.iconst 5, 1) := by decide +kernel
theorem d_X_instruction_7 : decode b_X_instruction 7 = .ok (.ishr, 1) := by decide +kernel
theorem d_X_instruction_8 : decode b_X_instruction 8 = .ok (.bipush 7, 2) := by decide +kernel
theorem d_X_instruction_10 : decode b_X_instruction 10 = .ok (.iand, 1) := by decide +kernel
theorem d_X_instruction_11 : decode b_X_instruction 11 = .ok (.istore_n 3, 1) := by decide +kernel
theorem d_X_instruction_12 : decode b_X_instruction 12 = .ok (.iload_n 1, 1) := by decide +kernel
theorem d_X_instruction_13 : decode b_X_instruction 13 = .ok (.bipush 8, 2) := by decide +kernel
theorem d_X_instruction_15 : decode b_X_instruction 15 = .ok (.ishr, 1) := by decide +kernel
theorem d_X_instruction_16 : decode b_X_instruction 16 = .ok (.bipush 7, 2) := by decide +kernel
theorem d_X_instruction_18 : decode b_X_instruction 18 = .ok (.iand, 1) := by decide +kernel
theorem d_X_instruction_19 : decode b_X_instruction 19 = .ok (.istore 4, 2) := by decide +kernel
theorem d_X_instruction_21 : decode b_X_instruction 21 = .ok (.iload_n 1, 1) := by decide +kernel
theorem d_X_instruction_22 : decode b_X_instruction 22 = .ok (.bipush 11, 2) := by decide +kernel
theorem d_X_instruction_24 : decode b_X_instruction 24 = .ok (.ishr, 1) := by decide +kernel
theorem d_X_instruction_25 : decode b_X_instruction 25 = .ok (.bipush 7, 2) := by decide +kernel
theorem d_X_instruction_27 : decode b_X_instruction 27 = .ok (.iand, 1) := by decide +kernel
theorem d_X_instruction_28 : decode b_X_instruction 28 = .ok (.istore 5, 2) := by decide +kernel
end
section
theorem d_X_instruction_30 : decode b_X_instruction 30 = .ok (.iload_n 1, 1) := by decide +kernel
theorem d_X_instruction_31 : decode b_X_instruction 31 = .ok (.bipush 16, 2) := by decide +kernel
theorem d_X_instruction_33 : decode b_X_instruction 33 = .ok (.ishr, 1) := by decide +kernel
theorem d_X_instruction_34 : decode b_X_instruction 34 = .ok (.istore 6, 2) := by decide +kernel
theorem d_X_instruction_36 : decode b_X_instruction 36 = .ok (.iload_n 2, 1) := by decide +kernel
theorem d_X_instruction_37 : decode b_X_instruction 37 = .ok (.bipush 25, 2) := by decide +kernel
theorem d_X_instruction_39 : decode b_X_instruction 39 = .ok (.if_icmp .eq 27, 3) := by decide +kernel
theorem d_X_instruction_42 : decode b_X_instruction 42 = .ok (.iload_n 2, 1) := by decide +kernel
theorem d_X_instruction_43 : decode b_X_instruction 43 = .ok (.bipush 26, 2) := by decide +kernel
theorem d_X_instruction_45 : decode b_X_instruction 45 = .ok (.if_icmp .eq 21, 3) := by decide +kernel
theorem d_X_instruction_48 : decode b_X_instruction 48 = .ok (.iload_n 2, 1) := by decide +kernel
theorem d_X_instruction_49 : decode b_X_instruction 49 = .ok (.bipush 28, 2) := by decide +kernel
theorem d_X_instruction_51 : decode b_X_instruction 51 = .ok (.if_icmp .eq 15, 3) := by decide +kernel
theorem d_X_instruction_54 : decode b_X_instruction 54 = .ok (.iload_n 2, 1) := by decide +kernel
theorem d_X_instruction_55 : decode b_X_instruction 55 = .ok (.bipush 29, 2) := by decide +kernel
theorem d_X_instruction_57 : decode b_X_instruction 57 = .ok (.if_icmp .eq 9, 3) := by decide +kernel
theorem d_X_instruction_60 : decode b_X_instruction 60 = .ok (.iload_n 2, 1) := by decide +kernel
theorem d_X_instruction_61 : decode b_X_instruction 61 = .ok (.bipush 31, 2) := by decide +kernel
theorem d_X_instruction_63 : decode b_X_instruction 63 = .ok (.if_icmp .ne 7, 3) := by decide +kernel
theorem d_X_instruction_66 : decode b_X_instruction 66 = .ok (.iconst 1, 1) := by decide +kernel
theorem d_X_instruction_67 : decode b_X_instruction 67 = .ok (.goto 4, 3) := by decide +kernel
theorem d_X_instruction_70 : decode b_X_instruction 70 = .ok (.iconst 0, 1) := by decide +kernel
theorem d_X_instruction_71 : decode b_X_instruction 71 = .ok (.istore 7, 2) := by decide +kernel
theorem d_X_instruction_73 : decode b_X_instruction 73 = .ok (.iload 7, 2) := by decide +kernel
theorem d_X_instruction_75 : decode b_X_instruction 75 = .ok (.ifCond .eq 11, 3) := by decide +kernel
theorem d_X_instruction_78 : decode b_X_instruction 78 = .ok (.aload_n 0, 1) := by decide +kernel
theorem d_X_instruction_79 : decode b_X_instruction 79 = .ok (.getfield 53, 3) := by decide +kernel
theorem d_X_instruction_82 : decode b_X_instruction 82 = .ok (.iconst 2, 1) := by decide +kernel
theorem d_X_instruction_83 : decode b_X_instruction 83 = .ok (.if_icmp .ne 20, 3) := by decide +kernel
theorem d_X_instruction_86 : decode b_X_instruction 86 = .ok (.iload_n 2, 1) := by decide +kernel
theorem d_X_instruction_87 : decode b_X_instruction 87 = .ok (.bipush 30, 2) := by decide +kernel
theorem d_X_instruction_89 : decode b_X_instruction 89 = .ok (.if_icmp .ne 22, 3) := by decide +kernel
theorem d_X_instruction_92 : decode b_X_instruction 92 = .ok (.iload 6, 2) := by decide +kernel
theorem d_X_instruction_94 : decode b_X_instruction 94 = .ok (.iconst 1, 1) := by decide +kernel
theorem d_X_instruction_95 : decode b_X_instruction 95 = .ok (.iand, 1) := by decide +kernel
theorem d_X_instruction_96 : decode b_X_instruction 96 = .ok (.aload_n 0, 1) := by decide +kernel
theorem d_X_instruction_97 : decode b_X_instruction 97 = .ok (.getfield 53, 3) := by decide +kernel
theorem d_X_instruction_100 : decode b_X_instruction 100 = .ok (.if_icmp .le 11, 3) := by decide +kernel
theorem d_X_instruction_103 : decode b_X_instruction 103 = .ok (.aload_n 0, 1) := by decide +kernel
theorem d_X_instruction_104 : decode b_X_instruction 104 = .ok (.sipush 257, 3) := by decide +kernel
theorem d_X_instruction_107 : decode b_X_instruction 107 = .ok (.putfield 71, 3) := by decide +kernel
theorem d_X_instruction_110 : decode b_X_instruction 110 = .ok (.return_, 1) := by decide +kernel
theorem d_X_instruction_111 : decode b_X_instruction 111 = .ok (.aload_n 0, 1) := by decide +kernel
theorem d_X_instruction_112 : decode b_X_instruction 112 = .ok (.getfield 19, 3) := by decide +kernel
theorem d_X_instruction_115 : decode b_X_instruction 115 = .ok (.iconst 0, 1) := by decide +kernel
theorem d_X_instruction_116 : decode b_X_instruction 116 = .ok (.iaload, 1) := by decide +kernel
theorem d_X_instruction_117 : decode b_X_instruction 117 = .ok (.iconst 1, 1) := by decide +kernel
theorem d_X_instruction_118 : decode b_X_instruction 118 = .ok (.iadd, 1) := by decide +kernel
theorem d_X_instruction_119 : decode b_X_instruction 119 = .ok (.istore 8, 2) := by decide +kernel
theorem d_X_instruction_121 : decode b_X_instruction 121 = .ok (.iload_n 2, 1) := by decide +kernel
theorem d_X_instruction_122 : decode b_X_instruction 122 = .ok (.ifCond .le 24, 3) := by decide +kernel
theorem d_X_instruction_125 : decode b_X_instruction 125 = .ok (.iload_n 2, 1) := by decide +kernel
theorem d_X_instruction_126 : decode b_X_instruction 126 = .ok (.bipush 13, 2) := by decide +kernel
theorem d_X_instruction_128 : decode b_X_instruction 128 = .ok (.if_icmp .ge 18, 3) := by decide +kernel
theorem d_X_instruction_131 : decode b_X_instruction 131 = .ok (.aload_n 0, 1) := by decide +kernel
theorem d_X_instruction_132 : decode b_X_instruction 132 = .ok (.iload_n 2, 1) := by decide +kernel
theorem d_X_instruction_133 : decode b_X_instruction 133 = .ok (.iload_n 3, 1) := by decide +kernel
theorem d_X_instruction_134 : decode b_X_instruction 134 = .ok (.iload 4, 2) := by decide +kernel
theorem d_X_instruction_136 : decode b_X_instruction 136 = .ok (.iload 5, 2) := by decide +kernel
theorem d_X_instruction_138 : decode b_X_instruction 138 = .ok (.iload 6, 2) := by decide +kernel
theorem d_X_instruction_140 : decode b_X_instruction 140 = .ok (.invokevirtual 111, 3) := by decide +kernel
theorem d_X_instruction_143 : decode b_X_instruction 143 = .ok (.goto 101, 3) := by decide +kernel
theorem d_X_instruction_146 : decode b_X_instruction 146 = .ok (.iload_n 2, 1) := by decide +kernel
theorem d_X_instruction_147 : decode b_X_instruction 147 = .ok (.bipush 12, 2) := by decide +kernel
theorem d_X_instruction_149 : decode b_X_instruction 149 = .ok (.if_icmp .le 22, 3) := by decide +kernel
theorem d_X_instruction_152 : decode b_X_instruction 152 = .ok (.iload_n 2, 1) := by decide +kernel
theorem d_X_instruction_153 : decode b_X_instruction 153 = .ok (.bipush 18, 2) := by decide +kernel
theorem d_X_instruction_155 : decode b_X_instruction 155 = .ok (.if_icmp .ge 16, 3) := by decide +kernel
theorem d_X_instruction_158 : decode b_X_instruction 158 = .ok (.aload_n 0, 1) := by decide +kernel
theorem d_X_instruction_159 : decode b_X_instruction 159 = .ok (.iload_n 2, 1) := by decide +kernel
theorem d_X_instruction_160 : decode b_X_instruction 160 = .ok (.iload_n 3, 1) := by decide +kernel
theorem d_X_instruction_161 : decode b_X_instruction 161 = .ok (.iload 4, 2) := by decide +kernel
theorem d_X_instruction_163 : decode b_X_instruction 163 = .ok (.iload 6, 2) := by decide +kernel
theorem d_X_instruction_165 : decode b_X_instruction 165 = .ok (.invokevirtual 115, 3) := by decide +kernel
theorem d_X_instruction_168 : decode b_X_instruction 168 = .ok (.goto 76, 3) := by decide +kernel
theorem d_X_instruction_171 : decode b_X_instruction 171 = .ok (.iload_n 2, 1) := by decide +kernel
theorem d_X_instruction_172 : decode b_X_instruction 172 = .ok (.bipush 17, 2) := by decide +kernel
theorem d_X_instruction_174 : decode b_X_instruction 174 = .ok (.if_icmp .le 39, 3) := by decide +kernel
theorem d_X_instruction_177 : decode b_X_instruction 177 = .ok (.iload_n 2, 1) := by decide +kernel
theorem d_X_instruction_178 : decode b_X_instruction 178 = .ok (.bipush 21, 2) := by decide +kernel
theorem d_X_instruction_180 : decode b_X_instruction 180 = .ok (.if_icmp .ge 33, 3) := by decide +kernel
theorem d_X_instruction_183 : decode b_X_instruction 183 = .ok (.iload_n 2, 1) := by decide +kernel
theorem d_X_instruction_184 : decode b_X_instruction 184 = .ok (.aload_n 0, 1) := by decide +kernel
theorem d_X_instruction_185 : decode b_X_instruction 185 = .ok (.getfield 19, 3) := by decide +kernel
theorem d_X_instruction_188 : decode b_X_instruction 188 = .ok (.iconst 0, 1) := by decide +kernel
theorem d_X_instruction_189 : decode b_X_instruction 189 = .ok (.iaload, 1) := by decide +kernel
theorem d_X_instruction_190 : decode b_X_instruction 190 = .ok (.iload 6, 2) := by decide +kernel
theorem d_X_instruction_192 : decode b_X_instruction 192 = .ok (.aload_n 0, 1) := by decide +kernel
theorem d_X_instruction_193 : decode b_X_instruction 193 = .ok (.getfield 13, 3) := by decide +kernel
theorem d_X_instruction_196 : decode b_X_instruction 196 = .ok (.iload_n 3, 1) := by decide +kernel
theorem d_X_instruction_197 : decode b_X_instruction 197 = .ok (.iaload, 1) := by decide +kernel
theorem d_X_instruction_198 : decode b_X_instruction 198 = .ok (.aload_n 0, 1) := by decide +kernel
theorem d_X_instruction_199 : decode b_X_instruction 199 = .ok (.getfield 13, 3) := by decide +kernel
theorem d_X_instruction_202 : decode b_X_instruction 202 = .ok (.iload 4, 2) := by decide +kernel
theorem d_X_instruction_204 : decode b_X_instruction 204 = .ok (.iaload, 1) := by decide +kernel
theorem d_X_instruction_205 : decode b_X_instruction 205 = .ok (.invokestatic 119, 3) := by decide +kernel
theorem d_X_instruction_208 : decode b_X_instruction 208 = .ok (.istore 8, 2) := by decide +kernel
theorem d_X_instruction_210 : decode b_X_instruction 210 = .ok (.goto 34, 3) := by decide +kernel
theorem d_X_instruction_213 : decode b_X_instruction 213 = .ok (.iload_n 2, 1) := by decide +kernel
theorem d_X_instruction_214 : decode b_X_instruction 214 = .ok (.bipush 20, 2) := by decide +kernel
theorem d_X_instruction_216 : decode b_X_instruction 216 = .ok (.if_icmp .le 21, 3) := by decide +kernel
theorem d_X_instruction_219 : decode b_X_instruction 219 = .ok (.iload_n 2, 1) := by decide +kernel
theorem d_X_instruction_220 : decode b_X_instruction 220 = .ok (.bipush 27, 2) := by decide +kernel
theorem d_X_instruction_222 : decode b_X_instruction 222 = .ok (.if_icmp .ge 15, 3) := by decide +kernel
theorem d_X_instruction_225 : decode b_X_instruction 225 = .ok (.aload_n 0, 1) := by decide +kernel
theorem d_X_instruction_226 : decode b_X_instruction 226 = .ok (.iload_n 2, 1) := by decide +kernel
theorem d_X_instruction_227 : decode b_X_instruction 227 = .ok (.iload 6, 2) := by decide +kernel
theorem d_X_instruction_229 : decode b_X_instruction 229 = .ok (.invokevirtual 123, 3) := by decide +kernel
theorem d_X_instruction_232 : decode b_X_instruction 232 = .ok (.istore 8, 2) := by decide +kernel
theorem d_X_instruction_234 : decode b_X_instruction 234 = .ok (.goto 10, 3) := by decide +kernel
theorem d_X_instruction_237 : decode b_X_instruction 237 = .ok (.aload_n 0, 1) := by decide +kernel
theorem d_X_instruction_238 : decode b_X_instruction 238 = .ok (.iload_n 2, 1) := by decide +kernel
theorem d_X_instruction_239 : decode b_X_instruction 239 = .ok (.iload 6, 2) := by decide +kernel
theorem d_X_instruction_241 : decode b_X_instruction 241 = .ok (.invokevirtual 127, 3) := by decide +kernel
theorem d_X_instruction_244 : decode b_X_instruction 244 = .ok (.aload_n 0, 1) := by decide +kernel
theorem d_X_instruction_245 : decode b_X_instruction 245 = .ok (.getfield 19, 3) := by decide +kernel
theorem d_X_instruction_248 : decode b_X_instruction 248 = .ok (.iconst 0, 1) := by decide +kernel
theorem d_X_instruction_249 : decode b_X_instruction 249 = .ok (.aload_n 0, 1) := by decide +kernel
theorem d_X_instruction_250 : decode b_X_instruction 250 = .ok (.getfield 71, 3) := by decide +kernel
theorem d_X_instruction_253 : decode b_X_instruction 253 = .ok (.ifCond .ne 15, 3) := by decide +kernel
theorem d_X_instruction_256 : decode b_X_instruction 256 = .ok (.aload_n 0, 1) := by decide +kernel
theorem d_X_instruction_257 : decode b_X_instruction 257 = .ok (.getfield 45, 3) := by decide +kernel
theorem d_X_instruction_260 : decode b_X_instruction 260 = .ok (.ifCond .eq 8, 3) := by decide +kernel
theorem d_X_instruction_263 : decode b_X_instruction 263 = .ok (.iload 8, 2) := by decide +kernel
theorem d_X_instruction_265 : decode b_X_instruction 265 = .ok (.goto 9, 3) := by decide +kernel
theorem d_X_instruction_268 : decode b_X_instruction 268 = .ok (.aload_n 0, 1) := by decide +kernel
theorem d_X_instruction_269 : decode b_X_instruction 269 = .ok (.getfield 19, 3) := by decide +kernel
theorem d_X_instruction_272 : decode b_X_instruction 272 = .ok (.iconst 0, 1) := by decide +kernel
theorem d_X_instruction_273 : decode b_X_instruction 273 = .ok (.iaload, 1) := by decide +kernel
theorem d_X_instruction_274 : decode b_X_instruction 274 = .ok (.iastore, 1) := by decide +kernel
theorem d_X_instruction_275 : decode b_X_instruction 275 = .ok (.return_, 1) := by decide +kernel
theorem d_X_isArea_0 : decode b_X_isArea 0 = .ok (.iload_n 0, 1) := by decide +kernel
theorem d_X_isArea_1 : decode b_X_isArea 1 = .ok (.iconst 1, 1) := by decide +kernel
theorem d_X_isArea_2 : decode b_X_isArea 2 = .ok (.if_icmp .lt 13, 3) := by decide +kernel
theorem d_X_isArea_5 : decode b_X_isArea 5 = .ok (.iload_n 0, 1) := by decide +kernel
theorem d_X_isArea_6 : decode b_X_isArea 6 = .ok (.bipush 24, 2) := by decide +kernel
theorem d_X_isArea_8 : decode b_X_isArea 8 = .ok (.if_icmp .gt 7, 3) := by decide +kernel
theorem d_X_isArea_11 : decode b_X_isArea 11 = .ok (.iconst 1, 1) := by decide +kernel
theorem d_X_isArea_12 : decode b_X_isArea 12 = .ok (.goto 4, 3) := by decide +kernel
theorem d_X_isArea_15 : decode b_X_isArea 15 = .ok (.iconst 0, 1) := by decide +kernel
theorem d_X_isArea_16 : decode b_X_isArea 16 = .ok (.ireturn, 1) := by decide +kernel
theorem d_X_jump_0 : decode b_X_jump 0 = .ok (.iload_n 0, 1) := by decide +kernel
theorem d_X_jump_1 : decode b_X_jump 1 = .ok (.bipush 18, 2) := by decide +kernel
theorem d_X_jump_3 : decode b_X_jump 3 = .ok (.if_icmp .eq 25, 3) := by decide +kernel
theorem d_X_jump_6 : decode b_X_jump 6 = .ok (.iload_n 0, 1) := by decide +kernel
theorem d_X_jump_7 : decode b_X_jump 7 = .ok (.bipush 19, 2) := by decide +kernel
theorem d_X_jump_9 : decode b_X_jump 9 = .ok (.if_icmp .ne 7, 3) := by decide +kernel
theorem d_X_jump_12 : decode b_X_jump 12 = .ok (.iload_n 3, 1) := by decide +kernel
theorem d_X_jump_13 : decode b_X_jump 13 = .ok (.ifCond .eq 15, 3) := by decide +kernel
theorem d_X_jump_16 : decode b_X_jump 16 = .ok (.iload_n 0, 1) := by decide +kernel
theorem d_X_jump_17 : decode b_X_jump 17 = .ok (.bipush 20, 2) := by decide +kernel
theorem d_X_jump_19 : decode b_X_jump 19 = .ok (.if_icmp .ne 13, 3) := by decide +kernel
theorem d_X_jump_22 : decode b_X_jump 22 = .ok (.iload_n 3, 1) := by decide +kernel
theorem d_X_jump_23 : decode b_X_jump 23 = .ok (.iload 4, 2) := by decide +kernel
theorem d_X_jump_25 : decode b_X_jump 25 = .ok (.if_icmp .ge 7, 3) := by decide +kernel
theorem d_X_jump_28 : decode b_X_jump 28 = .ok (.iconst 1, 1) := by decide +kernel
theorem d_X_jump_29 : decode b_X_jump 29 = .ok (.goto 4, 3) := by decide +kernel
theorem d_X_jump_32 : decode b_X_jump 32 = .ok (.iconst 0, 1) := by decide +kernel
theorem d_X_jump_33 : decode b_X_jump 33 = .ok (.istore 5, 2) := by decide +kernel
theorem d_X_jump_35 : decode b_X_jump 35 = .ok (.iload 5, 2) := by decide +kernel
theorem d_X_jump_37 : decode b_X_jump 37 = .ok (.ifCond .eq 9, 3) := by decide +kernel
theorem d_X_jump_40 : decode b_X_jump 40 = .ok (.iload_n 1, 1) := by decide +kernel
theorem d_X_jump_41 : decode b_X_jump 41 = .ok (.iload_n 2, 1) := by decide +kernel
theorem d_X_jump_42 : decode b_X_jump 42 = .ok (.iadd, 1) := by decide +kernel
theorem d_X_jump_43 : decode b_X_jump 43 = .ok (.goto 6, 3) := by decide +kernel
theorem d_X_jump_46 : decode b_X_jump 46 = .ok (.iload_n 1, 1) := by decide +kernel
theorem d_X_jump_47 : decode b_X_jump 47 = .ok (.iconst 1, 1) := by decide +kernel
theorem d_X_jump_48 : decode b_X_jump 48 = .ok (.iadd, 1) := by decide +kernel
theorem d_X_jump_49 : decode b_X_jump 49 = .ok (.ireturn, 1) := by decide +kernel
theorem d_X_keep_0 : decode b_X_keep 0 = .ok (.aload_n 0, 1) := by decide +kernel
theorem d_X_keep_1 : decode b_X_keep 1 = .ok (.getfield 19, 3) := by decide +kernel
theorem d_X_keep_4 : decode b_X_keep 4 = .ok (.iconst 1, 1) := by decide +kernel
theorem d_X_keep_5 : decode b_X_keep 5 = .ok (.iaload, 1) := by decide +kernel
theorem d_X_keep_6 : decode b_X_keep 6 = .ok (.bipush 31, 2) := by decide +kernel
theorem d_X_keep_8 : decode b_X_keep 8 = .ok (.iand, 1) := by decide +kernel
theorem d_X_keep_9 : decode b_X_keep 9 = .ok (.istore_n 2, 1) := by decide +kernel
theorem d_X_keep_10 : decode b_X_keep 10 = .ok (.iload_n 2, 1) := by decide +kernel
theorem d_X_keep_11 : decode b_X_keep 11 = .ok (.invokestatic 41, 3) := by decide +kernel
theorem d_X_keep_14 : decode b_X_keep 14 = .ok (.ifCond .ne 10, 3) := by decide +kernel
theorem d_X_keep_17 : decode b_X_keep 17 = .ok (.aload_n 0, 1) := by decide +kernel
theorem d_X_keep_18 : decode b_X_keep 18 = .ok (.iconst 0, 1) := by decide +kernel
theorem d_X_keep_19 : decode b_X_keep 19 = .ok (.putfield 45, 3) := by decide +kernel
theorem d_X_keep_22 : decode b_X_keep 22 = .ok (.iconst 0, 1) := by decide +kernel
theorem d_X_keep_23 : decode b_X_keep 23 = .ok (.ireturn, 1) := by decide +kernel
theorem d_X_keep_24 : decode b_X_keep 24 = .ok (.iload_n 2, 1) := by decide +kernel
theorem d_X_keep_25 : decode b_X_keep 25 = .ok (.invokestatic 49, 3) := by decide +kernel
theorem d_X_keep_28 : decode b_X_keep 28 = .ok (.istore_n 3, 1) := by decide +kernel
theorem d_X_keep_29 : decode b_X_keep 29 = .ok (.aload_n 0, 1) := by decide +kernel
theorem d_X_keep_30 : decode b_X_keep 30 = .ok (.getfield 7, 3) := by decide +kernel
theorem d_X_keep_33 : decode b_X_keep 33 = .ok (.iload_n 3, 1) := by decide +kernel
theorem d_X_keep_34 : decode b_X_keep 34 = .ok (.iaload, 1) := by decide +kernel
theorem d_X_keep_35 : decode b_X_keep 35 = .ok (.istore 4, 2) := by decide +kernel
theorem d_X_keep_37 : decode b_X_keep 37 = .ok (.aload_n 0, 1) := by decide +kernel
theorem d_X_keep_38 : decode b_X_keep 38 = .ok (.getfield 7, 3) := by decide +kernel
theorem d_X_keep_41 : decode b_X_keep 41 = .ok (.iload_n 3, 1) := by decide +kernel
theorem d_X_keep_42 : decode b_X_keep 42 = .ok (.aload_n 0, 1) := by decide +kernel
theorem d_X_keep_43 : decode b_X_keep 43 = .ok (.getfield 19, 3) := by decide +kernel
theorem d_X_keep_46 : decode b_X_keep 46 = .ok (.iconst 3, 1) := by decide +kernel
theorem d_X_keep_47 : decode b_X_keep 47 = .ok (.iaload, 1) := by decide +kernel
theorem d_X_keep_48 : decode b_X_keep 48 = .ok (.iastore, 1) := by decide +kernel
theorem d_X_keep_49 : decode b_X_keep 49 = .ok (.aload_n 0, 1) := by decide +kernel
theorem d_X_keep_50 : decode b_X_keep 50 = .ok (.getfield 7, 3) := by decide +kernel
theorem d_X_keep_53 : decode b_X_keep 53 = .ok (.iload_n 3, 1) := by decide +kernel
theorem d_X_keep_54 : decode b_X_keep 54 = .ok (.iconst 1, 1) := by decide +kernel
theorem d_X_keep_55 : decode b_X_keep 55 = .ok (.iadd, 1) := by decide +kernel
theorem d_X_keep_56 : decode b_X_keep 56 = .ok (.iload_n 1, 1) := by decide +kernel
theorem d_X_keep_57 : decode b_X_keep 57 = .ok (.ifCond .eq 25, 3) := by decide +kernel
theorem d_X_keep_60 : decode b_X_keep 60 = .ok (.aload_n 0, 1) := by decide +kernel
theorem d_X_keep_61 : decode b_X_keep 61 = .ok (.getfield 53, 3) := by decide +kernel
theorem d_X_keep_64 : decode b_X_keep 64 = .ok (.iconst 4, 1) := by decide +kernel
theorem d_X_keep_65 : decode b_X_keep 65 = .ok (.aload_n 0, 1) := by decide +kernel
theorem d_X_keep_66 : decode b_X_keep 66 = .ok (.getfield 56, 3) := by decide +kernel
theorem d_X_keep_69 : decode b_X_keep 69 = .ok (.imul, 1) := by decide +kernel
theorem d_X_keep_70 : decode b_X_keep 70 = .ok (.iadd, 1) := by decide +kernel
theorem d_X_keep_71 : decode b_X_keep 71 = .ok (.bipush 8, 2) := by decide +kernel
theorem d_X_keep_73 : decode b_X_keep 73 = .ok (.aload_n 0, 1) := by decide +kernel
theorem d_X_keep_74 : decode b_X_keep 74 = .ok (.getfield 59, 3) := by decide +kernel
theorem d_X_keep_77 : decode b_X_keep 77 = .ok (.imul, 1) := by decide +kernel
theorem d_X_keep_78 : decode b_X_keep 78 = .ok (.iadd, 1) := by decide +kernel
theorem d_X_keep_79 : decode b_X_keep 79 = .ok (.goto 10, 3) := by decide +kernel
theorem d_X_keep_82 : decode b_X_keep 82 = .ok (.aload_n 0, 1) := by decide +kernel
theorem d_X_keep_83 : decode b_X_keep 83 = .ok (.getfield 16, 3) := by decide +kernel
theorem d_X_keep_86 : decode b_X_keep 86 = .ok (.bipush 7, 2) := by decide +kernel
theorem d_X_keep_88 : decode b_X_keep 88 = .ok (.iaload, 1) := by decide +kernel
theorem d_X_keep_89 : decode b_X_keep 89 = .ok (.iastore, 1) := by decide +kernel
theorem d_X_keep_90 : decode b_X_keep 90 = .ok (.aload_n 0, 1) := by decide +kernel
theorem d_X_keep_91 : decode b_X_keep 91 = .ok (.getfield 7, 3) := by decide +kernel
theorem d_X_keep_94 : decode b_X_keep 94 = .ok (.iload_n 3, 1) := by decide +kernel
theorem d_X_keep_95 : decode b_X_keep 95 = .ok (.iconst 2, 1) := by decide +kernel
theorem d_X_keep_96 : decode b_X_keep 96 = .ok (.iadd, 1) := by decide +kernel
theorem d_X_keep_97 : decode b_X_keep 97 = .ok (.iload_n 1, 1) := by decide +kernel
theorem d_X_keep_98 : decode b_X_keep 98 = .ok (.ifCond .eq 13, 3) := by decide +kernel
theorem d_X_keep_101 : decode b_X_keep 101 = .ok (.aload_n 0, 1) := by decide +kernel
theorem d_X_keep_102 : decode b_X_keep 102 = .ok (.getfield 16, 3) := by decide +kernel
theorem d_X_keep_105 : decode b_X_keep 105 = .ok (.bipush 6, 2) := by decide +kernel
theorem d_X_keep_107 : decode b_X_keep 107 = .ok (.iaload, 1) := by decide +kernel
theorem d_X_keep_108 : decode b_X_keep 108 = .ok (.goto 9, 3) := by decide +kernel
theorem d_X_keep_111 : decode b_X_keep 111 = .ok (.aload_n 0, 1) := by decide +kernel
theorem d_X_keep_112 : decode b_X_keep 112 = .ok (.getfield 16, 3) := by decide +kernel
theorem d_X_keep_115 : decode b_X_keep 115 = .ok (.iconst 2, 1) := by decide +kernel
theorem d_X_keep_116 : decode b_X_keep 116 = .ok (.iaload, 1) := by decide +kernel
theorem d_X_keep_117 : decode b_X_keep 117 = .ok (.iastore, 1) := by decide +kernel
theorem d_X_keep_118 : decode b_X_keep 118 = .ok (.aload_n 0, 1) := by decide +kernel
theorem d_X_keep_119 : decode b_X_keep 119 = .ok (.getfield 7, 3) := by decide +kernel
theorem d_X_keep_122 : decode b_X_keep 122 = .ok (.iload_n 3, 1) := by decide +kernel
theorem d_X_keep_123 : decode b_X_keep 123 = .ok (.iconst 3, 1) := by decide +kernel
theorem d_X_keep_124 : decode b_X_keep 124 = .ok (.iadd, 1) := by decide +kernel
theorem d_X_keep_125 : decode b_X_keep 125 = .ok (.iload_n 1, 1) := by decide +kernel
theorem d_X_keep_126 : decode b_X_keep 126 = .ok (.ifCond .eq 13, 3) := by decide +kernel
theorem d_X_keep_129 : decode b_X_keep 129 = .ok (.aload_n 0, 1) := by decide +kernel
theorem d_X_keep_130 : decode b_X_keep 130 = .ok (.getfield 16, 3) := by decide +kernel
theorem d_X_keep_133 : decode b_X_keep 133 = .ok (.bipush 7, 2) := by decide +kernel
theorem d_X_keep_135 : decode b_X_keep 135 = .ok (.iaload, 1) := by decide +kernel
theorem d_X_keep_136 : decode b_X_keep 136 = .ok (.goto 9, 3) := by decide +kernel
theorem d_X_keep_139 : decode b_X_keep 139 = .ok (.aload_n 0, 1) := by decide +kernel
theorem d_X_keep_140 : decode b_X_keep 140 = .ok (.getfield 16, 3) := by decide +kernel
theorem d_X_keep_143 : decode b_X_keep 143 = .ok (.iconst 3, 1) := by decide +kernel
theorem d_X_keep_144 : decode b_X_keep 144 = .ok (.iaload, 1) := by decide +kernel
theorem d_X_keep_145 : decode b_X_keep 145 = .ok (.iastore, 1) := by decide +kernel
theorem d_X_keep_146 : decode b_X_keep 146 = .ok (.iconst 0, 1) := by decide +kernel
theorem d_X_keep_147 : decode b_X_keep 147 = .ok (.istore 5, 2) := by decide +kernel
theorem d_X_keep_149 : decode b_X_keep 149 = .ok (.iload 5, 2) := by decide +kernel
theorem d_X_keep_151 : decode b_X_keep 151 = .ok (.iconst 4, 1) := by decide +kernel
theorem d_X_keep_152 : decode b_X_keep 152 = .ok (.if_icmp .ge 43, 3) := by decide +kernel
theorem d_X_keep_155 : decode b_X_keep 155 = .ok (.aload_n 0, 1) := by decide +kernel
theorem d_X_keep_156 : decode b_X_keep 156 = .ok (.getfield 7, 3) := by decide +kernel
theorem d_X_keep_159 : decode b_X_keep 159 = .ok (.iload_n 3, 1) := by decide +kernel
theorem d_X_keep_160 : decode b_X_keep 160 = .ok (.iconst 4, 1) := by decide +kernel
theorem d_X_keep_161 : decode b_X_keep 161 = .ok (.iadd, 1) := by decide +kernel
theorem d_X_keep_162 : decode b_X_keep 162 = .ok (.iload 5, 2) := by decide +kernel
theorem d_X_keep_164 : decode b_X_keep 164 = .ok (.iadd, 1) := by decide +kernel
theorem d_X_keep_165 : decode b_X_keep 165 = .ok (.iload_n 1, 1) := by decide +kernel
theorem d_X_keep_166 : decode b_X_keep 166 = .ok (.ifCond .eq 15, 3) := by decide +kernel
theorem d_X_keep_169 : decode b_X_keep 169 = .ok (.aload_n 0, 1) := by decide +kernel
theorem d_X_keep_170 : decode b_X_keep 170 = .ok (.getfield 13, 3) := by decide +kernel
theorem d_X_keep_173 : decode b_X_keep 173 = .ok (.iconst 4, 1) := by decide +kernel
theorem d_X_keep_174 : decode b_X_keep 174 = .ok (.iload 5, 2) := by decide +kernel
theorem d_X_keep_176 : decode b_X_keep 176 = .ok (.iadd, 1) := by decide +kernel
theorem d_X_keep_177 : decode b_X_keep 177 = .ok (.iaload, 1) := by decide +kernel
theorem d_X_keep_178 : decode b_X_keep 178 = .ok (.goto 10, 3) := by decide +kernel
theorem d_X_keep_181 : decode b_X_keep 181 = .ok (.aload_n 0, 1) := by decide +kernel
theorem d_X_keep_182 : decode b_X_keep 182 = .ok (.getfield 13, 3) := by decide +kernel
theorem d_X_keep_185 : decode b_X_keep 185 = .ok (.iload 5, 2) := by decide +kernel
theorem d_X_keep_187 : decode b_X_keep 187 = .ok (.iaload, 1) := by decide +kernel
theorem d_X_keep_188 : decode b_X_keep 188 = .ok (.iastore, 1) := by decide +kernel
theorem d_X_keep_189 : decode b_X_keep 189 = .ok (.iinc 5 1, 3) := by decide +kernel
theorem d_X_keep_192 : decode b_X_keep 192 = .ok (.goto (-43), 3) := by decide +kernel
theorem d_X_keep_195 : decode b_X_keep 195 = .ok (.aload_n 0, 1) := by decide +kernel
theorem d_X_keep_196 : decode b_X_keep 196 = .ok (.getfield 19, 3) := by decide +kernel
theorem d_X_keep_199 : decode b_X_keep 199 = .ok (.iconst 1, 1) := by decide +kernel
theorem d_X_keep_200 : decode b_X_keep 200 = .ok (.iload 4, 2) := by decide +kernel
theorem d_X_keep_202 : decode b_X_keep 202 = .ok (.iastore, 1) := by decide +kernel
theorem d_X_keep_203 : decode b_X_keep 203 = .ok (.aload_n 0, 1) := by decide +kernel
theorem d_X_keep_204 : decode b_X_keep 204 = .ok (.getfield 19, 3) := by decide +kernel
theorem d_X_keep_207 : decode b_X_keep 207 = .ok (.iconst 3, 1) := by decide +kernel
theorem d_X_keep_208 : decode b_X_keep 208 = .ok (.iload_n 2, 1) := by decide +kernel
theorem d_X_keep_209 : decode b_X_keep 209 = .ok (.iload_n 1, 1) := by decide +kernel
theorem d_X_keep_210 : decode b_X_keep 210 = .ok (.ifCond .eq 8, 3) := by decide +kernel
theorem d_X_keep_213 : decode b_X_keep 213 = .ok (.bipush 32, 2) := by decide +kernel
theorem d_X_keep_215 : decode b_X_keep 215 = .ok (.goto 4, 3) := by decide +kernel
theorem d_X_keep_218 : decode b_X_keep 218 = .ok (.iconst 0, 1) := by decide +kernel
theorem d_X_keep_219 : decode b_X_keep 219 = .ok (.iadd, 1) := by decide +kernel
theorem d_X_keep_220 : decode b_X_keep 220 = .ok (.sipush 256, 3) := by decide +kernel
theorem d_X_keep_223 : decode b_X_keep 223 = .ok (.aload_n 0, 1) := by decide +kernel
theorem d_X_keep_224 : decode b_X_keep 224 = .ok (.getfield 62, 3) := by decide +kernel
theorem d_X_keep_227 : decode b_X_keep 227 = .ok (.imul, 1) := by decide +kernel
theorem d_X_keep_228 : decode b_X_keep 228 = .ok (.iadd, 1) := by decide +kernel
theorem d_X_keep_229 : decode b_X_keep 229 = .ok (.aload_n 0, 1) := by decide +kernel
theorem d_X_keep_230 : decode b_X_keep 230 = .ok (.getfield 65, 3) := by decide +kernel
theorem d_X_keep_233 : decode b_X_keep 233 = .ok (.ifCond .eq 9, 3) := by decide +kernel
theorem d_X_keep_236 : decode b_X_keep 236 = .ok (.sipush 4096, 3) := by decide +kernel
theorem d_X_keep_239 : decode b_X_keep 239 = .ok (.goto 4, 3) := by decide +kernel
theorem d_X_keep_242 : decode b_X_keep 242 = .ok (.iconst 0, 1) := by decide +kernel
theorem d_X_keep_243 : decode b_X_keep 243 = .ok (.iadd, 1) := by decide +kernel
theorem d_X_keep_244 : decode b_X_keep 244 = .ok (.iastore, 1) := by decide +kernel
theorem d_X_keep_245 : decode b_X_keep 245 = .ok (.aload_n 0, 1) := by decide +kernel
theorem d_X_keep_246 : decode b_X_keep 246 = .ok (.aload_n 0, 1) := by decide +kernel
theorem d_X_keep_247 : decode b_X_keep 247 = .ok (.getfield 68, 3) := by decide +kernel
theorem d_X_keep_250 : decode b_X_keep 250 = .ok (.ifCond .ne 17, 3) := by decide +kernel
theorem d_X_keep_253 : decode b_X_keep 253 = .ok (.iload 4, 2) := by decide +kernel
theorem d_X_keep_255 : decode b_X_keep 255 = .ok (.bipush 31, 2) := by decide +kernel
theorem d_X_keep_257 : decode b_X_keep 257 = .ok (.iand, 1) := by decide +kernel
theorem d_X_keep_258 : decode b_X_keep 258 = .ok (.aload_n 0, 1) := by decide +kernel
theorem d_X_keep_259 : decode b_X_keep 259 = .ok (.getfield 19, 3) := by decide +kernel
theorem d_X_keep_262 : decode b_X_keep 262 = .ok (.iconst 2, 1) := by decide +kernel
theorem d_X_keep_263 : decode b_X_keep 263 = .ok (.iaload, 1) := by decide +kernel
theorem d_X_keep_264 : decode b_X_keep 264 = .ok (.if_icmp .ne 7, 3) := by decide +kernel
theorem d_X_keep_267 : decode b_X_keep 267 = .ok (.iconst 1, 1) := by decide +kernel
theorem d_X_keep_268 : decode b_X_keep 268 = .ok (.goto 4, 3) := by decide +kernel
theorem d_X_keep_271 : decode b_X_keep 271 = .ok (.iconst 0, 1) := by decide +kernel
theorem d_X_keep_272 : decode b_X_keep 272 = .ok (.putfield 68, 3) := by decide +kernel
theorem d_X_keep_275 : decode b_X_keep 275 = .ok (.iconst 1, 1) := by decide +kernel
theorem d_X_keep_276 : decode b_X_keep 276 = .ok (.ireturn, 1) := by decide +kernel
theorem d_X_list_0 : decode b_X_list 0 = .ok (.aload_n 0, 1) := by decide +kernel
theorem d_X_list_1 : decode b_X_list 1 = .ok (.iconst 0, 1) := by decide +kernel
theorem d_X_list_2 : decode b_X_list 2 = .ok (.putfield 38, 3) := by decide +kernel
theorem d_X_list_5 : decode b_X_list 5 = .ok (.iload_n 1, 1) := by decide +kernel
theorem d_X_list_6 : decode b_X_list 6 = .ok (.ifCond .lt 8, 3) := by decide +kernel
theorem d_X_list_9 : decode b_X_list 9 = .ok (.iload_n 1, 1) := by decide +kernel
theorem d_X_list_10 : decode b_X_list 10 = .ok (.iconst 1, 1) := by decide +kernel
theorem d_X_list_11 : decode b_X_list 11 = .ok (.if_icmp .le 5, 3) := by decide +kernel
theorem d_X_list_14 : decode b_X_list 14 = .ok (.iconst (-1), 1) := by decide +kernel
theorem d_X_list_15 : decode b_X_list 15 = .ok (.ireturn, 1) := by decide +kernel
theorem d_X_list_16 : decode b_X_list 16 = .ok (.aload_n 0, 1) := by decide +kernel
theorem d_X_list_17 : decode b_X_list 17 = .ok (.getfield 19, 3) := by decide +kernel
theorem d_X_list_20 : decode b_X_list 20 = .ok (.iload_n 1, 1) := by decide +kernel
theorem d_X_list_21 : decode b_X_list 21 = .ok (.ifCond .ne 7, 3) := by decide +kernel
theorem d_X_list_24 : decode b_X_list 24 = .ok (.iconst 1, 1) := by decide +kernel
theorem d_X_list_25 : decode b_X_list 25 = .ok (.goto 4, 3) := by decide +kernel
theorem d_X_list_28 : decode b_X_list 28 = .ok (.iconst 3, 1) := by decide +kernel
theorem d_X_list_29 : decode b_X_list 29 = .ok (.iaload, 1) := by decide +kernel
theorem d_X_list_30 : decode b_X_list 30 = .ok (.bipush 31, 2) := by decide +kernel
theorem d_X_list_32 : decode b_X_list 32 = .ok (.iand, 1) := by decide +kernel
theorem d_X_list_33 : decode b_X_list 33 = .ok (.istore_n 2, 1) := by decide +kernel
theorem d_X_list_34 : decode b_X_list 34 = .ok (.iconst 0, 1) := by decide +kernel
theorem d_X_list_35 : decode b_X_list 35 = .ok (.istore_n 3, 1) := by decide +kernel
theorem d_X_list_36 : decode b_X_list 36 = .ok (.iload_n 3, 1) := by decide +kernel
theorem d_X_list_37 : decode b_X_list 37 = .ok (.bipush 32, 2) := by decide +kernel
theorem d_X_list_39 : decode b_X_list 39 = .ok (.if_icmp .ge 29, 3) := by decide +kernel
theorem d_X_list_42 : decode b_X_list 42 = .ok (.iload_n 2, 1) := by decide +kernel
theorem d_X_list_43 : decode b_X_list 43 = .ok (.invokestatic 41, 3) := by decide +kernel
theorem d_X_list_46 : decode b_X_list 46 = .ok (.ifCond .eq 22, 3) := by decide +kernel
theorem d_X_list_49 : decode b_X_list 49 = .ok (.iinc 3 1, 3) := by decide +kernel
theorem d_X_list_52 : decode b_X_list 52 = .ok (.aload_n 0, 1) := by decide +kernel
theorem d_X_list_53 : decode b_X_list 53 = .ok (.getfield 7, 3) := by decide +kernel
theorem d_X_list_56 : decode b_X_list 56 = .ok (.iload_n 2, 1) := by decide +kernel
theorem d_X_list_57 : decode b_X_list 57 = .ok (.invokestatic 49, 3) := by decide +kernel
theorem d_X_list_60 : decode b_X_list 60 = .ok (.iaload, 1) := by decide +kernel
theorem d_X_list_61 : decode b_X_list 61 = .ok (.bipush 31, 2) := by decide +kernel
theorem d_X_list_63 : decode b_X_list 63 = .ok (.iand, 1) := by decide +kernel
theorem d_X_list_64 : decode b_X_list 64 = .ok (.istore_n 2, 1) := by decide +kernel
theorem d_X_list_65 : decode b_X_list 65 = .ok (.goto (-29), 3) := by decide +kernel
theorem d_X_list_68 : decode b_X_list 68 = .ok (.iload_n 3, 1) := by decide +kernel
theorem d_X_list_69 : decode b_X_list 69 = .ok (.ireturn, 1) := by decide +kernel
theorem d_X_look_0 : decode b_X_look 0 = .ok (.aload_n 0, 1) := by decide +kernel
theorem d_X_look_1 : decode b_X_look 1 = .ok (.iconst 0, 1) := by decide +kernel
theorem d_X_look_2 : decode b_X_look 2 = .ok (.putfield 38, 3) := by decide +kernel
theorem d_X_look_5 : decode b_X_look 5 = .ok (.iload_n 1, 1) := by decide +kernel
theorem d_X_look_6 : decode b_X_look 6 = .ok (.ifCond .le 17, 3) := by decide +kernel
theorem d_X_look_9 : decode b_X_look 9 = .ok (.iload_n 1, 1) := by decide +kernel
theorem d_X_look_10 : decode b_X_look 10 = .ok (.iconst 5, 1) := by decide +kernel
theorem d_X_look_11 : decode b_X_look 11 = .ok (.if_icmp .ge 12, 3) := by decide +kernel
theorem d_X_look_14 : decode b_X_look 14 = .ok (.aload_n 0, 1) := by decide +kernel
theorem d_X_look_15 : decode b_X_look 15 = .ok (.getfield 19, 3) := by decide +kernel
theorem d_X_look_18 : decode b_X_look 18 = .ok (.iload_n 1, 1) := by decide +kernel
theorem d_X_look_19 : decode b_X_look 19 = .ok (.iconst 1, 1) := by decide +kernel
theorem d_X_look_20 : decode b_X_look 20 = .ok (.isub, 1) := by decide +kernel
theorem d_X_look_21 : decode b_X_look 21 = .ok (.iaload, 1) := by decide +kernel
theorem d_X_look_22 : decode b_X_look 22 = .ok (.ireturn, 1) := by decide +kernel
theorem d_X_look_23 : decode b_X_look 23 = .ok (.iload_n 1, 1) := by decide +kernel
theorem d_X_look_24 : decode b_X_look 24 = .ok (.bipush 8, 2) := by decide +kernel
theorem d_X_look_26 : decode b_X_look 26 = .ok (.if_icmp .ge 85, 3) := by decide +kernel
theorem d_X_look_29 : decode b_X_look 29 = .ok (.iload_n 1, 1) := by decide +kernel
theorem d_X_look_30 : decode b_X_look 30 = .ok (.ifCond .ne 18, 3) := by decide +kernel
theorem d_X_look_33 : decode b_X_look 33 = .ok (.aload_n 0, 1) := by decide +kernel
theorem d_X_look_34 : decode b_X_look 34 = .ok (.getfield 45, 3) := by decide +kernel
theorem d_X_look_37 : decode b_X_look 37 = .ok (.ifCond .eq 7, 3) := by decide +kernel
theorem d_X_look_40 : decode b_X_look 40 = .ok (.iconst 1, 1) := by decide +kernel
theorem d_X_look_41 : decode b_X_look 41 = .ok (.goto 69, 3) := by decide +kernel
theorem d_X_look_44 : decode b_X_look 44 = .ok (.iconst 0, 1) := by decide +kernel
end
section
theorem d_X_look_45 : decode b_X_look 45 = .ok (.goto 65, 3) := by decide +kernel
theorem d_X_look_48 : decode b_X_look 48 = .ok (.iload_n 1, 1) := by decide +kernel
theorem d_X_look_49 : decode b_X_look 49 = .ok (.iconst 5, 1) := by decide +kernel
theorem d_X_look_50 : decode b_X_look 50 = .ok (.if_icmp .ne 25, 3) := by decide +kernel
theorem d_X_look_53 : decode b_X_look 53 = .ok (.aload_n 0, 1) := by decide +kernel
theorem d_X_look_54 : decode b_X_look 54 = .ok (.getfield 53, 3) := by decide +kernel
theorem d_X_look_57 : decode b_X_look 57 = .ok (.iconst 4, 1) := by decide +kernel
theorem d_X_look_58 : decode b_X_look 58 = .ok (.aload_n 0, 1) := by decide +kernel
theorem d_X_look_59 : decode b_X_look 59 = .ok (.getfield 56, 3) := by decide +kernel
theorem d_X_look_62 : decode b_X_look 62 = .ok (.imul, 1) := by decide +kernel
theorem d_X_look_63 : decode b_X_look 63 = .ok (.iadd, 1) := by decide +kernel
theorem d_X_look_64 : decode b_X_look 64 = .ok (.bipush 8, 2) := by decide +kernel
theorem d_X_look_66 : decode b_X_look 66 = .ok (.aload_n 0, 1) := by decide +kernel
theorem d_X_look_67 : decode b_X_look 67 = .ok (.getfield 59, 3) := by decide +kernel
theorem d_X_look_70 : decode b_X_look 70 = .ok (.imul, 1) := by decide +kernel
theorem d_X_look_71 : decode b_X_look 71 = .ok (.iadd, 1) := by decide +kernel
theorem d_X_look_72 : decode b_X_look 72 = .ok (.goto 38, 3) := by decide +kernel
theorem d_X_look_75 : decode b_X_look 75 = .ok (.iload_n 1, 1) := by decide +kernel
theorem d_X_look_76 : decode b_X_look 76 = .ok (.bipush 6, 2) := by decide +kernel
theorem d_X_look_78 : decode b_X_look 78 = .ok (.if_icmp .ne 10, 3) := by decide +kernel
theorem d_X_look_81 : decode b_X_look 81 = .ok (.aload_n 0, 1) := by decide +kernel
theorem d_X_look_82 : decode b_X_look 82 = .ok (.getfield 62, 3) := by decide +kernel
theorem d_X_look_85 : decode b_X_look 85 = .ok (.goto 25, 3) := by decide +kernel
theorem d_X_look_88 : decode b_X_look 88 = .ok (.iload_n 1, 1) := by decide +kernel
theorem d_X_look_89 : decode b_X_look 89 = .ok (.bipush 7, 2) := by decide +kernel
theorem d_X_look_91 : decode b_X_look 91 = .ok (.if_icmp .ne 18, 3) := by decide +kernel
theorem d_X_look_94 : decode b_X_look 94 = .ok (.aload_n 0, 1) := by decide +kernel
theorem d_X_look_95 : decode b_X_look 95 = .ok (.getfield 65, 3) := by decide +kernel
theorem d_X_look_98 : decode b_X_look 98 = .ok (.ifCond .eq 7, 3) := by decide +kernel
theorem d_X_look_101 : decode b_X_look 101 = .ok (.iconst 1, 1) := by decide +kernel
theorem d_X_look_102 : decode b_X_look 102 = .ok (.goto 8, 3) := by decide +kernel
theorem d_X_look_105 : decode b_X_look 105 = .ok (.iconst 0, 1) := by decide +kernel
theorem d_X_look_106 : decode b_X_look 106 = .ok (.goto 4, 3) := by decide +kernel
theorem d_X_look_109 : decode b_X_look 109 = .ok (.iconst (-1), 1) := by decide +kernel
theorem d_X_look_110 : decode b_X_look 110 = .ok (.ireturn, 1) := by decide +kernel
theorem d_X_look_111 : decode b_X_look 111 = .ok (.iload_n 1, 1) := by decide +kernel
theorem d_X_look_112 : decode b_X_look 112 = .ok (.bipush 8, 2) := by decide +kernel
theorem d_X_look_114 : decode b_X_look 114 = .ok (.if_icmp .ne 10, 3) := by decide +kernel
theorem d_X_look_117 : decode b_X_look 117 = .ok (.aload_n 0, 1) := by decide +kernel
theorem d_X_look_118 : decode b_X_look 118 = .ok (.getfield 131, 3) := by decide +kernel
theorem d_X_look_121 : decode b_X_look 121 = .ok (.goto 56, 3) := by decide +kernel
theorem d_X_look_124 : decode b_X_look 124 = .ok (.iload_n 1, 1) := by decide +kernel
theorem d_X_look_125 : decode b_X_look 125 = .ok (.bipush 9, 2) := by decide +kernel
theorem d_X_look_127 : decode b_X_look 127 = .ok (.if_icmp .ne 10, 3) := by decide +kernel
theorem d_X_look_130 : decode b_X_look 130 = .ok (.aload_n 0, 1) := by decide +kernel
theorem d_X_look_131 : decode b_X_look 131 = .ok (.getfield 137, 3) := by decide +kernel
theorem d_X_look_134 : decode b_X_look 134 = .ok (.goto 43, 3) := by decide +kernel
theorem d_X_look_137 : decode b_X_look 137 = .ok (.iload_n 1, 1) := by decide +kernel
theorem d_X_look_138 : decode b_X_look 138 = .ok (.bipush 10, 2) := by decide +kernel
theorem d_X_look_140 : decode b_X_look 140 = .ok (.if_icmp .ne 10, 3) := by decide +kernel
theorem d_X_look_143 : decode b_X_look 143 = .ok (.aload_n 0, 1) := by decide +kernel
theorem d_X_look_144 : decode b_X_look 144 = .ok (.getfield 88, 3) := by decide +kernel
theorem d_X_look_147 : decode b_X_look 147 = .ok (.goto 30, 3) := by decide +kernel
theorem d_X_look_150 : decode b_X_look 150 = .ok (.iload_n 1, 1) := by decide +kernel
theorem d_X_look_151 : decode b_X_look 151 = .ok (.bipush 11, 2) := by decide +kernel
theorem d_X_look_153 : decode b_X_look 153 = .ok (.if_icmp .ne 10, 3) := by decide +kernel
theorem d_X_look_156 : decode b_X_look 156 = .ok (.aload_n 0, 1) := by decide +kernel
theorem d_X_look_157 : decode b_X_look 157 = .ok (.getfield 35, 3) := by decide +kernel
theorem d_X_look_160 : decode b_X_look 160 = .ok (.goto 17, 3) := by decide +kernel
theorem d_X_look_163 : decode b_X_look 163 = .ok (.iload_n 1, 1) := by decide +kernel
theorem d_X_look_164 : decode b_X_look 164 = .ok (.bipush 12, 2) := by decide +kernel
theorem d_X_look_166 : decode b_X_look 166 = .ok (.if_icmp .ne 10, 3) := by decide +kernel
theorem d_X_look_169 : decode b_X_look 169 = .ok (.aload_n 0, 1) := by decide +kernel
theorem d_X_look_170 : decode b_X_look 170 = .ok (.getfield 143, 3) := by decide +kernel
theorem d_X_look_173 : decode b_X_look 173 = .ok (.goto 4, 3) := by decide +kernel
theorem d_X_look_176 : decode b_X_look 176 = .ok (.iconst (-1), 1) := by decide +kernel
theorem d_X_look_177 : decode b_X_look 177 = .ok (.ireturn, 1) := by decide +kernel
theorem d_X_may_0 : decode b_X_may 0 = .ok (.iload_n 1, 1) := by decide +kernel
theorem d_X_may_1 : decode b_X_may 1 = .ok (.ifCond .lt 14, 3) := by decide +kernel
theorem d_X_may_4 : decode b_X_may 4 = .ok (.iload_n 1, 1) := by decide +kernel
theorem d_X_may_5 : decode b_X_may 5 = .ok (.sipush 512, 3) := by decide +kernel
theorem d_X_may_8 : decode b_X_may 8 = .ok (.if_icmp .ge 7, 3) := by decide +kernel
theorem d_X_may_11 : decode b_X_may 11 = .ok (.iconst 1, 1) := by decide +kernel
theorem d_X_may_12 : decode b_X_may 12 = .ok (.goto 4, 3) := by decide +kernel
theorem d_X_may_15 : decode b_X_may 15 = .ok (.iconst 0, 1) := by decide +kernel
theorem d_X_may_16 : decode b_X_may 16 = .ok (.istore_n 3, 1) := by decide +kernel
theorem d_X_may_17 : decode b_X_may 17 = .ok (.aload_n 0, 1) := by decide +kernel
theorem d_X_may_18 : decode b_X_may 18 = .ok (.invokevirtual 94, 3) := by decide +kernel
theorem d_X_may_21 : decode b_X_may 21 = .ok (.ifCond .ne 7, 3) := by decide +kernel
theorem d_X_may_24 : decode b_X_may 24 = .ok (.iconst 1, 1) := by decide +kernel
theorem d_X_may_25 : decode b_X_may 25 = .ok (.goto 4, 3) := by decide +kernel
theorem d_X_may_28 : decode b_X_may 28 = .ok (.iconst 0, 1) := by decide +kernel
theorem d_X_may_29 : decode b_X_may 29 = .ok (.istore 4, 2) := by decide +kernel
theorem d_X_may_31 : decode b_X_may 31 = .ok (.iconst 3, 1) := by decide +kernel
theorem d_X_may_32 : decode b_X_may 32 = .ok (.aload_n 0, 1) := by decide +kernel
theorem d_X_may_33 : decode b_X_may 33 = .ok (.getfield 56, 3) := by decide +kernel
theorem d_X_may_36 : decode b_X_may 36 = .ok (.imul, 1) := by decide +kernel
theorem d_X_may_37 : decode b_X_may 37 = .ok (.istore 5, 2) := by decide +kernel
theorem d_X_may_39 : decode b_X_may 39 = .ok (.iload 5, 2) := by decide +kernel
theorem d_X_may_41 : decode b_X_may 41 = .ok (.iconst 3, 1) := by decide +kernel
theorem d_X_may_42 : decode b_X_may 42 = .ok (.aload_n 0, 1) := by decide +kernel
theorem d_X_may_43 : decode b_X_may 43 = .ok (.getfield 56, 3) := by decide +kernel
theorem d_X_may_46 : decode b_X_may 46 = .ok (.imul, 1) := by decide +kernel
theorem d_X_may_47 : decode b_X_may 47 = .ok (.iconst 2, 1) := by decide +kernel
theorem d_X_may_48 : decode b_X_may 48 = .ok (.iadd, 1) := by decide +kernel
theorem d_X_may_49 : decode b_X_may 49 = .ok (.if_icmp .ge 63, 3) := by decide +kernel
theorem d_X_may_52 : decode b_X_may 52 = .ok (.iload 4, 2) := by decide +kernel
theorem d_X_may_54 : decode b_X_may 54 = .ok (.ifCond .ne 45, 3) := by decide +kernel
theorem d_X_may_57 : decode b_X_may 57 = .ok (.iload_n 1, 1) := by decide +kernel
theorem d_X_may_58 : decode b_X_may 58 = .ok (.aload_n 0, 1) := by decide +kernel
theorem d_X_may_59 : decode b_X_may 59 = .ok (.getfield 26, 3) := by decide +kernel
theorem d_X_may_62 : decode b_X_may 62 = .ok (.iload 5, 2) := by decide +kernel
theorem d_X_may_64 : decode b_X_may 64 = .ok (.iaload, 1) := by decide +kernel
theorem d_X_may_65 : decode b_X_may 65 = .ok (.if_icmp .lt 38, 3) := by decide +kernel
theorem d_X_may_68 : decode b_X_may 68 = .ok (.iload_n 1, 1) := by decide +kernel
theorem d_X_may_69 : decode b_X_may 69 = .ok (.aload_n 0, 1) := by decide +kernel
theorem d_X_may_70 : decode b_X_may 70 = .ok (.getfield 29, 3) := by decide +kernel
theorem d_X_may_73 : decode b_X_may 73 = .ok (.iload 5, 2) := by decide +kernel
theorem d_X_may_75 : decode b_X_may 75 = .ok (.iaload, 1) := by decide +kernel
theorem d_X_may_76 : decode b_X_may 76 = .ok (.if_icmp .ge 27, 3) := by decide +kernel
theorem d_X_may_79 : decode b_X_may 79 = .ok (.aload_n 0, 1) := by decide +kernel
theorem d_X_may_80 : decode b_X_may 80 = .ok (.getfield 32, 3) := by decide +kernel
theorem d_X_may_83 : decode b_X_may 83 = .ok (.iload 5, 2) := by decide +kernel
theorem d_X_may_85 : decode b_X_may 85 = .ok (.iaload, 1) := by decide +kernel
theorem d_X_may_86 : decode b_X_may 86 = .ok (.iload_n 2, 1) := by decide +kernel
theorem d_X_may_87 : decode b_X_may 87 = .ok (.ifCond .eq 7, 3) := by decide +kernel
theorem d_X_may_90 : decode b_X_may 90 = .ok (.iconst 2, 1) := by decide +kernel
theorem d_X_may_91 : decode b_X_may 91 = .ok (.goto 4, 3) := by decide +kernel
theorem d_X_may_94 : decode b_X_may 94 = .ok (.iconst 1, 1) := by decide +kernel
theorem d_X_may_95 : decode b_X_may 95 = .ok (.iand, 1) := by decide +kernel
theorem d_X_may_96 : decode b_X_may 96 = .ok (.ifCond .eq 7, 3) := by decide +kernel
theorem d_X_may_99 : decode b_X_may 99 = .ok (.iconst 1, 1) := by decide +kernel
theorem d_X_may_100 : decode b_X_may 100 = .ok (.goto 4, 3) := by decide +kernel
theorem d_X_may_103 : decode b_X_may 103 = .ok (.iconst 0, 1) := by decide +kernel
theorem d_X_may_104 : decode b_X_may 104 = .ok (.istore 4, 2) := by decide +kernel
theorem d_X_may_106 : decode b_X_may 106 = .ok (.iinc 5 1, 3) := by decide +kernel
theorem d_X_may_109 : decode b_X_may 109 = .ok (.goto (-70), 3) := by decide +kernel
theorem d_X_may_112 : decode b_X_may 112 = .ok (.aload_n 0, 1) := by decide +kernel
theorem d_X_may_113 : decode b_X_may 113 = .ok (.iload_n 3, 1) := by decide +kernel
theorem d_X_may_114 : decode b_X_may 114 = .ok (.ifCond .ne 9, 3) := by decide +kernel
theorem d_X_may_117 : decode b_X_may 117 = .ok (.sipush 1025, 3) := by decide +kernel
theorem d_X_may_120 : decode b_X_may 120 = .ok (.goto 28, 3) := by decide +kernel
theorem d_X_may_123 : decode b_X_may 123 = .ok (.iload 4, 2) := by decide +kernel
theorem d_X_may_125 : decode b_X_may 125 = .ok (.ifCond .ne 19, 3) := by decide +kernel
theorem d_X_may_128 : decode b_X_may 128 = .ok (.iload_n 2, 1) := by decide +kernel
theorem d_X_may_129 : decode b_X_may 129 = .ok (.ifCond .eq 9, 3) := by decide +kernel
theorem d_X_may_132 : decode b_X_may 132 = .ok (.sipush 259, 3) := by decide +kernel
theorem d_X_may_135 : decode b_X_may 135 = .ok (.goto 13, 3) := by decide +kernel
theorem d_X_may_138 : decode b_X_may 138 = .ok (.sipush 258, 3) := by decide +kernel
theorem d_X_may_141 : decode b_X_may 141 = .ok (.goto 7, 3) := by decide +kernel
theorem d_X_may_144 : decode b_X_may 144 = .ok (.aload_n 0, 1) := by decide +kernel
theorem d_X_may_145 : decode b_X_may 145 = .ok (.getfield 71, 3) := by decide +kernel
theorem d_X_may_148 : decode b_X_may 148 = .ok (.putfield 71, 3) := by decide +kernel
theorem d_X_may_151 : decode b_X_may 151 = .ok (.iload_n 3, 1) := by decide +kernel
theorem d_X_may_152 : decode b_X_may 152 = .ok (.ifCond .eq 12, 3) := by decide +kernel
theorem d_X_may_155 : decode b_X_may 155 = .ok (.iload 4, 2) := by decide +kernel
theorem d_X_may_157 : decode b_X_may 157 = .ok (.ifCond .eq 7, 3) := by decide +kernel
theorem d_X_may_160 : decode b_X_may 160 = .ok (.iconst 1, 1) := by decide +kernel
theorem d_X_may_161 : decode b_X_may 161 = .ok (.goto 4, 3) := by decide +kernel
theorem d_X_may_164 : decode b_X_may 164 = .ok (.iconst 0, 1) := by decide +kernel
theorem d_X_may_165 : decode b_X_may 165 = .ok (.ireturn, 1) := by decide +kernel
theorem d_X_move_0 : decode b_X_move 0 = .ok (.iload_n 1, 1) := by decide +kernel
theorem d_X_move_1 : decode b_X_move 1 = .ok (.bipush 15, 2) := by decide +kernel
theorem d_X_move_3 : decode b_X_move 3 = .ok (.if_icmp .ge 15, 3) := by decide +kernel
theorem d_X_move_6 : decode b_X_move 6 = .ok (.aload_n 0, 1) := by decide +kernel
theorem d_X_move_7 : decode b_X_move 7 = .ok (.getfield 16, 3) := by decide +kernel
theorem d_X_move_10 : decode b_X_move 10 = .ok (.iload_n 3, 1) := by decide +kernel
theorem d_X_move_11 : decode b_X_move 11 = .ok (.iaload, 1) := by decide +kernel
theorem d_X_move_12 : decode b_X_move 12 = .ok (.iload 4, 2) := by decide +kernel
theorem d_X_move_14 : decode b_X_move 14 = .ok (.iadd, 1) := by decide +kernel
theorem d_X_move_15 : decode b_X_move 15 = .ok (.goto 9, 3) := by decide +kernel
theorem d_X_move_18 : decode b_X_move 18 = .ok (.aload_n 0, 1) := by decide +kernel
theorem d_X_move_19 : decode b_X_move 19 = .ok (.getfield 16, 3) := by decide +kernel
theorem d_X_move_22 : decode b_X_move 22 = .ok (.iload_n 3, 1) := by decide +kernel
theorem d_X_move_23 : decode b_X_move 23 = .ok (.iaload, 1) := by decide +kernel
theorem d_X_move_24 : decode b_X_move 24 = .ok (.istore 5, 2) := by decide +kernel
theorem d_X_move_26 : decode b_X_move 26 = .ok (.iload_n 1, 1) := by decide +kernel
theorem d_X_move_27 : decode b_X_move 27 = .ok (.bipush 14, 2) := by decide +kernel
theorem d_X_move_29 : decode b_X_move 29 = .ok (.if_icmp .eq 9, 3) := by decide +kernel
theorem d_X_move_32 : decode b_X_move 32 = .ok (.iload_n 1, 1) := by decide +kernel
theorem d_X_move_33 : decode b_X_move 33 = .ok (.bipush 16, 2) := by decide +kernel
theorem d_X_move_35 : decode b_X_move 35 = .ok (.if_icmp .ne 7, 3) := by decide +kernel
theorem d_X_move_38 : decode b_X_move 38 = .ok (.iconst 1, 1) := by decide +kernel
theorem d_X_move_39 : decode b_X_move 39 = .ok (.goto 4, 3) := by decide +kernel
theorem d_X_move_42 : decode b_X_move 42 = .ok (.iconst 0, 1) := by decide +kernel
theorem d_X_move_43 : decode b_X_move 43 = .ok (.istore 6, 2) := by decide +kernel
theorem d_X_move_45 : decode b_X_move 45 = .ok (.iload_n 3, 1) := by decide +kernel
theorem d_X_move_46 : decode b_X_move 46 = .ok (.iconst 1, 1) := by decide +kernel
theorem d_X_move_47 : decode b_X_move 47 = .ok (.iadd, 1) := by decide +kernel
theorem d_X_move_48 : decode b_X_move 48 = .ok (.bipush 7, 2) := by decide +kernel
theorem d_X_move_50 : decode b_X_move 50 = .ok (.iand, 1) := by decide +kernel
theorem d_X_move_51 : decode b_X_move 51 = .ok (.istore 7, 2) := by decide +kernel
theorem d_X_move_53 : decode b_X_move 53 = .ok (.aload_n 0, 1) := by decide +kernel
theorem d_X_move_54 : decode b_X_move 54 = .ok (.getfield 16, 3) := by decide +kernel
theorem d_X_move_57 : decode b_X_move 57 = .ok (.iload 7, 2) := by decide +kernel
theorem d_X_move_59 : decode b_X_move 59 = .ok (.iaload, 1) := by decide +kernel
theorem d_X_move_60 : decode b_X_move 60 = .ok (.ldc 98, 2) := by decide +kernel
theorem d_X_move_62 : decode b_X_move 62 = .ok (.iand, 1) := by decide +kernel
theorem d_X_move_63 : decode b_X_move 63 = .ok (.istore 8, 2) := by decide +kernel
theorem d_X_move_65 : decode b_X_move 65 = .ok (.aload_n 0, 1) := by decide +kernel
theorem d_X_move_66 : decode b_X_move 66 = .ok (.getfield 16, 3) := by decide +kernel
theorem d_X_move_69 : decode b_X_move 69 = .ok (.iload 7, 2) := by decide +kernel
theorem d_X_move_71 : decode b_X_move 71 = .ok (.iaload, 1) := by decide +kernel
theorem d_X_move_72 : decode b_X_move 72 = .ok (.bipush 16, 2) := by decide +kernel
theorem d_X_move_74 : decode b_X_move 74 = .ok (.iushr, 1) := by decide +kernel
theorem d_X_move_75 : decode b_X_move 75 = .ok (.istore 9, 2) := by decide +kernel
theorem d_X_move_77 : decode b_X_move 77 = .ok (.iload_n 1, 1) := by decide +kernel
theorem d_X_move_78 : decode b_X_move 78 = .ok (.bipush 17, 2) := by decide +kernel
theorem d_X_move_80 : decode b_X_move 80 = .ok (.if_icmp .ne 18, 3) := by decide +kernel
theorem d_X_move_83 : decode b_X_move 83 = .ok (.iload 8, 2) := by decide +kernel
theorem d_X_move_85 : decode b_X_move 85 = .ok (.iload 9, 2) := by decide +kernel
theorem d_X_move_87 : decode b_X_move 87 = .ok (.if_icmp .lt 11, 3) := by decide +kernel
theorem d_X_move_90 : decode b_X_move 90 = .ok (.aload_n 0, 1) := by decide +kernel
theorem d_X_move_91 : decode b_X_move 91 = .ok (.sipush 514, 3) := by decide +kernel
theorem d_X_move_94 : decode b_X_move 94 = .ok (.putfield 71, 3) := by decide +kernel
theorem d_X_move_97 : decode b_X_move 97 = .ok (.return_, 1) := by decide +kernel
theorem d_X_move_98 : decode b_X_move 98 = .ok (.iload_n 1, 1) := by decide +kernel
theorem d_X_move_99 : decode b_X_move 99 = .ok (.bipush 17, 2) := by decide +kernel
theorem d_X_move_101 : decode b_X_move 101 = .ok (.if_icmp .ne 15, 3) := by decide +kernel
theorem d_X_move_104 : decode b_X_move 104 = .ok (.aload_n 0, 1) := by decide +kernel
theorem d_X_move_105 : decode b_X_move 105 = .ok (.getfield 16, 3) := by decide +kernel
theorem d_X_move_108 : decode b_X_move 108 = .ok (.iload_n 3, 1) := by decide +kernel
theorem d_X_move_109 : decode b_X_move 109 = .ok (.iaload, 1) := by decide +kernel
theorem d_X_move_110 : decode b_X_move 110 = .ok (.iload 8, 2) := by decide +kernel
theorem d_X_move_112 : decode b_X_move 112 = .ok (.iadd, 1) := by decide +kernel
theorem d_X_move_113 : decode b_X_move 113 = .ok (.goto 5, 3) := by decide +kernel
theorem d_X_move_116 : decode b_X_move 116 = .ok (.iload 5, 2) := by decide +kernel
theorem d_X_move_118 : decode b_X_move 118 = .ok (.istore 5, 2) := by decide +kernel
theorem d_X_move_120 : decode b_X_move 120 = .ok (.aload_n 0, 1) := by decide +kernel
theorem d_X_move_121 : decode b_X_move 121 = .ok (.iload 5, 2) := by decide +kernel
theorem d_X_move_123 : decode b_X_move 123 = .ok (.iload 6, 2) := by decide +kernel
theorem d_X_move_125 : decode b_X_move 125 = .ok (.invokevirtual 99, 3) := by decide +kernel
theorem d_X_move_128 : decode b_X_move 128 = .ok (.ifCond .ne 4, 3) := by decide +kernel
theorem d_X_move_131 : decode b_X_move 131 = .ok (.return_, 1) := by decide +kernel
theorem d_X_move_132 : decode b_X_move 132 = .ok (.iload 6, 2) := by decide +kernel
theorem d_X_move_134 : decode b_X_move 134 = .ok (.ifCond .eq 19, 3) := by decide +kernel
theorem d_X_move_137 : decode b_X_move 137 = .ok (.aload_n 0, 1) := by decide +kernel
theorem d_X_move_138 : decode b_X_move 138 = .ok (.getfield 7, 3) := by decide +kernel
theorem d_X_move_141 : decode b_X_move 141 = .ok (.iload 5, 2) := by decide +kernel
theorem d_X_move_143 : decode b_X_move 143 = .ok (.aload_n 0, 1) := by decide +kernel
theorem d_X_move_144 : decode b_X_move 144 = .ok (.getfield 13, 3) := by decide +kernel
theorem d_X_move_147 : decode b_X_move 147 = .ok (.iload_n 2, 1) := by decide +kernel
theorem d_X_move_148 : decode b_X_move 148 = .ok (.iaload, 1) := by decide +kernel
theorem d_X_move_149 : decode b_X_move 149 = .ok (.iastore, 1) := by decide +kernel
theorem d_X_move_150 : decode b_X_move 150 = .ok (.goto 16, 3) := by decide +kernel
theorem d_X_move_153 : decode b_X_move 153 = .ok (.aload_n 0, 1) := by decide +kernel
theorem d_X_move_154 : decode b_X_move 154 = .ok (.getfield 13, 3) := by decide +kernel
theorem d_X_move_157 : decode b_X_move 157 = .ok (.iload_n 2, 1) := by decide +kernel
theorem d_X_move_158 : decode b_X_move 158 = .ok (.aload_n 0, 1) := by decide +kernel
theorem d_X_move_159 : decode b_X_move 159 = .ok (.getfield 7, 3) := by decide +kernel
theorem d_X_move_162 : decode b_X_move 162 = .ok (.iload 5, 2) := by decide +kernel
theorem d_X_move_164 : decode b_X_move 164 = .ok (.iaload, 1) := by decide +kernel
theorem d_X_move_165 : decode b_X_move 165 = .ok (.iastore, 1) := by decide +kernel
theorem d_X_move_166 : decode b_X_move 166 = .ok (.iload_n 1, 1) := by decide +kernel
theorem d_X_move_167 : decode b_X_move 167 = .ok (.bipush 17, 2) := by decide +kernel
theorem d_X_move_169 : decode b_X_move 169 = .ok (.if_icmp .ne 53, 3) := by decide +kernel
theorem d_X_move_172 : decode b_X_move 172 = .ok (.iload 8, 2) := by decide +kernel
theorem d_X_move_174 : decode b_X_move 174 = .ok (.iload 4, 2) := by decide +kernel
theorem d_X_move_176 : decode b_X_move 176 = .ok (.iadd, 1) := by decide +kernel
theorem d_X_move_177 : decode b_X_move 177 = .ok (.iload 9, 2) := by decide +kernel
theorem d_X_move_179 : decode b_X_move 179 = .ok (.ifCond .ne 7, 3) := by decide +kernel
theorem d_X_move_182 : decode b_X_move 182 = .ok (.iconst 1, 1) := by decide +kernel
theorem d_X_move_183 : decode b_X_move 183 = .ok (.goto 5, 3) := by decide +kernel
theorem d_X_move_186 : decode b_X_move 186 = .ok (.iload 9, 2) := by decide +kernel
theorem d_X_move_188 : decode b_X_move 188 = .ok (.irem, 1) := by decide +kernel
theorem d_X_move_189 : decode b_X_move 189 = .ok (.istore 10, 2) := by decide +kernel
theorem d_X_move_191 : decode b_X_move 191 = .ok (.aload_n 0, 1) := by decide +kernel
theorem d_X_move_192 : decode b_X_move 192 = .ok (.getfield 16, 3) := by decide +kernel
theorem d_X_move_195 : decode b_X_move 195 = .ok (.iload 7, 2) := by decide +kernel
theorem d_X_move_197 : decode b_X_move 197 = .ok (.iload 9, 2) := by decide +kernel
theorem d_X_move_199 : decode b_X_move 199 = .ok (.ldc 103, 2) := by decide +kernel
theorem d_X_move_201 : decode b_X_move 201 = .ok (.imul, 1) := by decide +kernel
theorem d_X_move_202 : decode b_X_move 202 = .ok (.iload 10, 2) := by decide +kernel
theorem d_X_move_204 : decode b_X_move 204 = .ok (.ifCond .ge 11, 3) := by decide +kernel
theorem d_X_move_207 : decode b_X_move 207 = .ok (.iload 10, 2) := by decide +kernel
theorem d_X_move_209 : decode b_X_move 209 = .ok (.iload 9, 2) := by decide +kernel
theorem d_X_move_211 : decode b_X_move 211 = .ok (.iadd, 1) := by decide +kernel
theorem d_X_move_212 : decode b_X_move 212 = .ok (.goto 5, 3) := by decide +kernel
theorem d_X_move_215 : decode b_X_move 215 = .ok (.iload 10, 2) := by decide +kernel
theorem d_X_move_217 : decode b_X_move 217 = .ok (.iadd, 1) := by decide +kernel
theorem d_X_move_218 : decode b_X_move 218 = .ok (.iastore, 1) := by decide +kernel
theorem d_X_move_219 : decode b_X_move 219 = .ok (.goto 20, 3) := by decide +kernel
theorem d_X_move_222 : decode b_X_move 222 = .ok (.iload_n 1, 1) := by decide +kernel
theorem d_X_move_223 : decode b_X_move 223 = .ok (.bipush 14, 2) := by decide +kernel
theorem d_X_move_225 : decode b_X_move 225 = .ok (.if_icmp .le 14, 3) := by decide +kernel
theorem d_X_move_228 : decode b_X_move 228 = .ok (.aload_n 0, 1) := by decide +kernel
theorem d_X_move_229 : decode b_X_move 229 = .ok (.getfield 16, 3) := by decide +kernel
theorem d_X_move_232 : decode b_X_move 232 = .ok (.iload_n 3, 1) := by decide +kernel
theorem d_X_move_233 : decode b_X_move 233 = .ok (.dup2, 1) := by decide +kernel
theorem d_X_move_234 : decode b_X_move 234 = .ok (.iaload, 1) := by decide +kernel
theorem d_X_move_235 : decode b_X_move 235 = .ok (.iload 4, 2) := by decide +kernel
theorem d_X_move_237 : decode b_X_move 237 = .ok (.iadd, 1) := by decide +kernel
theorem d_X_move_238 : decode b_X_move 238 = .ok (.iastore, 1) := by decide +kernel
theorem d_X_move_239 : decode b_X_move 239 = .ok (.return_, 1) := by decide +kernel
theorem d_X_pool_0 : decode b_X_pool 0 = .ok (.aload_n 0, 1) := by decide +kernel
theorem d_X_pool_1 : decode b_X_pool 1 = .ok (.iload_n 1, 1) := by decide +kernel
theorem d_X_pool_2 : decode b_X_pool 2 = .ok (.ifCond .lt 19, 3) := by decide +kernel
theorem d_X_pool_5 : decode b_X_pool 5 = .ok (.iload_n 1, 1) := by decide +kernel
theorem d_X_pool_6 : decode b_X_pool 6 = .ok (.bipush 24, 2) := by decide +kernel
theorem d_X_pool_8 : decode b_X_pool 8 = .ok (.if_icmp .gt 13, 3) := by decide +kernel
theorem d_X_pool_11 : decode b_X_pool 11 = .ok (.iload_n 2, 1) := by decide +kernel
theorem d_X_pool_12 : decode b_X_pool 12 = .ok (.ifCond .lt 9, 3) := by decide +kernel
theorem d_X_pool_15 : decode b_X_pool 15 = .ok (.iload_n 2, 1) := by decide +kernel
theorem d_X_pool_16 : decode b_X_pool 16 = .ok (.bipush 31, 2) := by decide +kernel
theorem d_X_pool_18 : decode b_X_pool 18 = .ok (.if_icmp .le 7, 3) := by decide +kernel
theorem d_X_pool_21 : decode b_X_pool 21 = .ok (.iconst 1, 1) := by decide +kernel
theorem d_X_pool_22 : decode b_X_pool 22 = .ok (.goto 15, 3) := by decide +kernel
theorem d_X_pool_25 : decode b_X_pool 25 = .ok (.aload_n 0, 1) := by decide +kernel
theorem d_X_pool_26 : decode b_X_pool 26 = .ok (.getfield 45, 3) := by decide +kernel
theorem d_X_pool_29 : decode b_X_pool 29 = .ok (.ifCond .eq 7, 3) := by decide +kernel
theorem d_X_pool_32 : decode b_X_pool 32 = .ok (.iconst 2, 1) := by decide +kernel
theorem d_X_pool_33 : decode b_X_pool 33 = .ok (.goto 4, 3) := by decide +kernel
theorem d_X_pool_36 : decode b_X_pool 36 = .ok (.iconst 0, 1) := by decide +kernel
theorem d_X_pool_37 : decode b_X_pool 37 = .ok (.putfield 38, 3) := by decide +kernel
theorem d_X_pool_40 : decode b_X_pool 40 = .ok (.aload_n 0, 1) := by decide +kernel
theorem d_X_pool_41 : decode b_X_pool 41 = .ok (.getfield 38, 3) := by decide +kernel
theorem d_X_pool_44 : decode b_X_pool 44 = .ok (.ifCond .le 4, 3) := by decide +kernel
theorem d_X_pool_47 : decode b_X_pool 47 = .ok (.return_, 1) := by decide +kernel
theorem d_X_pool_48 : decode b_X_pool 48 = .ok (.iconst 1, 1) := by decide +kernel
theorem d_X_pool_49 : decode b_X_pool 49 = .ok (.istore_n 3, 1) := by decide +kernel
theorem d_X_pool_50 : decode b_X_pool 50 = .ok (.iload_n 3, 1) := by decide +kernel
theorem d_X_pool_51 : decode b_X_pool 51 = .ok (.iload_n 1, 1) := by decide +kernel
theorem d_X_pool_52 : decode b_X_pool 52 = .ok (.if_icmp .gt 30, 3) := by decide +kernel
theorem d_X_pool_55 : decode b_X_pool 55 = .ok (.aload_n 0, 1) := by decide +kernel
theorem d_X_pool_56 : decode b_X_pool 56 = .ok (.getfield 7, 3) := by decide +kernel
theorem d_X_pool_59 : decode b_X_pool 59 = .ok (.iload_n 3, 1) := by decide +kernel
theorem d_X_pool_60 : decode b_X_pool 60 = .ok (.invokestatic 49, 3) := by decide +kernel
theorem d_X_pool_63 : decode b_X_pool 63 = .ok (.iload_n 3, 1) := by decide +kernel
theorem d_X_pool_64 : decode b_X_pool 64 = .ok (.iload_n 1, 1) := by decide +kernel
theorem d_X_pool_65 : decode b_X_pool 65 = .ok (.if_icmp .ge 9, 3) := by decide +kernel
theorem d_X_pool_68 : decode b_X_pool 68 = .ok (.iload_n 3, 1) := by decide +kernel
theorem d_X_pool_69 : decode b_X_pool 69 = .ok (.iconst 1, 1) := by decide +kernel
theorem d_X_pool_70 : decode b_X_pool 70 = .ok (.iadd, 1) := by decide +kernel
theorem d_X_pool_71 : decode b_X_pool 71 = .ok (.goto 4, 3) := by decide +kernel
theorem d_X_pool_74 : decode b_X_pool 74 = .ok (.iconst 0, 1) := by decide +kernel
theorem d_X_pool_75 : decode b_X_pool 75 = .ok (.iastore, 1) := by decide +kernel
theorem d_X_pool_76 : decode b_X_pool 76 = .ok (.iinc 3 1, 3) := by decide +kernel
theorem d_X_pool_79 : decode b_X_pool 79 = .ok (.goto (-29), 3) := by decide +kernel
theorem d_X_pool_82 : decode b_X_pool 82 = .ok (.aload_n 0, 1) := by decide +kernel
theorem d_X_pool_83 : decode b_X_pool 83 = .ok (.getfield 19, 3) := by decide +kernel
theorem d_X_pool_86 : decode b_X_pool 86 = .ok (.iconst 1, 1) := by decide +kernel
theorem d_X_pool_87 : decode b_X_pool 87 = .ok (.iload_n 1, 1) := by decide +kernel
theorem d_X_pool_88 : decode b_X_pool 88 = .ok (.ifCond .le 7, 3) := by decide +kernel
theorem d_X_pool_91 : decode b_X_pool 91 = .ok (.iconst 1, 1) := by decide +kernel
theorem d_X_pool_92 : decode b_X_pool 92 = .ok (.goto 4, 3) := by decide +kernel
theorem d_X_pool_95 : decode b_X_pool 95 = .ok (.iconst 0, 1) := by decide +kernel
theorem d_X_pool_96 : decode b_X_pool 96 = .ok (.iastore, 1) := by decide +kernel
theorem d_X_pool_97 : decode b_X_pool 97 = .ok (.aload_n 0, 1) := by decide +kernel
theorem d_X_pool_98 : decode b_X_pool 98 = .ok (.getfield 19, 3) := by decide +kernel
theorem d_X_pool_101 : decode b_X_pool 101 = .ok (.iconst 2, 1) := by decide +kernel
theorem d_X_pool_102 : decode b_X_pool 102 = .ok (.iload_n 2, 1) := by decide +kernel
theorem d_X_pool_103 : decode b_X_pool 103 = .ok (.iastore, 1) := by decide +kernel
theorem d_X_pool_104 : decode b_X_pool 104 = .ok (.aload_n 0, 1) := by decide +kernel
theorem d_X_pool_105 : decode b_X_pool 105 = .ok (.getfield 19, 3) := by decide +kernel
theorem d_X_pool_108 : decode b_X_pool 108 = .ok (.iconst 3, 1) := by decide +kernel
theorem d_X_pool_109 : decode b_X_pool 109 = .ok (.iconst 0, 1) := by decide +kernel
theorem d_X_pool_110 : decode b_X_pool 110 = .ok (.iastore, 1) := by decide +kernel
theorem d_X_pool_111 : decode b_X_pool 111 = .ok (.return_, 1) := by decide +kernel
theorem d_X_put_0 : decode b_X_put 0 = .ok (.aload_n 0, 1) := by decide +kernel
theorem d_X_put_1 : decode b_X_put 1 = .ok (.iconst 0, 1) := by decide +kernel
theorem d_X_put_2 : decode b_X_put 2 = .ok (.putfield 38, 3) := by decide +kernel
theorem d_X_put_5 : decode b_X_put 5 = .ok (.iload_n 1, 1) := by decide +kernel
theorem d_X_put_6 : decode b_X_put 6 = .ok (.ifCond .lt 10, 3) := by decide +kernel
theorem d_X_put_9 : decode b_X_put 9 = .ok (.iload_n 1, 1) := by decide +kernel
theorem d_X_put_10 : decode b_X_put 10 = .ok (.sipush 512, 3) := by decide +kernel
theorem d_X_put_13 : decode b_X_put 13 = .ok (.if_icmp .lt 5, 3) := by decide +kernel
theorem d_X_put_16 : decode b_X_put 16 = .ok (.iconst 0, 1) := by decide +kernel
theorem d_X_put_17 : decode b_X_put 17 = .ok (.ireturn, 1) := by decide +kernel
theorem d_X_put_18 : decode b_X_put 18 = .ok (.aload_n 0, 1) := by decide +kernel
theorem d_X_put_19 : decode b_X_put 19 = .ok (.getfield 7, 3) := by decide +kernel
theorem d_X_put_22 : decode b_X_put 22 = .ok (.iload_n 1, 1) := by decide +kernel
theorem d_X_put_23 : decode b_X_put 23 = .ok (.iload_n 2, 1) := by decide +kernel
theorem d_X_put_24 : decode b_X_put 24 = .ok (.iastore, 1) := by decide +kernel
theorem d_X_put_25 : decode b_X_put 25 = .ok (.iconst 1, 1) := by decide +kernel
theorem d_X_put_26 : decode b_X_put 26 = .ok (.ireturn, 1) := by decide +kernel
theorem d_X_range_0 : decode b_X_range 0 = .ok (.aload_n 0, 1) := by decide +kernel
theorem d_X_range_1 : decode b_X_range 1 = .ok (.iload_n 1, 1) := by decide +kernel
theorem d_X_range_2 : decode b_X_range 2 = .ok (.ifCond .lt 28, 3) := by decide +kernel
theorem d_X_range_5 : decode b_X_range 5 = .ok (.iload_n 1, 1) := by decide +kernel
theorem d_X_range_6 : decode b_X_range 6 = .ok (.iconst 1, 1) := by decide +kernel
theorem d_X_range_7 : decode b_X_range 7 = .ok (.if_icmp .gt 23, 3) := by decide +kernel
theorem d_X_range_10 : decode b_X_range 10 = .ok (.iload_n 2, 1) := by decide +kernel
theorem d_X_range_11 : decode b_X_range 11 = .ok (.ifCond .lt 19, 3) := by decide +kernel
theorem d_X_range_14 : decode b_X_range 14 = .ok (.iload_n 2, 1) := by decide +kernel
theorem d_X_range_15 : decode b_X_range 15 = .ok (.iconst 2, 1) := by decide +kernel
theorem d_X_range_16 : decode b_X_range 16 = .ok (.if_icmp .gt 14, 3) := by decide +kernel
theorem d_X_range_19 : decode b_X_range 19 = .ok (.iload 5, 2) := by decide +kernel
theorem d_X_range_21 : decode b_X_range 21 = .ok (.ifCond .lt 9, 3) := by decide +kernel
theorem d_X_range_24 : decode b_X_range 24 = .ok (.iload 5, 2) := by decide +kernel
theorem d_X_range_26 : decode b_X_range 26 = .ok (.iconst 3, 1) := by decide +kernel
theorem d_X_range_27 : decode b_X_range 27 = .ok (.if_icmp .le 7, 3) := by decide +kernel
theorem d_X_range_30 : decode b_X_range 30 = .ok (.iconst 1, 1) := by decide +kernel
theorem d_X_range_31 : decode b_X_range 31 = .ok (.goto 4, 3) := by decide +kernel
theorem d_X_range_34 : decode b_X_range 34 = .ok (.iconst 0, 1) := by decide +kernel
theorem d_X_range_35 : decode b_X_range 35 = .ok (.putfield 38, 3) := by decide +kernel
theorem d_X_range_38 : decode b_X_range 38 = .ok (.aload_n 0, 1) := by decide +kernel
theorem d_X_range_39 : decode b_X_range 39 = .ok (.getfield 38, 3) := by decide +kernel
theorem d_X_range_42 : decode b_X_range 42 = .ok (.ifCond .le 4, 3) := by decide +kernel
theorem d_X_range_45 : decode b_X_range 45 = .ok (.return_, 1) := by decide +kernel
theorem d_X_range_46 : decode b_X_range 46 = .ok (.aload_n 0, 1) := by decide +kernel
theorem d_X_range_47 : decode b_X_range 47 = .ok (.getfield 26, 3) := by decide +kernel
theorem d_X_range_50 : decode b_X_range 50 = .ok (.iconst 3, 1) := by decide +kernel
theorem d_X_range_51 : decode b_X_range 51 = .ok (.iload_n 1, 1) := by decide +kernel
theorem d_X_range_52 : decode b_X_range 52 = .ok (.imul, 1) := by decide +kernel
theorem d_X_range_53 : decode b_X_range 53 = .ok (.iload_n 2, 1) := by decide +kernel
theorem d_X_range_54 : decode b_X_range 54 = .ok (.iadd, 1) := by decide +kernel
theorem d_X_range_55 : decode b_X_range 55 = .ok (.iload_n 3, 1) := by decide +kernel
theorem d_X_range_56 : decode b_X_range 56 = .ok (.iastore, 1) := by decide +kernel
theorem d_X_range_57 : decode b_X_range 57 = .ok (.aload_n 0, 1) := by decide +kernel
theorem d_X_range_58 : decode b_X_range 58 = .ok (.getfield 29, 3) := by decide +kernel
end
section
theorem d_X_range_61 : decode b_X_range 61 = .ok (.iconst 3, 1) := by decide +kernel
theorem d_X_range_62 : decode b_X_range 62 = .ok (.iload_n 1, 1) := by decide +kernel
theorem d_X_range_63 : decode b_X_range 63 = .ok (.imul, 1) := by decide +kernel
theorem d_X_range_64 : decode b_X_range 64 = .ok (.iload_n 2, 1) := by decide +kernel
theorem d_X_range_65 : decode b_X_range 65 = .ok (.iadd, 1) := by decide +kernel
theorem d_X_range_66 : decode b_X_range 66 = .ok (.iload 4, 2) := by decide +kernel
theorem d_X_range_68 : decode b_X_range 68 = .ok (.iastore, 1) := by decide +kernel
theorem d_X_range_69 : decode b_X_range 69 = .ok (.aload_n 0, 1) := by decide +kernel
theorem d_X_range_70 : decode b_X_range 70 = .ok (.getfield 32, 3) := by decide +kernel
theorem d_X_range_73 : decode b_X_range 73 = .ok (.iconst 3, 1) := by decide +kernel
theorem d_X_range_74 : decode b_X_range 74 = .ok (.iload_n 1, 1) := by decide +kernel
theorem d_X_range_75 : decode b_X_range 75 = .ok (.imul, 1) := by decide +kernel
theorem d_X_range_76 : decode b_X_range 76 = .ok (.iload_n 2, 1) := by decide +kernel
theorem d_X_range_77 : decode b_X_range 77 = .ok (.iadd, 1) := by decide +kernel
theorem d_X_range_78 : decode b_X_range 78 = .ok (.iload 5, 2) := by decide +kernel
theorem d_X_range_80 : decode b_X_range 80 = .ok (.iastore, 1) := by decide +kernel
theorem d_X_range_81 : decode b_X_range 81 = .ok (.return_, 1) := by decide +kernel
theorem d_X_reckon_0 : decode b_X_reckon 0 = .ok (.aload_n 0, 1) := by decide +kernel
theorem d_X_reckon_1 : decode b_X_reckon 1 = .ok (.getfield 13, 3) := by decide +kernel
theorem d_X_reckon_4 : decode b_X_reckon 4 = .ok (.iload_n 3, 1) := by decide +kernel
theorem d_X_reckon_5 : decode b_X_reckon 5 = .ok (.iaload, 1) := by decide +kernel
theorem d_X_reckon_6 : decode b_X_reckon 6 = .ok (.istore 6, 2) := by decide +kernel
theorem d_X_reckon_8 : decode b_X_reckon 8 = .ok (.aload_n 0, 1) := by decide +kernel
theorem d_X_reckon_9 : decode b_X_reckon 9 = .ok (.getfield 13, 3) := by decide +kernel
theorem d_X_reckon_12 : decode b_X_reckon 12 = .ok (.iload 4, 2) := by decide +kernel
theorem d_X_reckon_14 : decode b_X_reckon 14 = .ok (.iaload, 1) := by decide +kernel
theorem d_X_reckon_15 : decode b_X_reckon 15 = .ok (.istore 7, 2) := by decide +kernel
theorem d_X_reckon_17 : decode b_X_reckon 17 = .ok (.iload_n 1, 1) := by decide +kernel
theorem d_X_reckon_18 : decode b_X_reckon 18 = .ok (.bipush 8, 2) := by decide +kernel
theorem d_X_reckon_20 : decode b_X_reckon 20 = .ok (.if_icmp .ne 31, 3) := by decide +kernel
theorem d_X_reckon_23 : decode b_X_reckon 23 = .ok (.aload_n 0, 1) := by decide +kernel
theorem d_X_reckon_24 : decode b_X_reckon 24 = .ok (.getfield 13, 3) := by decide +kernel
theorem d_X_reckon_27 : decode b_X_reckon 27 = .ok (.iload_n 2, 1) := by decide +kernel
theorem d_X_reckon_28 : decode b_X_reckon 28 = .ok (.iload 5, 2) := by decide +kernel
theorem d_X_reckon_30 : decode b_X_reckon 30 = .ok (.ifCond .ge 12, 3) := by decide +kernel
theorem d_X_reckon_33 : decode b_X_reckon 33 = .ok (.iload 6, 2) := by decide +kernel
theorem d_X_reckon_35 : decode b_X_reckon 35 = .ok (.iload 5, 2) := by decide +kernel
theorem d_X_reckon_37 : decode b_X_reckon 37 = .ok (.ineg, 1) := by decide +kernel
theorem d_X_reckon_38 : decode b_X_reckon 38 = .ok (.ishr, 1) := by decide +kernel
theorem d_X_reckon_39 : decode b_X_reckon 39 = .ok (.goto 8, 3) := by decide +kernel
theorem d_X_reckon_42 : decode b_X_reckon 42 = .ok (.iload 6, 2) := by decide +kernel
theorem d_X_reckon_44 : decode b_X_reckon 44 = .ok (.iload 5, 2) := by decide +kernel
theorem d_X_reckon_46 : decode b_X_reckon 46 = .ok (.ishl, 1) := by decide +kernel
theorem d_X_reckon_47 : decode b_X_reckon 47 = .ok (.iastore, 1) := by decide +kernel
theorem d_X_reckon_48 : decode b_X_reckon 48 = .ok (.goto 157, 3) := by decide +kernel
theorem d_X_reckon_51 : decode b_X_reckon 51 = .ok (.iload_n 1, 1) := by decide +kernel
theorem d_X_reckon_52 : decode b_X_reckon 52 = .ok (.bipush 8, 2) := by decide +kernel
theorem d_X_reckon_54 : decode b_X_reckon 54 = .ok (.if_icmp .ge 93, 3) := by decide +kernel
theorem d_X_reckon_57 : decode b_X_reckon 57 = .ok (.aload_n 0, 1) := by decide +kernel
theorem d_X_reckon_58 : decode b_X_reckon 58 = .ok (.getfield 13, 3) := by decide +kernel
theorem d_X_reckon_61 : decode b_X_reckon 61 = .ok (.iload_n 2, 1) := by decide +kernel
theorem d_X_reckon_62 : decode b_X_reckon 62 = .ok (.iload_n 1, 1) := by decide +kernel
theorem d_X_reckon_63 : decode b_X_reckon 63 = .ok (.iconst 1, 1) := by decide +kernel
theorem d_X_reckon_64 : decode b_X_reckon 64 = .ok (.if_icmp .ne 8, 3) := by decide +kernel
theorem d_X_reckon_67 : decode b_X_reckon 67 = .ok (.iload 5, 2) := by decide +kernel
theorem d_X_reckon_69 : decode b_X_reckon 69 = .ok (.goto 74, 3) := by decide +kernel
theorem d_X_reckon_72 : decode b_X_reckon 72 = .ok (.iload_n 1, 1) := by decide +kernel
theorem d_X_reckon_73 : decode b_X_reckon 73 = .ok (.iconst 2, 1) := by decide +kernel
theorem d_X_reckon_74 : decode b_X_reckon 74 = .ok (.if_icmp .ne 11, 3) := by decide +kernel
theorem d_X_reckon_77 : decode b_X_reckon 77 = .ok (.iload 6, 2) := by decide +kernel
theorem d_X_reckon_79 : decode b_X_reckon 79 = .ok (.iload 5, 2) := by decide +kernel
theorem d_X_reckon_81 : decode b_X_reckon 81 = .ok (.iadd, 1) := by decide +kernel
theorem d_X_reckon_82 : decode b_X_reckon 82 = .ok (.goto 61, 3) := by decide +kernel
theorem d_X_reckon_85 : decode b_X_reckon 85 = .ok (.iload_n 1, 1) := by decide +kernel
theorem d_X_reckon_86 : decode b_X_reckon 86 = .ok (.iconst 3, 1) := by decide +kernel
theorem d_X_reckon_87 : decode b_X_reckon 87 = .ok (.if_icmp .ne 11, 3) := by decide +kernel
theorem d_X_reckon_90 : decode b_X_reckon 90 = .ok (.iload 6, 2) := by decide +kernel
theorem d_X_reckon_92 : decode b_X_reckon 92 = .ok (.iload 7, 2) := by decide +kernel
theorem d_X_reckon_94 : decode b_X_reckon 94 = .ok (.iadd, 1) := by decide +kernel
theorem d_X_reckon_95 : decode b_X_reckon 95 = .ok (.goto 48, 3) := by decide +kernel
theorem d_X_reckon_98 : decode b_X_reckon 98 = .ok (.iload_n 1, 1) := by decide +kernel
theorem d_X_reckon_99 : decode b_X_reckon 99 = .ok (.iconst 4, 1) := by decide +kernel
theorem d_X_reckon_100 : decode b_X_reckon 100 = .ok (.if_icmp .ne 11, 3) := by decide +kernel
theorem d_X_reckon_103 : decode b_X_reckon 103 = .ok (.iload 6, 2) := by decide +kernel
theorem d_X_reckon_105 : decode b_X_reckon 105 = .ok (.iload 7, 2) := by decide +kernel
theorem d_X_reckon_107 : decode b_X_reckon 107 = .ok (.isub, 1) := by decide +kernel
theorem d_X_reckon_108 : decode b_X_reckon 108 = .ok (.goto 35, 3) := by decide +kernel
theorem d_X_reckon_111 : decode b_X_reckon 111 = .ok (.iload_n 1, 1) := by decide +kernel
theorem d_X_reckon_112 : decode b_X_reckon 112 = .ok (.iconst 5, 1) := by decide +kernel
theorem d_X_reckon_113 : decode b_X_reckon 113 = .ok (.if_icmp .ne 11, 3) := by decide +kernel
theorem d_X_reckon_116 : decode b_X_reckon 116 = .ok (.iload 6, 2) := by decide +kernel
theorem d_X_reckon_118 : decode b_X_reckon 118 = .ok (.iload 7, 2) := by decide +kernel
theorem d_X_reckon_120 : decode b_X_reckon 120 = .ok (.imul, 1) := by decide +kernel
theorem d_X_reckon_121 : decode b_X_reckon 121 = .ok (.goto 22, 3) := by decide +kernel
theorem d_X_reckon_124 : decode b_X_reckon 124 = .ok (.iload_n 1, 1) := by decide +kernel
theorem d_X_reckon_125 : decode b_X_reckon 125 = .ok (.bipush 6, 2) := by decide +kernel
theorem d_X_reckon_127 : decode b_X_reckon 127 = .ok (.if_icmp .ne 11, 3) := by decide +kernel
theorem d_X_reckon_130 : decode b_X_reckon 130 = .ok (.iload 6, 2) := by decide +kernel
theorem d_X_reckon_132 : decode b_X_reckon 132 = .ok (.iload 7, 2) := by decide +kernel
theorem d_X_reckon_134 : decode b_X_reckon 134 = .ok (.iand, 1) := by decide +kernel
theorem d_X_reckon_135 : decode b_X_reckon 135 = .ok (.goto 8, 3) := by decide +kernel
theorem d_X_reckon_138 : decode b_X_reckon 138 = .ok (.iload 6, 2) := by decide +kernel
theorem d_X_reckon_140 : decode b_X_reckon 140 = .ok (.iload 7, 2) := by decide +kernel
theorem d_X_reckon_142 : decode b_X_reckon 142 = .ok (.ixor, 1) := by decide +kernel
theorem d_X_reckon_143 : decode b_X_reckon 143 = .ok (.iastore, 1) := by decide +kernel
theorem d_X_reckon_144 : decode b_X_reckon 144 = .ok (.goto 61, 3) := by decide +kernel
theorem d_X_reckon_147 : decode b_X_reckon 147 = .ok (.iload_n 1, 1) := by decide +kernel
theorem d_X_reckon_148 : decode b_X_reckon 148 = .ok (.bipush 12, 2) := by decide +kernel
theorem d_X_reckon_150 : decode b_X_reckon 150 = .ok (.if_icmp .ne 18, 3) := by decide +kernel
theorem d_X_reckon_153 : decode b_X_reckon 153 = .ok (.aload_n 0, 1) := by decide +kernel
theorem d_X_reckon_154 : decode b_X_reckon 154 = .ok (.getfield 13, 3) := by decide +kernel
theorem d_X_reckon_157 : decode b_X_reckon 157 = .ok (.iload_n 2, 1) := by decide +kernel
theorem d_X_reckon_158 : decode b_X_reckon 158 = .ok (.aload_n 0, 1) := by decide +kernel
theorem d_X_reckon_159 : decode b_X_reckon 159 = .ok (.getfield 16, 3) := by decide +kernel
theorem d_X_reckon_162 : decode b_X_reckon 162 = .ok (.iload_n 3, 1) := by decide +kernel
theorem d_X_reckon_163 : decode b_X_reckon 163 = .ok (.iaload, 1) := by decide +kernel
theorem d_X_reckon_164 : decode b_X_reckon 164 = .ok (.iastore, 1) := by decide +kernel
theorem d_X_reckon_165 : decode b_X_reckon 165 = .ok (.goto 40, 3) := by decide +kernel
theorem d_X_reckon_168 : decode b_X_reckon 168 = .ok (.aload_n 0, 1) := by decide +kernel
theorem d_X_reckon_169 : decode b_X_reckon 169 = .ok (.getfield 16, 3) := by decide +kernel
theorem d_X_reckon_172 : decode b_X_reckon 172 = .ok (.iload_n 2, 1) := by decide +kernel
theorem d_X_reckon_173 : decode b_X_reckon 173 = .ok (.iload_n 1, 1) := by decide +kernel
theorem d_X_reckon_174 : decode b_X_reckon 174 = .ok (.bipush 9, 2) := by decide +kernel
theorem d_X_reckon_176 : decode b_X_reckon 176 = .ok (.if_icmp .ne 8, 3) := by decide +kernel
theorem d_X_reckon_179 : decode b_X_reckon 179 = .ok (.iload 5, 2) := by decide +kernel
theorem d_X_reckon_181 : decode b_X_reckon 181 = .ok (.goto 23, 3) := by decide +kernel
theorem d_X_reckon_184 : decode b_X_reckon 184 = .ok (.iload_n 1, 1) := by decide +kernel
theorem d_X_reckon_185 : decode b_X_reckon 185 = .ok (.bipush 10, 2) := by decide +kernel
theorem d_X_reckon_187 : decode b_X_reckon 187 = .ok (.if_icmp .ne 15, 3) := by decide +kernel
theorem d_X_reckon_190 : decode b_X_reckon 190 = .ok (.aload_n 0, 1) := by decide +kernel
theorem d_X_reckon_191 : decode b_X_reckon 191 = .ok (.getfield 16, 3) := by decide +kernel
theorem d_X_reckon_194 : decode b_X_reckon 194 = .ok (.iload_n 3, 1) := by decide +kernel
theorem d_X_reckon_195 : decode b_X_reckon 195 = .ok (.iaload, 1) := by decide +kernel
theorem d_X_reckon_196 : decode b_X_reckon 196 = .ok (.iload 5, 2) := by decide +kernel
theorem d_X_reckon_198 : decode b_X_reckon 198 = .ok (.iadd, 1) := by decide +kernel
theorem d_X_reckon_199 : decode b_X_reckon 199 = .ok (.goto 5, 3) := by decide +kernel
theorem d_X_reckon_202 : decode b_X_reckon 202 = .ok (.iload 6, 2) := by decide +kernel
theorem d_X_reckon_204 : decode b_X_reckon 204 = .ok (.iastore, 1) := by decide +kernel
theorem d_X_reckon_205 : decode b_X_reckon 205 = .ok (.return_, 1) := by decide +kernel
theorem d_X_register_0 : decode b_X_register 0 = .ok (.aload_n 0, 1) := by decide +kernel
theorem d_X_register_1 : decode b_X_register 1 = .ok (.iload_n 1, 1) := by decide +kernel
theorem d_X_register_2 : decode b_X_register 2 = .ok (.ifCond .lt 18, 3) := by decide +kernel
theorem d_X_register_5 : decode b_X_register 5 = .ok (.iload_n 1, 1) := by decide +kernel
theorem d_X_register_6 : decode b_X_register 6 = .ok (.iconst 1, 1) := by decide +kernel
theorem d_X_register_7 : decode b_X_register 7 = .ok (.if_icmp .gt 13, 3) := by decide +kernel
theorem d_X_register_10 : decode b_X_register 10 = .ok (.iload_n 2, 1) := by decide +kernel
theorem d_X_register_11 : decode b_X_register 11 = .ok (.ifCond .lt 9, 3) := by decide +kernel
theorem d_X_register_14 : decode b_X_register 14 = .ok (.iload_n 2, 1) := by decide +kernel
theorem d_X_register_15 : decode b_X_register 15 = .ok (.bipush 7, 2) := by decide +kernel
theorem d_X_register_17 : decode b_X_register 17 = .ok (.if_icmp .le 7, 3) := by decide +kernel
theorem d_X_register_20 : decode b_X_register 20 = .ok (.iconst 1, 1) := by decide +kernel
theorem d_X_register_21 : decode b_X_register 21 = .ok (.goto 4, 3) := by decide +kernel
theorem d_X_register_24 : decode b_X_register 24 = .ok (.iconst 0, 1) := by decide +kernel
theorem d_X_register_25 : decode b_X_register 25 = .ok (.putfield 38, 3) := by decide +kernel
theorem d_X_register_28 : decode b_X_register 28 = .ok (.aload_n 0, 1) := by decide +kernel
theorem d_X_register_29 : decode b_X_register 29 = .ok (.getfield 38, 3) := by decide +kernel
theorem d_X_register_32 : decode b_X_register 32 = .ok (.ifCond .le 7, 3) := by decide +kernel
theorem d_X_register_35 : decode b_X_register 35 = .ok (.iconst 0, 1) := by decide +kernel
theorem d_X_register_36 : decode b_X_register 36 = .ok (.goto 22, 3) := by decide +kernel
theorem d_X_register_39 : decode b_X_register 39 = .ok (.iload_n 1, 1) := by decide +kernel
theorem d_X_register_40 : decode b_X_register 40 = .ok (.ifCond .ne 12, 3) := by decide +kernel
theorem d_X_register_43 : decode b_X_register 43 = .ok (.aload_n 0, 1) := by decide +kernel
theorem d_X_register_44 : decode b_X_register 44 = .ok (.getfield 13, 3) := by decide +kernel
theorem d_X_register_47 : decode b_X_register 47 = .ok (.iload_n 2, 1) := by decide +kernel
theorem d_X_register_48 : decode b_X_register 48 = .ok (.iaload, 1) := by decide +kernel
theorem d_X_register_49 : decode b_X_register 49 = .ok (.goto 9, 3) := by decide +kernel
theorem d_X_register_52 : decode b_X_register 52 = .ok (.aload_n 0, 1) := by decide +kernel
theorem d_X_register_53 : decode b_X_register 53 = .ok (.getfield 16, 3) := by decide +kernel
theorem d_X_register_56 : decode b_X_register 56 = .ok (.iload_n 2, 1) := by decide +kernel
theorem d_X_register_57 : decode b_X_register 57 = .ok (.iaload, 1) := by decide +kernel
theorem d_X_register_58 : decode b_X_register 58 = .ok (.ireturn, 1) := by decide +kernel
theorem d_X_request_0 : decode b_X_request 0 = .ok (.aload_n 0, 1) := by decide +kernel
theorem d_X_request_1 : decode b_X_request 1 = .ok (.iconst 0, 1) := by decide +kernel
theorem d_X_request_2 : decode b_X_request 2 = .ok (.putfield 38, 3) := by decide +kernel
theorem d_X_request_5 : decode b_X_request 5 = .ok (.iload_n 1, 1) := by decide +kernel
theorem d_X_request_6 : decode b_X_request 6 = .ok (.iconst 1, 1) := by decide +kernel
theorem d_X_request_7 : decode b_X_request 7 = .ok (.if_icmp .lt 9, 3) := by decide +kernel
theorem d_X_request_10 : decode b_X_request 10 = .ok (.iload_n 1, 1) := by decide +kernel
theorem d_X_request_11 : decode b_X_request 11 = .ok (.bipush 15, 2) := by decide +kernel
theorem d_X_request_13 : decode b_X_request 13 = .ok (.if_icmp .le 5, 3) := by decide +kernel
theorem d_X_request_16 : decode b_X_request 16 = .ok (.iconst 0, 1) := by decide +kernel
theorem d_X_request_17 : decode b_X_request 17 = .ok (.ireturn, 1) := by decide +kernel
theorem d_X_request_18 : decode b_X_request 18 = .ok (.aload_n 0, 1) := by decide +kernel
theorem d_X_request_19 : decode b_X_request 19 = .ok (.getfield 137, 3) := by decide +kernel
theorem d_X_request_22 : decode b_X_request 22 = .ok (.iload_n 1, 1) := by decide +kernel
theorem d_X_request_23 : decode b_X_request 23 = .ok (.ishr, 1) := by decide +kernel
theorem d_X_request_24 : decode b_X_request 24 = .ok (.iconst 1, 1) := by decide +kernel
theorem d_X_request_25 : decode b_X_request 25 = .ok (.iand, 1) := by decide +kernel
theorem d_X_request_26 : decode b_X_request 26 = .ok (.iconst 1, 1) := by decide +kernel
theorem d_X_request_27 : decode b_X_request 27 = .ok (.if_icmp .ne 7, 3) := by decide +kernel
theorem d_X_request_30 : decode b_X_request 30 = .ok (.iconst 1, 1) := by decide +kernel
theorem d_X_request_31 : decode b_X_request 31 = .ok (.goto 4, 3) := by decide +kernel
theorem d_X_request_34 : decode b_X_request 34 = .ok (.iconst 0, 1) := by decide +kernel
theorem d_X_request_35 : decode b_X_request 35 = .ok (.istore_n 2, 1) := by decide +kernel
theorem d_X_request_36 : decode b_X_request 36 = .ok (.aload_n 0, 1) := by decide +kernel
theorem d_X_request_37 : decode b_X_request 37 = .ok (.aload_n 0, 1) := by decide +kernel
theorem d_X_request_38 : decode b_X_request 38 = .ok (.getfield 137, 3) := by decide +kernel
theorem d_X_request_41 : decode b_X_request 41 = .ok (.iconst 1, 1) := by decide +kernel
theorem d_X_request_42 : decode b_X_request 42 = .ok (.iload_n 1, 1) := by decide +kernel
theorem d_X_request_43 : decode b_X_request 43 = .ok (.ishl, 1) := by decide +kernel
theorem d_X_request_44 : decode b_X_request 44 = .ok (.ior, 1) := by decide +kernel
theorem d_X_request_45 : decode b_X_request 45 = .ok (.putfield 137, 3) := by decide +kernel
theorem d_X_request_48 : decode b_X_request 48 = .ok (.iload_n 2, 1) := by decide +kernel
theorem d_X_request_49 : decode b_X_request 49 = .ok (.ifCond .ne 7, 3) := by decide +kernel
theorem d_X_request_52 : decode b_X_request 52 = .ok (.iconst 1, 1) := by decide +kernel
theorem d_X_request_53 : decode b_X_request 53 = .ok (.goto 4, 3) := by decide +kernel
theorem d_X_request_56 : decode b_X_request 56 = .ok (.iconst 0, 1) := by decide +kernel
theorem d_X_request_57 : decode b_X_request 57 = .ok (.ireturn, 1) := by decide +kernel
theorem d_X_run_0 : decode b_X_run 0 = .ok (.aload_n 0, 1) := by decide +kernel
theorem d_X_run_1 : decode b_X_run 1 = .ok (.iload_n 1, 1) := by decide +kernel
theorem d_X_run_2 : decode b_X_run 2 = .ok (.ifCond .lt 10, 3) := by decide +kernel
theorem d_X_run_5 : decode b_X_run 5 = .ok (.iload_n 1, 1) := by decide +kernel
theorem d_X_run_6 : decode b_X_run 6 = .ok (.sipush 300, 3) := by decide +kernel
theorem d_X_run_9 : decode b_X_run 9 = .ok (.if_icmp .le 7, 3) := by decide +kernel
theorem d_X_run_12 : decode b_X_run 12 = .ok (.iconst 1, 1) := by decide +kernel
theorem d_X_run_13 : decode b_X_run 13 = .ok (.goto 4, 3) := by decide +kernel
theorem d_X_run_16 : decode b_X_run 16 = .ok (.iconst 0, 1) := by decide +kernel
theorem d_X_run_17 : decode b_X_run 17 = .ok (.putfield 38, 3) := by decide +kernel
theorem d_X_run_20 : decode b_X_run 20 = .ok (.iconst 0, 1) := by decide +kernel
theorem d_X_run_21 : decode b_X_run 21 = .ok (.istore_n 2, 1) := by decide +kernel
theorem d_X_run_22 : decode b_X_run 22 = .ok (.aload_n 0, 1) := by decide +kernel
theorem d_X_run_23 : decode b_X_run 23 = .ok (.getfield 38, 3) := by decide +kernel
theorem d_X_run_26 : decode b_X_run 26 = .ok (.ifCond .ne 25, 3) := by decide +kernel
theorem d_X_run_29 : decode b_X_run 29 = .ok (.iload_n 2, 1) := by decide +kernel
theorem d_X_run_30 : decode b_X_run 30 = .ok (.iload_n 1, 1) := by decide +kernel
theorem d_X_run_31 : decode b_X_run 31 = .ok (.if_icmp .ge 20, 3) := by decide +kernel
theorem d_X_run_34 : decode b_X_run 34 = .ok (.aload_n 0, 1) := by decide +kernel
theorem d_X_run_35 : decode b_X_run 35 = .ok (.getfield 45, 3) := by decide +kernel
theorem d_X_run_38 : decode b_X_run 38 = .ok (.ifCond .eq 13, 3) := by decide +kernel
theorem d_X_run_41 : decode b_X_run 41 = .ok (.aload_n 0, 1) := by decide +kernel
theorem d_X_run_42 : decode b_X_run 42 = .ok (.invokevirtual 153, 3) := by decide +kernel
theorem d_X_run_45 : decode b_X_run 45 = .ok (.iinc 2 1, 3) := by decide +kernel
theorem d_X_run_48 : decode b_X_run 48 = .ok (.goto (-26), 3) := by decide +kernel
theorem d_X_run_51 : decode b_X_run 51 = .ok (.iload_n 2, 1) := by decide +kernel
theorem d_X_run_52 : decode b_X_run 52 = .ok (.ireturn, 1) := by decide +kernel
theorem d_X_start_0 : decode b_X_start 0 = .ok (.aload_n 0, 1) := by decide +kernel
theorem d_X_start_1 : decode b_X_start 1 = .ok (.iload_n 2, 1) := by decide +kernel
theorem d_X_start_2 : decode b_X_start 2 = .ok (.ifCond .lt 8, 3) := by decide +kernel
theorem d_X_start_5 : decode b_X_start 5 = .ok (.iload_n 2, 1) := by decide +kernel
theorem d_X_start_6 : decode b_X_start 6 = .ok (.iconst 2, 1) := by decide +kernel
theorem d_X_start_7 : decode b_X_start 7 = .ok (.if_icmp .le 7, 3) := by decide +kernel
theorem d_X_start_10 : decode b_X_start 10 = .ok (.iconst 1, 1) := by decide +kernel
theorem d_X_start_11 : decode b_X_start 11 = .ok (.goto 15, 3) := by decide +kernel
theorem d_X_start_14 : decode b_X_start 14 = .ok (.aload_n 0, 1) := by decide +kernel
theorem d_X_start_15 : decode b_X_start 15 = .ok (.getfield 45, 3) := by decide +kernel
theorem d_X_start_18 : decode b_X_start 18 = .ok (.ifCond .eq 7, 3) := by decide +kernel
theorem d_X_start_21 : decode b_X_start 21 = .ok (.iconst 2, 1) := by decide +kernel
theorem d_X_start_22 : decode b_X_start 22 = .ok (.goto 4, 3) := by decide +kernel
theorem d_X_start_25 : decode b_X_start 25 = .ok (.iconst 0, 1) := by decide +kernel
theorem d_X_start_26 : decode b_X_start 26 = .ok (.putfield 38, 3) := by decide +kernel
theorem d_X_start_29 : decode b_X_start 29 = .ok (.aload_n 0, 1) := by decide +kernel
theorem d_X_start_30 : decode b_X_start 30 = .ok (.getfield 38, 3) := by decide +kernel
theorem d_X_start_33 : decode b_X_start 33 = .ok (.ifCond .le 4, 3) := by decide +kernel
theorem d_X_start_36 : decode b_X_start 36 = .ok (.return_, 1) := by decide +kernel
theorem d_X_start_37 : decode b_X_start 37 = .ok (.aload_n 0, 1) := by decide +kernel
theorem d_X_start_38 : decode b_X_start 38 = .ok (.iconst 1, 1) := by decide +kernel
theorem d_X_start_39 : decode b_X_start 39 = .ok (.putfield 45, 3) := by decide +kernel
theorem d_X_start_42 : decode b_X_start 42 = .ok (.aload_n 0, 1) := by decide +kernel
theorem d_X_start_43 : decode b_X_start 43 = .ok (.getfield 19, 3) := by decide +kernel
theorem d_X_start_46 : decode b_X_start 46 = .ok (.iconst 0, 1) := by decide +kernel
theorem d_X_start_47 : decode b_X_start 47 = .ok (.iload_n 1, 1) := by decide +kernel
theorem d_X_start_48 : decode b_X_start 48 = .ok (.iastore, 1) := by decide +kernel
theorem d_X_start_49 : decode b_X_start 49 = .ok (.aload_n 0, 1) := by decide +kernel
theorem d_X_start_50 : decode b_X_start 50 = .ok (.iload_n 2, 1) := by decide +kernel
theorem d_X_start_51 : decode b_X_start 51 = .ok (.putfield 53, 3) := by decide +kernel
theorem d_X_start_54 : decode b_X_start 54 = .ok (.aload_n 0, 1) := by decide +kernel
theorem d_X_start_55 : decode b_X_start 55 = .ok (.iconst 0, 1) := by decide +kernel
theorem d_X_start_56 : decode b_X_start 56 = .ok (.putfield 56, 3) := by decide +kernel
theorem d_X_start_59 : decode b_X_start 59 = .ok (.aload_n 0, 1) := by decide +kernel
theorem d_X_start_60 : decode b_X_start 60 = .ok (.iconst 0, 1) := by decide +kernel
theorem d_X_start_61 : decode b_X_start 61 = .ok (.putfield 59, 3) := by decide +kernel
theorem d_X_start_64 : decode b_X_start 64 = .ok (.aload_n 0, 1) := by decide +kernel
theorem d_X_start_65 : decode b_X_start 65 = .ok (.iconst 0, 1) := by decide +kernel
theorem d_X_start_66 : decode b_X_start 66 = .ok (.putfield 62, 3) := by decide +kernel
theorem d_X_start_69 : decode b_X_start 69 = .ok (.aload_n 0, 1) := by decide +kernel
theorem d_X_start_70 : decode b_X_start 70 = .ok (.iload_n 3, 1) := by decide +kernel
theorem d_X_start_71 : decode b_X_start 71 = .ok (.putfield 65, 3) := by decide +kernel
theorem d_X_start_74 : decode b_X_start 74 = .ok (.return_, 1) := by decide +kernel
theorem d_X_step_0 : decode b_X_step 0 = .ok (.aload_n 0, 1) := by decide +kernel
theorem d_X_step_1 : decode b_X_step 1 = .ok (.dup, 1) := by decide +kernel
theorem d_X_step_2 : decode b_X_step 2 = .ok (.getfield 131, 3) := by decide +kernel
theorem d_X_step_5 : decode b_X_step 5 = .ok (.iconst 1, 1) := by decide +kernel
theorem d_X_step_6 : decode b_X_step 6 = .ok (.iadd, 1) := by decide +kernel
theorem d_X_step_7 : decode b_X_step 7 = .ok (.putfield 131, 3) := by decide +kernel
theorem d_X_step_10 : decode b_X_step 10 = .ok (.aload_n 0, 1) := by decide +kernel
theorem d_X_step_11 : decode b_X_step 11 = .ok (.getfield 134, 3) := by decide +kernel
theorem d_X_step_14 : decode b_X_step 14 = .ok (.ifCond .le 41, 3) := by decide +kernel
theorem d_X_step_17 : decode b_X_step 17 = .ok (.aload_n 0, 1) := by decide +kernel
theorem d_X_step_18 : decode b_X_step 18 = .ok (.getfield 131, 3) := by decide +kernel
theorem d_X_step_21 : decode b_X_step 21 = .ok (.aload_n 0, 1) := by decide +kernel
theorem d_X_step_22 : decode b_X_step 22 = .ok (.getfield 134, 3) := by decide +kernel
theorem d_X_step_25 : decode b_X_step 25 = .ok (.ifCond .le 10, 3) := by decide +kernel
theorem d_X_step_28 : decode b_X_step 28 = .ok (.aload_n 0, 1) := by decide +kernel
theorem d_X_step_29 : decode b_X_step 29 = .ok (.getfield 134, 3) := by decide +kernel
theorem d_X_step_32 : decode b_X_step 32 = .ok (.goto 4, 3) := by decide +kernel
theorem d_X_step_36 : decode b_X_step 36 = .ok (.irem, 1) := by decide +kernel
theorem d_X_step_37 : decode b_X_step 37 = .ok (.ifCond .ne 18, 3) := by decide +kernel
theorem d_X_step_40 : decode b_X_step 40 = .ok (.aload_n 0, 1) := by decide +kernel
theorem d_X_step_41 : decode b_X_step 41 = .ok (.aload_n 0, 1) := by decide +kernel
theorem d_X_step_42 : decode b_X_step 42 = .ok (.getfield 137, 3) := by decide +kernel
theorem d_X_step_45 : decode b_X_step 45 = .ok (.iconst 1, 1) := by decide +kernel
theorem d_X_step_46 : decode b_X_step 46 = .ok (.aload_n 0, 1) := by decide +kernel
theorem d_X_step_47 : decode b_X_step 47 = .ok (.getfield 22, 3) := by decide +kernel
theorem d_X_step_50 : decode b_X_step 50 = .ok (.ishl, 1) := by decide +kernel
theorem d_X_step_51 : decode b_X_step 51 = .ok (.ior, 1) := by decide +kernel
theorem d_X_step_52 : decode b_X_step 52 = .ok (.putfield 137, 3) := by decide +kernel
theorem d_X_step_55 : decode b_X_step 55 = .ok (.aload_n 0, 1) := by decide +kernel
theorem d_X_step_56 : decode b_X_step 56 = .ok (.iconst 0, 1) := by decide +kernel
theorem d_X_step_57 : decode b_X_step 57 = .ok (.putfield 68, 3) := by decide +kernel
theorem d_X_step_60 : decode b_X_step 60 = .ok (.aload_n 0, 1) := by decide +kernel
theorem d_X_step_61 : decode b_X_step 61 = .ok (.iconst 0, 1) := by decide +kernel
theorem d_X_step_62 : decode b_X_step 62 = .ok (.putfield 78, 3) := by decide +kernel
theorem d_X_step_65 : decode b_X_step 65 = .ok (.aload_n 0, 1) := by decide +kernel
theorem d_X_step_66 : decode b_X_step 66 = .ok (.iconst 0, 1) := by decide +kernel
theorem d_X_step_67 : decode b_X_step 67 = .ok (.putfield 71, 3) := by decide +kernel
theorem d_X_step_70 : decode b_X_step 70 = .ok (.bipush 15, 2) := by decide +kernel
theorem d_X_step_72 : decode b_X_step 72 = .ok (.istore_n 1, 1) := by decide +kernel
theorem d_X_step_73 : decode b_X_step 73 = .ok (.iload_n 1, 1) := by decide +kernel
theorem d_X_step_74 : decode b_X_step 74 = .ok (.ifCond .le 20, 3) := by decide +kernel
theorem d_X_step_77 : decode b_X_step 77 = .ok (.aload_n 0, 1) := by decide +kernel
theorem d_X_step_78 : decode b_X_step 78 = .ok (.getfield 137, 3) := by decide +kernel
theorem d_X_step_81 : decode b_X_step 81 = .ok (.iload_n 1, 1) := by decide +kernel
theorem d_X_step_82 : decode b_X_step 82 = .ok (.ishr, 1) := by decide +kernel
theorem d_X_step_83 : decode b_X_step 83 = .ok (.iconst 1, 1) := by decide +kernel
theorem d_X_step_84 : decode b_X_step 84 = .ok (.iand, 1) := by decide +kernel
theorem d_X_step_85 : decode b_X_step 85 = .ok (.ifCond .ne 9, 3) := by decide +kernel
theorem d_X_step_88 : decode b_X_step 88 = .ok (.iinc 1 (-1), 3) := by decide +kernel
theorem d_X_step_91 : decode b_X_step 91 = .ok (.goto (-18), 3) := by decide +kernel
theorem d_X_step_94 : decode b_X_step 94 = .ok (.aload_n 0, 1) := by decide +kernel
theorem d_X_step_95 : decode b_X_step 95 = .ok (.getfield 19, 3) := by decide +kernel
theorem d_X_step_98 : decode b_X_step 98 = .ok (.iconst 0, 1) := by decide +kernel
theorem d_X_step_99 : decode b_X_step 99 = .ok (.iaload, 1) := by decide +kernel
theorem d_X_step_100 : decode b_X_step 100 = .ok (.istore_n 2, 1) := by decide +kernel
theorem d_X_step_101 : decode b_X_step 101 = .ok (.aload_n 0, 1) := by decide +kernel
theorem d_X_step_102 : decode b_X_step 102 = .ok (.getfield 65, 3) := by decide +kernel
theorem d_X_step_105 : decode b_X_step 105 = .ok (.ifCond .eq 59, 3) := by decide +kernel
theorem d_X_step_108 : decode b_X_step 108 = .ok (.iload_n 1, 1) := by decide +kernel
theorem d_X_step_109 : decode b_X_step 109 = .ok (.aload_n 0, 1) := by decide +kernel
theorem d_X_step_110 : decode b_X_step 110 = .ok (.getfield 62, 3) := by decide +kernel
theorem d_X_step_113 : decode b_X_step 113 = .ok (.if_icmp .le 51, 3) := by decide +kernel
theorem d_X_step_116 : decode b_X_step 116 = .ok (.aload_n 0, 1) := by decide +kernel
theorem d_X_step_117 : decode b_X_step 117 = .ok (.iload_n 2, 1) := by decide +kernel
theorem d_X_step_118 : decode b_X_step 118 = .ok (.aload_n 0, 1) := by decide +kernel
theorem d_X_step_119 : decode b_X_step 119 = .ok (.getfield 140, 3) := by decide +kernel
theorem d_X_step_122 : decode b_X_step 122 = .ok (.iconst 4, 1) := by decide +kernel
theorem d_X_step_123 : decode b_X_step 123 = .ok (.iload_n 1, 1) := by decide +kernel
theorem d_X_step_124 : decode b_X_step 124 = .ok (.imul, 1) := by decide +kernel
theorem d_X_step_125 : decode b_X_step 125 = .ok (.iadd, 1) := by decide +kernel
theorem d_X_step_126 : decode b_X_step 126 = .ok (.invokevirtual 84, 3) := by decide +kernel
theorem d_X_step_129 : decode b_X_step 129 = .ok (.ifCond .eq 141, 3) := by decide +kernel
theorem d_X_step_132 : decode b_X_step 132 = .ok (.aload_n 0, 1) := by decide +kernel
theorem d_X_step_133 : decode b_X_step 133 = .ok (.aload_n 0, 1) := by decide +kernel
theorem d_X_step_134 : decode b_X_step 134 = .ok (.getfield 137, 3) := by decide +kernel
theorem d_X_step_137 : decode b_X_step 137 = .ok (.iconst 1, 1) := by decide +kernel
theorem d_X_step_138 : decode b_X_step 138 = .ok (.iload_n 1, 1) := by decide +kernel
theorem d_X_step_139 : decode b_X_step 139 = .ok (.ishl, 1) := by decide +kernel
theorem d_X_step_140 : decode b_X_step 140 = .ok (.iconst (-1), 1) := by decide +kernel
theorem d_X_step_141 : decode b_X_step 141 = .ok (.ixor, 1) := by decide +kernel
theorem d_X_step_142 : decode b_X_step 142 = .ok (.iand, 1) := by decide +kernel
theorem d_X_step_143 : decode b_X_step 143 = .ok (.putfield 137, 3) := by decide +kernel
theorem d_X_step_146 : decode b_X_step 146 = .ok (.aload_n 0, 1) := by decide +kernel
theorem d_X_step_147 : decode b_X_step 147 = .ok (.iload_n 1, 1) := by decide +kernel
theorem d_X_step_148 : decode b_X_step 148 = .ok (.putfield 62, 3) := by decide +kernel
theorem d_X_step_151 : decode b_X_step 151 = .ok (.aload_n 0, 1) := by decide +kernel
theorem d_X_step_152 : decode b_X_step 152 = .ok (.dup, 1) := by decide +kernel
theorem d_X_step_153 : decode b_X_step 153 = .ok (.getfield 143, 3) := by decide +kernel
theorem d_X_step_156 : decode b_X_step 156 = .ok (.iconst 1, 1) := by decide +kernel
theorem d_X_step_157 : decode b_X_step 157 = .ok (.iadd, 1) := by decide +kernel
theorem d_X_step_158 : decode b_X_step 158 = .ok (.putfield 143, 3) := by decide +kernel
theorem d_X_step_161 : decode b_X_step 161 = .ok (.goto 109, 3) := by decide +kernel
theorem d_X_step_164 : decode b_X_step 164 = .ok (.iload_n 2, 1) := by decide +kernel
theorem d_X_step_165 : decode b_X_step 165 = .ok (.ifCond .lt 10, 3) := by decide +kernel
theorem d_X_step_168 : decode b_X_step 168 = .ok (.iload_n 2, 1) := by decide +kernel
theorem d_X_step_169 : decode b_X_step 169 = .ok (.sipush 512, 3) := by decide +kernel
theorem d_X_step_172 : decode b_X_step 172 = .ok (.if_icmp .lt 12, 3) := by decide +kernel
theorem d_X_step_175 : decode b_X_step 175 = .ok (.aload_n 0, 1) := by decide +kernel
theorem d_X_step_176 : decode b_X_step 176 = .ok (.iconst 4, 1) := by decide +kernel
theorem d_X_step_177 : decode b_X_step 177 = .ok (.iconst 1, 1) := by decide +kernel
theorem d_X_step_178 : decode b_X_step 178 = .ok (.invokevirtual 146, 3) := by decide +kernel
theorem d_X_step_181 : decode b_X_step 181 = .ok (.goto 89, 3) := by decide +kernel
theorem d_X_step_184 : decode b_X_step 184 = .ok (.aload_n 0, 1) := by decide +kernel
theorem d_X_step_185 : decode b_X_step 185 = .ok (.invokevirtual 94, 3) := by decide +kernel
theorem d_X_step_188 : decode b_X_step 188 = .ok (.ifCond .eq 46, 3) := by decide +kernel
theorem d_X_step_191 : decode b_X_step 191 = .ok (.iload_n 2, 1) := by decide +kernel
theorem d_X_step_192 : decode b_X_step 192 = .ok (.aload_n 0, 1) := by decide +kernel
theorem d_X_step_193 : decode b_X_step 193 = .ok (.getfield 26, 3) := by decide +kernel
theorem d_X_step_196 : decode b_X_step 196 = .ok (.iconst 3, 1) := by decide +kernel
theorem d_X_step_197 : decode b_X_step 197 = .ok (.aload_n 0, 1) := by decide +kernel
theorem d_X_step_198 : decode b_X_step 198 = .ok (.getfield 56, 3) := by decide +kernel
theorem d_X_step_201 : decode b_X_step 201 = .ok (.imul, 1) := by decide +kernel
theorem d_X_step_202 : decode b_X_step 202 = .ok (.iconst 2, 1) := by decide +kernel
theorem d_X_step_203 : decode b_X_step 203 = .ok (.iadd, 1) := by decide +kernel
theorem d_X_step_204 : decode b_X_step 204 = .ok (.iaload, 1) := by decide +kernel
theorem d_X_step_205 : decode b_X_step 205 = .ok (.if_icmp .lt 20, 3) := by decide +kernel
theorem d_X_step_208 : decode b_X_step 208 = .ok (.iload_n 2, 1) := by decide +kernel
theorem d_X_step_209 : decode b_X_step 209 = .ok (.aload_n 0, 1) := by decide +kernel
theorem d_X_step_210 : decode b_X_step 210 = .ok (.getfield 29, 3) := by decide +kernel
theorem d_X_step_213 : decode b_X_step 213 = .ok (.iconst 3, 1) := by decide +kernel
theorem d_X_step_214 : decode b_X_step 214 = .ok (.aload_n 0, 1) := by decide +kernel
theorem d_X_step_215 : decode b_X_step 215 = .ok (.getfield 56, 3) := by decide +kernel
theorem d_X_step_218 : decode b_X_step 218 = .ok (.imul, 1) := by decide +kernel
theorem d_X_step_219 : decode b_X_step 219 = .ok (.iconst 2, 1) := by decide +kernel
theorem d_X_step_220 : decode b_X_step 220 = .ok (.iadd, 1) := by decide +kernel
theorem d_X_step_221 : decode b_X_step 221 = .ok (.iaload, 1) := by decide +kernel
theorem d_X_step_222 : decode b_X_step 222 = .ok (.if_icmp .lt 12, 3) := by decide +kernel
theorem d_X_step_225 : decode b_X_step 225 = .ok (.aload_n 0, 1) := by decide +kernel
theorem d_X_step_226 : decode b_X_step 226 = .ok (.iconst 1, 1) := by decide +kernel
theorem d_X_step_227 : decode b_X_step 227 = .ok (.iconst 4, 1) := by decide +kernel
theorem d_X_step_228 : decode b_X_step 228 = .ok (.invokevirtual 146, 3) := by decide +kernel
theorem d_X_step_231 : decode b_X_step 231 = .ok (.goto 39, 3) := by decide +kernel
end
section
theorem d_X_step_234 : decode b_X_step 234 = .ok (.aload_n 0, 1) := by decide +kernel
theorem d_X_step_235 : decode b_X_step 235 = .ok (.aload_n 0, 1) := by decide +kernel
theorem d_X_step_236 : decode b_X_step 236 = .ok (.getfield 7, 3) := by decide +kernel
theorem d_X_step_239 : decode b_X_step 239 = .ok (.iload_n 2, 1) := by decide +kernel
theorem d_X_step_240 : decode b_X_step 240 = .ok (.iaload, 1) := by decide +kernel
theorem d_X_step_241 : decode b_X_step 241 = .ok (.invokevirtual 149, 3) := by decide +kernel
theorem d_X_step_244 : decode b_X_step 244 = .ok (.aload_n 0, 1) := by decide +kernel
theorem d_X_step_245 : decode b_X_step 245 = .ok (.getfield 71, 3) := by decide +kernel
theorem d_X_step_248 : decode b_X_step 248 = .ok (.ifCond .le 22, 3) := by decide +kernel
theorem d_X_step_251 : decode b_X_step 251 = .ok (.aload_n 0, 1) := by decide +kernel
theorem d_X_step_252 : decode b_X_step 252 = .ok (.aload_n 0, 1) := by decide +kernel
theorem d_X_step_253 : decode b_X_step 253 = .ok (.getfield 71, 3) := by decide +kernel
theorem d_X_step_256 : decode b_X_step 256 = .ok (.bipush 8, 2) := by decide +kernel
theorem d_X_step_258 : decode b_X_step 258 = .ok (.ishr, 1) := by decide +kernel
theorem d_X_step_259 : decode b_X_step 259 = .ok (.aload_n 0, 1) := by decide +kernel
theorem d_X_step_260 : decode b_X_step 260 = .ok (.getfield 71, 3) := by decide +kernel
theorem d_X_step_263 : decode b_X_step 263 = .ok (.sipush 255, 3) := by decide +kernel
theorem d_X_step_266 : decode b_X_step 266 = .ok (.iand, 1) := by decide +kernel
theorem d_X_step_267 : decode b_X_step 267 = .ok (.invokevirtual 146, 3) := by decide +kernel
theorem d_X_step_270 : decode b_X_step 270 = .ok (.aload_n 0, 1) := by decide +kernel
theorem d_X_step_271 : decode b_X_step 271 = .ok (.getfield 45, 3) := by decide +kernel
theorem d_X_step_274 : decode b_X_step 274 = .ok (.ifCond .eq 23, 3) := by decide +kernel
theorem d_X_step_277 : decode b_X_step 277 = .ok (.aload_n 0, 1) := by decide +kernel
theorem d_X_step_278 : decode b_X_step 278 = .ok (.getfield 68, 3) := by decide +kernel
theorem d_X_step_281 : decode b_X_step 281 = .ok (.ifCond .eq 16, 3) := by decide +kernel
theorem d_X_step_284 : decode b_X_step 284 = .ok (.aload_n 0, 1) := by decide +kernel
theorem d_X_step_285 : decode b_X_step 285 = .ok (.getfield 78, 3) := by decide +kernel
theorem d_X_step_288 : decode b_X_step 288 = .ok (.ifCond .ne 9, 3) := by decide +kernel
theorem d_X_step_291 : decode b_X_step 291 = .ok (.aload_n 0, 1) := by decide +kernel
theorem d_X_step_292 : decode b_X_step 292 = .ok (.iconst 3, 1) := by decide +kernel
theorem d_X_step_293 : decode b_X_step 293 = .ok (.iconst 1, 1) := by decide +kernel
theorem d_X_step_294 : decode b_X_step 294 = .ok (.invokevirtual 146, 3) := by decide +kernel
theorem d_X_step_297 : decode b_X_step 297 = .ok (.return_, 1) := by decide +kernel
theorem d_X_system_0 : decode b_X_system 0 = .ok (.iload_n 1, 1) := by decide +kernel
theorem d_X_system_1 : decode b_X_system 1 = .ok (.bipush 27, 2) := by decide +kernel
theorem d_X_system_3 : decode b_X_system 3 = .ok (.if_icmp .ne 19, 3) := by decide +kernel
theorem d_X_system_6 : decode b_X_system 6 = .ok (.aload_n 0, 1) := by decide +kernel
theorem d_X_system_7 : decode b_X_system 7 = .ok (.sipush 1536, 3) := by decide +kernel
theorem d_X_system_10 : decode b_X_system 10 = .ok (.iload_n 2, 1) := by decide +kernel
theorem d_X_system_11 : decode b_X_system 11 = .ok (.sipush 255, 3) := by decide +kernel
theorem d_X_system_14 : decode b_X_system 14 = .ok (.iand, 1) := by decide +kernel
theorem d_X_system_15 : decode b_X_system 15 = .ok (.iadd, 1) := by decide +kernel
theorem d_X_system_16 : decode b_X_system 16 = .ok (.putfield 71, 3) := by decide +kernel
theorem d_X_system_19 : decode b_X_system 19 = .ok (.goto 81, 3) := by decide +kernel
theorem d_X_system_22 : decode b_X_system 22 = .ok (.iload_n 1, 1) := by decide +kernel
theorem d_X_system_23 : decode b_X_system 23 = .ok (.bipush 28, 2) := by decide +kernel
theorem d_X_system_25 : decode b_X_system 25 = .ok (.if_icmp .ne 22, 3) := by decide +kernel
theorem d_X_system_28 : decode b_X_system 28 = .ok (.aload_n 0, 1) := by decide +kernel
theorem d_X_system_29 : decode b_X_system 29 = .ok (.iload_n 2, 1) := by decide +kernel
theorem d_X_system_30 : decode b_X_system 30 = .ok (.iconst 1, 1) := by decide +kernel
theorem d_X_system_31 : decode b_X_system 31 = .ok (.iand, 1) := by decide +kernel
theorem d_X_system_32 : decode b_X_system 32 = .ok (.iconst 1, 1) := by decide +kernel
theorem d_X_system_33 : decode b_X_system 33 = .ok (.if_icmp .ne 7, 3) := by decide +kernel
theorem d_X_system_36 : decode b_X_system 36 = .ok (.iconst 1, 1) := by decide +kernel
theorem d_X_system_37 : decode b_X_system 37 = .ok (.goto 4, 3) := by decide +kernel
theorem d_X_system_40 : decode b_X_system 40 = .ok (.iconst 0, 1) := by decide +kernel
theorem d_X_system_41 : decode b_X_system 41 = .ok (.putfield 65, 3) := by decide +kernel
theorem d_X_system_44 : decode b_X_system 44 = .ok (.goto 56, 3) := by decide +kernel
theorem d_X_system_47 : decode b_X_system 47 = .ok (.iload_n 1, 1) := by decide +kernel
theorem d_X_system_48 : decode b_X_system 48 = .ok (.bipush 29, 2) := by decide +kernel
theorem d_X_system_50 : decode b_X_system 50 = .ok (.if_icmp .ne 13, 3) := by decide +kernel
theorem d_X_system_53 : decode b_X_system 53 = .ok (.aload_n 0, 1) := by decide +kernel
theorem d_X_system_54 : decode b_X_system 54 = .ok (.iload_n 2, 1) := by decide +kernel
theorem d_X_system_55 : decode b_X_system 55 = .ok (.iconst 1, 1) := by decide +kernel
theorem d_X_system_56 : decode b_X_system 56 = .ok (.iand, 1) := by decide +kernel
theorem d_X_system_57 : decode b_X_system 57 = .ok (.putfield 56, 3) := by decide +kernel
theorem d_X_system_60 : decode b_X_system 60 = .ok (.goto 40, 3) := by decide +kernel
theorem d_X_system_63 : decode b_X_system 63 = .ok (.iload_n 1, 1) := by decide +kernel
theorem d_X_system_64 : decode b_X_system 64 = .ok (.bipush 30, 2) := by decide +kernel
theorem d_X_system_66 : decode b_X_system 66 = .ok (.if_icmp .ne 13, 3) := by decide +kernel
theorem d_X_system_69 : decode b_X_system 69 = .ok (.aload_n 0, 1) := by decide +kernel
theorem d_X_system_70 : decode b_X_system 70 = .ok (.iload_n 2, 1) := by decide +kernel
theorem d_X_system_71 : decode b_X_system 71 = .ok (.iconst 1, 1) := by decide +kernel
theorem d_X_system_72 : decode b_X_system 72 = .ok (.iand, 1) := by decide +kernel
theorem d_X_system_73 : decode b_X_system 73 = .ok (.putfield 53, 3) := by decide +kernel
theorem d_X_system_76 : decode b_X_system 76 = .ok (.goto 24, 3) := by decide +kernel
theorem d_X_system_79 : decode b_X_system 79 = .ok (.iload_n 1, 1) := by decide +kernel
theorem d_X_system_80 : decode b_X_system 80 = .ok (.bipush 31, 2) := by decide +kernel
theorem d_X_system_82 : decode b_X_system 82 = .ok (.if_icmp .ne 11, 3) := by decide +kernel
theorem d_X_system_85 : decode b_X_system 85 = .ok (.aload_n 0, 1) := by decide +kernel
theorem d_X_system_86 : decode b_X_system 86 = .ok (.iconst 0, 1) := by decide +kernel
theorem d_X_system_87 : decode b_X_system 87 = .ok (.putfield 45, 3) := by decide +kernel
theorem d_X_system_90 : decode b_X_system 90 = .ok (.goto 10, 3) := by decide +kernel
theorem d_X_system_93 : decode b_X_system 93 = .ok (.aload_n 0, 1) := by decide +kernel
theorem d_X_system_94 : decode b_X_system 94 = .ok (.sipush 513, 3) := by decide +kernel
theorem d_X_system_97 : decode b_X_system 97 = .ok (.putfield 71, 3) := by decide +kernel
theorem d_X_system_100 : decode b_X_system 100 = .ok (.return_, 1) := by decide +kernel
theorem d_X_tables_0 : decode b_X_tables 0 = .ok (.aload_n 0, 1) := by decide +kernel
theorem d_X_tables_1 : decode b_X_tables 1 = .ok (.iconst 0, 1) := by decide +kernel
theorem d_X_tables_2 : decode b_X_tables 2 = .ok (.putfield 38, 3) := by decide +kernel
theorem d_X_tables_5 : decode b_X_tables 5 = .ok (.aload_n 0, 1) := by decide +kernel
theorem d_X_tables_6 : decode b_X_tables 6 = .ok (.iload_n 1, 1) := by decide +kernel
theorem d_X_tables_7 : decode b_X_tables 7 = .ok (.putfield 81, 3) := by decide +kernel
theorem d_X_tables_10 : decode b_X_tables 10 = .ok (.aload_n 0, 1) := by decide +kernel
theorem d_X_tables_11 : decode b_X_tables 11 = .ok (.iload_n 2, 1) := by decide +kernel
theorem d_X_tables_12 : decode b_X_tables 12 = .ok (.putfield 140, 3) := by decide +kernel
theorem d_X_tables_15 : decode b_X_tables 15 = .ok (.return_, 1) := by decide +kernel
theorem d_X_take_0 : decode b_X_take 0 = .ok (.aload_n 0, 1) := by decide +kernel
theorem d_X_take_1 : decode b_X_take 1 = .ok (.aload_n 0, 1) := by decide +kernel
theorem d_X_take_2 : decode b_X_take 2 = .ok (.getfield 78, 3) := by decide +kernel
theorem d_X_take_5 : decode b_X_take 5 = .ok (.ifCond .ne 8, 3) := by decide +kernel
theorem d_X_take_8 : decode b_X_take 8 = .ok (.iload_n 1, 1) := by decide +kernel
theorem d_X_take_9 : decode b_X_take 9 = .ok (.iconst 3, 1) := by decide +kernel
theorem d_X_take_10 : decode b_X_take 10 = .ok (.if_icmp .ne 7, 3) := by decide +kernel
theorem d_X_take_13 : decode b_X_take 13 = .ok (.iconst 1, 1) := by decide +kernel
theorem d_X_take_14 : decode b_X_take 14 = .ok (.goto 4, 3) := by decide +kernel
theorem d_X_take_17 : decode b_X_take 17 = .ok (.iconst 0, 1) := by decide +kernel
theorem d_X_take_18 : decode b_X_take 18 = .ok (.putfield 78, 3) := by decide +kernel
theorem d_X_take_21 : decode b_X_take 21 = .ok (.aload_n 0, 1) := by decide +kernel
theorem d_X_take_22 : decode b_X_take 22 = .ok (.iload_n 1, 1) := by decide +kernel
theorem d_X_take_23 : decode b_X_take 23 = .ok (.bipush 6, 2) := by decide +kernel
theorem d_X_take_25 : decode b_X_take 25 = .ok (.if_icmp .ne 14, 3) := by decide +kernel
theorem d_X_take_28 : decode b_X_take 28 = .ok (.aload_n 0, 1) := by decide +kernel
theorem d_X_take_29 : decode b_X_take 29 = .ok (.getfield 19, 3) := by decide +kernel
theorem d_X_take_32 : decode b_X_take 32 = .ok (.iconst 0, 1) := by decide +kernel
theorem d_X_take_33 : decode b_X_take 33 = .ok (.iaload, 1) := by decide +kernel
theorem d_X_take_34 : decode b_X_take 34 = .ok (.iconst 1, 1) := by decide +kernel
theorem d_X_take_35 : decode b_X_take 35 = .ok (.iadd, 1) := by decide +kernel
theorem d_X_take_36 : decode b_X_take 36 = .ok (.goto 9, 3) := by decide +kernel
theorem d_X_take_39 : decode b_X_take 39 = .ok (.aload_n 0, 1) := by decide +kernel
theorem d_X_take_40 : decode b_X_take 40 = .ok (.getfield 19, 3) := by decide +kernel
theorem d_X_take_43 : decode b_X_take 43 = .ok (.iconst 0, 1) := by decide +kernel
theorem d_X_take_44 : decode b_X_take 44 = .ok (.iaload, 1) := by decide +kernel
theorem d_X_take_45 : decode b_X_take 45 = .ok (.aload_n 0, 1) := by decide +kernel
theorem d_X_take_46 : decode b_X_take 46 = .ok (.getfield 81, 3) := by decide +kernel
theorem d_X_take_49 : decode b_X_take 49 = .ok (.iconst 4, 1) := by decide +kernel
theorem d_X_take_50 : decode b_X_take 50 = .ok (.iload_n 1, 1) := by decide +kernel
theorem d_X_take_51 : decode b_X_take 51 = .ok (.imul, 1) := by decide +kernel
theorem d_X_take_52 : decode b_X_take 52 = .ok (.iadd, 1) := by decide +kernel
theorem d_X_take_53 : decode b_X_take 53 = .ok (.invokevirtual 84, 3) := by decide +kernel
theorem d_X_take_56 : decode b_X_take 56 = .ok (.ifCond .eq 34, 3) := by decide +kernel
theorem d_X_take_59 : decode b_X_take 59 = .ok (.aload_n 0, 1) := by decide +kernel
theorem d_X_take_60 : decode b_X_take 60 = .ok (.getfield 13, 3) := by decide +kernel
theorem d_X_take_63 : decode b_X_take 63 = .ok (.bipush 7, 2) := by decide +kernel
theorem d_X_take_65 : decode b_X_take 65 = .ok (.iload_n 2, 1) := by decide +kernel
theorem d_X_take_66 : decode b_X_take 66 = .ok (.iastore, 1) := by decide +kernel
theorem d_X_take_67 : decode b_X_take 67 = .ok (.aload_n 0, 1) := by decide +kernel
theorem d_X_take_68 : decode b_X_take 68 = .ok (.dup, 1) := by decide +kernel
theorem d_X_take_69 : decode b_X_take 69 = .ok (.getfield 88, 3) := by decide +kernel
theorem d_X_take_72 : decode b_X_take 72 = .ok (.iconst 1, 1) := by decide +kernel
theorem d_X_take_73 : decode b_X_take 73 = .ok (.iadd, 1) := by decide +kernel
theorem d_X_take_74 : decode b_X_take 74 = .ok (.putfield 88, 3) := by decide +kernel
theorem d_X_take_77 : decode b_X_take 77 = .ok (.aload_n 0, 1) := by decide +kernel
theorem d_X_take_78 : decode b_X_take 78 = .ok (.bipush 16, 2) := by decide +kernel
theorem d_X_take_80 : decode b_X_take 80 = .ok (.iload_n 1, 1) := by decide +kernel
theorem d_X_take_81 : decode b_X_take 81 = .ok (.imul, 1) := by decide +kernel
theorem d_X_take_82 : decode b_X_take 82 = .ok (.iload_n 2, 1) := by decide +kernel
theorem d_X_take_83 : decode b_X_take 83 = .ok (.bipush 15, 2) := by decide +kernel
theorem d_X_take_85 : decode b_X_take 85 = .ok (.iand, 1) := by decide +kernel
theorem d_X_take_86 : decode b_X_take 86 = .ok (.iadd, 1) := by decide +kernel
theorem d_X_take_87 : decode b_X_take 87 = .ok (.putfield 35, 3) := by decide +kernel
theorem d_X_take_90 : decode b_X_take 90 = .ok (.return_, 1) := by decide +kernel
theorem d_X_thrown_0 : decode b_X_thrown 0 = .ok (.aload_n 0, 1) := by decide +kernel
theorem d_X_thrown_1 : decode b_X_thrown 1 = .ok (.getfield 38, 3) := by decide +kernel
theorem d_X_thrown_4 : decode b_X_thrown 4 = .ok (.ireturn, 1) := by decide +kernel
theorem d_X_timer_0 : decode b_X_timer 0 = .ok (.aload_n 0, 1) := by decide +kernel
theorem d_X_timer_1 : decode b_X_timer 1 = .ok (.iload_n 1, 1) := by decide +kernel
theorem d_X_timer_2 : decode b_X_timer 2 = .ok (.ifCond .lt 14, 3) := by decide +kernel
theorem d_X_timer_5 : decode b_X_timer 5 = .ok (.iload_n 2, 1) := by decide +kernel
theorem d_X_timer_6 : decode b_X_timer 6 = .ok (.iconst 1, 1) := by decide +kernel
theorem d_X_timer_7 : decode b_X_timer 7 = .ok (.if_icmp .lt 9, 3) := by decide +kernel
theorem d_X_timer_10 : decode b_X_timer 10 = .ok (.iload_n 2, 1) := by decide +kernel
theorem d_X_timer_11 : decode b_X_timer 11 = .ok (.bipush 15, 2) := by decide +kernel
theorem d_X_timer_13 : decode b_X_timer 13 = .ok (.if_icmp .le 7, 3) := by decide +kernel
theorem d_X_timer_16 : decode b_X_timer 16 = .ok (.iconst 1, 1) := by decide +kernel
theorem d_X_timer_17 : decode b_X_timer 17 = .ok (.goto 4, 3) := by decide +kernel
theorem d_X_timer_20 : decode b_X_timer 20 = .ok (.iconst 0, 1) := by decide +kernel
theorem d_X_timer_21 : decode b_X_timer 21 = .ok (.putfield 38, 3) := by decide +kernel
theorem d_X_timer_24 : decode b_X_timer 24 = .ok (.aload_n 0, 1) := by decide +kernel
theorem d_X_timer_25 : decode b_X_timer 25 = .ok (.getfield 38, 3) := by decide +kernel
theorem d_X_timer_28 : decode b_X_timer 28 = .ok (.ifCond .ne 13, 3) := by decide +kernel
theorem d_X_timer_31 : decode b_X_timer 31 = .ok (.aload_n 0, 1) := by decide +kernel
theorem d_X_timer_32 : decode b_X_timer 32 = .ok (.iload_n 1, 1) := by decide +kernel
theorem d_X_timer_33 : decode b_X_timer 33 = .ok (.putfield 134, 3) := by decide +kernel
theorem d_X_timer_36 : decode b_X_timer 36 = .ok (.aload_n 0, 1) := by decide +kernel
theorem d_X_timer_37 : decode b_X_timer 37 = .ok (.iload_n 2, 1) := by decide +kernel
theorem d_X_timer_38 : decode b_X_timer 38 = .ok (.putfield 22, 3) := by decide +kernel
theorem d_X_timer_41 : decode b_X_timer 41 = .ok (.return_, 1) := by decide +kernel
theorem d_X_word_0 : decode b_X_word 0 = .ok (.aload_n 0, 1) := by decide +kernel
theorem d_X_word_1 : decode b_X_word 1 = .ok (.iconst 0, 1) := by decide +kernel
theorem d_X_word_2 : decode b_X_word 2 = .ok (.putfield 38, 3) := by decide +kernel
theorem d_X_word_5 : decode b_X_word 5 = .ok (.iload_n 1, 1) := by decide +kernel
theorem d_X_word_6 : decode b_X_word 6 = .ok (.ifCond .lt 10, 3) := by decide +kernel
theorem d_X_word_9 : decode b_X_word 9 = .ok (.iload_n 1, 1) := by decide +kernel
theorem d_X_word_10 : decode b_X_word 10 = .ok (.sipush 512, 3) := by decide +kernel
theorem d_X_word_13 : decode b_X_word 13 = .ok (.if_icmp .lt 7, 3) := by decide +kernel
theorem d_X_word_16 : decode b_X_word 16 = .ok (.iconst 0, 1) := by decide +kernel
theorem d_X_word_17 : decode b_X_word 17 = .ok (.goto 9, 3) := by decide +kernel
theorem d_X_word_20 : decode b_X_word 20 = .ok (.aload_n 0, 1) := by decide +kernel
theorem d_X_word_21 : decode b_X_word 21 = .ok (.getfield 7, 3) := by decide +kernel
theorem d_X_word_24 : decode b_X_word 24 = .ok (.iload_n 1, 1) := by decide +kernel
theorem d_X_word_25 : decode b_X_word 25 = .ok (.iaload, 1) := by decide +kernel
theorem d_X_word_26 : decode b_X_word 26 = .ok (.ireturn, 1) := by decide +kernel
theorem d_X_wordsOf_0 : decode b_X_wordsOf 0 = .ok (.sipush 248, 3) := by decide +kernel
theorem d_X_wordsOf_3 : decode b_X_wordsOf 3 = .ok (.bipush 8, 2) := by decide +kernel
theorem d_X_wordsOf_5 : decode b_X_wordsOf 5 = .ok (.iload_n 0, 1) := by decide +kernel
theorem d_X_wordsOf_6 : decode b_X_wordsOf 6 = .ok (.imul, 1) := by decide +kernel
theorem d_X_wordsOf_7 : decode b_X_wordsOf 7 = .ok (.iadd, 1) := by decide +kernel
theorem d_X_wordsOf_8 : decode b_X_wordsOf 8 = .ok (.ireturn, 1) := by decide +kernel
end
section
set_option maxHeartbeats 4000000 in
set_option maxRecDepth 100000 in
theorem k_M_has (l : Launch) (D : va_G) (cI : ClassId) (sz : Nat) (a1 : Int32) : zMi l y_M_has (.code y_M_has b_M_has 1 (some .boolean) :: wd) { frames := 0, cells := 0, slots := 0, locals := 0 } D classes [] [.int a1] [] [] sz (s_M_has a1) := by
  refine met_i (by decide) (Nat.le_of_ble_eq_true rfl) (zz_nar (bo_M_has a1)) ?_
  intro p e s m args below meth c A Q ls hx hb hml hown hts hK hP hD hS hA hl hE
  have hl : lv_has ls 1 [(0, .int a1)] := hl
  have hown : s.vm.findClass R_M = some m.cls := hown
  refine lv_iload_n hx hb d_M_has_0 rfl (lv_at hl 0 rfl) ?_
  refine lv_if_lt (tgt := 15) hx hb d_M_has_1 (by decide) (fun h1 => ?_) (fun h1 => ?_)
  ·
    refine lv_iconst (v := (0 : Int32)) hx hb d_M_has_15 (by decide) ?_
    have hsp : s_M_has a1 = (0 : Int32) := (by unfold s_M_has; rw [if_pos h1])
    rw [hsp] at hE
    exact hE _ _ _ _ hP hD hS d_M_has_16
  ·
    refine lv_iload_n hx hb d_M_has_4 rfl (lv_at hl 0 rfl) ?_
    refine lv_sipush (v := (512 : Int32)) hx hb d_M_has_5 (by decide) ?_
    refine lv_icmp_ge (tgt := 15) hx hb d_M_has_8 (by decide) (fun h2 => ?_) (fun h2 => ?_)
    ·
      refine lv_iconst (v := (0 : Int32)) hx hb d_M_has_15 (by decide) ?_
      have hsp : s_M_has a1 = (0 : Int32) := (by unfold s_M_has; rw [if_neg h1, if_pos h2])
      rw [hsp] at hE
      exact hE _ _ _ _ hP hD hS d_M_has_16
    ·
      refine lv_iconst (v := (1 : Int32)) hx hb d_M_has_11 (by decide) ?_
      refine lv_goto (tgt := 16) hx hb d_M_has_12 (by decide) ?_
      have hsp : s_M_has a1 = (1 : Int32) := (by unfold s_M_has; rw [if_neg h1, if_neg h2])
      rw [hsp] at hE
      exact hE _ _ _ _ hP hD hS d_M_has_16
set_option maxHeartbeats 4000000 in
set_option maxRecDepth 100000 in
theorem k_M_isArea (l : Launch) (D : va_G) (cI : ClassId) (sz : Nat) (a1 : Int32) : zMi l y_M_isArea (.code y_M_isArea b_M_isArea 1 (some .boolean) :: wd) { frames := 0, cells := 0, slots := 0, locals := 0 } D classes [] [.int a1] [] [] sz (s_M_isArea a1) := by
  refine met_i (by decide) (Nat.le_of_ble_eq_true rfl) (zz_nar (bo_M_isArea a1)) ?_
  intro p e s m args below meth c A Q ls hx hb hml hown hts hK hP hD hS hA hl hE
  have hl : lv_has ls 1 [(0, .int a1)] := hl
  have hown : s.vm.findClass R_M = some m.cls := hown
  refine lv_iload_n hx hb d_M_isArea_0 rfl (lv_at hl 0 rfl) ?_
  refine lv_iconst (v := (1 : Int32)) hx hb d_M_isArea_1 (by decide) ?_
  refine lv_icmp_lt (tgt := 15) hx hb d_M_isArea_2 (by decide) (fun h1 => ?_) (fun h1 => ?_)
  ·
    refine lv_iconst (v := (0 : Int32)) hx hb d_M_isArea_15 (by decide) ?_
    have hsp : s_M_isArea a1 = (0 : Int32) := (by unfold s_M_isArea; rw [if_pos h1])
    rw [hsp] at hE
    exact hE _ _ _ _ hP hD hS d_M_isArea_16
  ·
    refine lv_iload_n hx hb d_M_isArea_5 rfl (lv_at hl 0 rfl) ?_
    refine lv_bipush (v := (24 : Int32)) hx hb d_M_isArea_6 (by decide) ?_
    refine lv_icmp_gt (tgt := 15) hx hb d_M_isArea_8 (by decide) (fun h2 => ?_) (fun h2 => ?_)
    ·
      refine lv_iconst (v := (0 : Int32)) hx hb d_M_isArea_15 (by decide) ?_
      have hsp : s_M_isArea a1 = (0 : Int32) := (by unfold s_M_isArea; rw [if_neg h1, if_pos h2])
      rw [hsp] at hE
      exact hE _ _ _ _ hP hD hS d_M_isArea_16
    ·
      refine lv_iconst (v := (1 : Int32)) hx hb d_M_isArea_11 (by decide) ?_
      refine lv_goto (tgt := 16) hx hb d_M_isArea_12 (by decide) ?_
      have hsp : s_M_isArea a1 = (1 : Int32) := (by unfold s_M_isArea; rw [if_neg h1, if_neg h2])
      rw [hsp] at hE
      exact hE _ _ _ _ hP hD hS d_M_isArea_16
set_option maxHeartbeats 4000000 in
set_option maxRecDepth 100000 in
theorem k_M_areaStart (l : Launch) (D : va_G) (cI : ClassId) (sz : Nat) (a1 : Int32) : zMi l y_M_areaStart (.code y_M_areaStart b_M_areaStart 1 (some .int) :: wd) { frames := 0, cells := 0, slots := 0, locals := 0 } D classes [] [.int a1] [] [] sz (s_M_areaStart a1) := by
  refine met_i (by decide) (Nat.le_of_ble_eq_true rfl) rfl ?_
  intro p e s m args below meth c A Q ls hx hb hml hown hts hK hP hD hS hA hl hE
  have hl : lv_has ls 1 [(0, .int a1)] := hl
  have hown : s.vm.findClass R_M = some m.cls := hown
  refine lv_sipush (v := (256 : Int32)) hx hb d_M_areaStart_0 (by decide) ?_
  refine lv_bipush (v := (8 : Int32)) hx hb d_M_areaStart_3 (by decide) ?_
  refine lv_iload_n hx hb d_M_areaStart_5 rfl (lv_at hl 0 rfl) ?_
  refine lv_iconst (v := (1 : Int32)) hx hb d_M_areaStart_6 (by decide) ?_
  refine lv_isub hx hb d_M_areaStart_7 ?_
  refine lv_imul hx hb d_M_areaStart_8 ?_
  refine lv_iadd hx hb d_M_areaStart_9 ?_
  have hsp : s_M_areaStart a1 = ((256 : Int32) + ((8 : Int32) * (a1 - (1 : Int32)))) := rfl
  rw [hsp] at hE
  exact hE _ _ _ _ hP hD hS d_M_areaStart_10
set_option maxHeartbeats 4000000 in
set_option maxRecDepth 100000 in
theorem k_M_read (l : Launch) (D : va_G) (cI : ClassId) (sz : Nat) (xM : Nat) (xW : Nat) (u_M : Nat → Int32) (a1 : Int32) : zMi l y_M_read (.code y_M_read b_M_read 2 (some .int) :: wd) { frames := 1, cells := 0, slots := 0, locals := 20 } D classes [(cI, .int)] [.ref xM, .int a1] [oM xM xW, ar cI xW 512 u_M] [oM xM xW, ar cI xW 512 u_M] sz (s_M_read u_M a1) := by
  refine met_i (by decide) (Nat.le_of_ble_eq_true rfl) rfl ?_
  intro p e s m args below meth c A Q ls hx hb hml hown hts hK hP hD hS hA hl hE
  have hl : lv_has ls 2 [(0, .ref xM), (1, .int a1)] := hl
  have hown : s.vm.findClass R_M = some m.cls := hown
  refine lv_iload_n hx hb d_M_read_0 rfl (lv_at hl 1 rfl) ?_
  refine zz_cS0 (rest := []) ⟨hx, hb, hml, hown, hts⟩ (k_M_has l D cI _ a1) g_M_read_M_has_15 nd_M_has ⟨⟨rfl, rfl⟩, Nat.le_of_ble_eq_true rfl, Nat.le_of_ble_eq_true rfl⟩ hK hP hD hS hA rfl rfl hl.1 (Nat.le_of_ble_eq_true rfl) d_M_read_1 ⟨Nat.zero_le _, Nat.zero_le _⟩ (fun H locs hP hD hS => ?_)
  refine lv_if_eq (tgt := 16) hx hb d_M_read_4 (by decide) (fun h1 => ?_) (fun h1 => ?_)
  ·
    refine lv_iconst (v := (0 : Int32)) hx hb d_M_read_16 (by decide) ?_
    have hsp : s_M_read u_M a1 = (0 : Int32) := (by unfold s_M_read; rw [if_pos h1])
    rw [hsp] at hE
    exact hE _ _ _ _ hP hD hS d_M_read_17
  ·
    refine lv_aload_n hx hb d_M_read_7 rfl (lv_at hl 0 rfl) ?_
    refine zz_get (C := R_M) (T := F_M) (N := 1) (v := .ref xW) hx hb hts in_M hown hK hP 0 rfl rfl 0 (by decide) mw_0 rfl d_M_read_8 ?_
    refine lv_iload_n hx hb d_M_read_11 rfl (lv_at hl 1 rfl) ?_
    refine va_iald hx hb hK hP 1 0 rfl rfl (in_has h1) d_M_read_12 ?_
    refine lv_goto (tgt := 17) hx hb d_M_read_13 (by decide) ?_
    have hsp : s_M_read u_M a1 = (u_M (ix a1)) := (by unfold s_M_read; rw [if_neg h1])
    rw [hsp] at hE
    exact hE _ _ _ _ hP hD hS d_M_read_17
set_option maxHeartbeats 4000000 in
set_option maxRecDepth 100000 in
theorem k_M_write (l : Launch) (D : va_G) (cI : ClassId) (sz : Nat) (xM : Nat) (xW : Nat) (u_M : Nat → Int32) (a1 : Int32) (a2 : Int32) : zMv l y_M_write (.code y_M_write b_M_write 3 (none) :: wd) { frames := 1, cells := 0, slots := 0, locals := 20 } D classes [(cI, .int)] [.ref xM, .int a1, .int a2] [oM xM xW, ar cI xW 512 u_M] [oM xM xW, ar cI xW 512 (s_M_write u_M a1 a2)] sz := by
  refine met_v (by decide) (Nat.le_of_ble_eq_true rfl) ?_
  intro p e s m args below meth c A Q ls hx hb hml hown hts hK hP hD hS hA hl hE
  have hl : lv_has ls 3 [(0, .ref xM), (1, .int a1), (2, .int a2)] := hl
  have hown : s.vm.findClass R_M = some m.cls := hown
  refine lv_iload_n hx hb d_M_write_0 rfl (lv_at hl 1 rfl) ?_
  refine zz_cS0 (rest := []) ⟨hx, hb, hml, hown, hts⟩ (k_M_has l D cI _ a1) g_M_write_M_has_15 nd_M_has ⟨⟨rfl, rfl⟩, Nat.le_of_ble_eq_true rfl, Nat.le_of_ble_eq_true rfl⟩ hK hP hD hS hA rfl rfl hl.1 (Nat.le_of_ble_eq_true rfl) d_M_write_1 ⟨Nat.zero_le _, Nat.zero_le _⟩ (fun H locs hP hD hS => ?_)
  refine lv_if_eq (tgt := 14) hx hb d_M_write_4 (by decide) (fun h1 => ?_) (fun h1 => ?_)
  ·
    have hsp : s_M_write u_M a1 a2 = u_M := (by unfold s_M_write; rw [if_pos h1])
    rw [hsp] at hE
    exact hE _ _ _ _ hP hD hS d_M_write_14
  ·
    refine lv_aload_n hx hb d_M_write_7 rfl (lv_at hl 0 rfl) ?_
    refine zz_get (C := R_M) (T := F_M) (N := 1) (v := .ref xW) hx hb hts in_M hown hK hP 0 rfl rfl 0 (by decide) mw_0 rfl d_M_write_8 ?_
    refine lv_iload_n hx hb d_M_write_11 rfl (lv_at hl 1 rfl) ?_
    refine lv_iload_n hx hb d_M_write_12 rfl (lv_at hl 2 rfl) ?_
    refine zz_iast (w' := [oM xM xW, ar cI xW 512 (upd u_M (ix a1) a2)]) hx hb hK hP hD hS 1 0 rfl rfl (in_has h1) d_M_write_13 rfl (fun H locs hP hD hS => ?_)
    have hsp : s_M_write u_M a1 a2 = (upd u_M (ix a1) a2) := (by unfold s_M_write; rw [if_neg h1])
    rw [hsp] at hE
    exact hE _ _ _ _ hP hD hS d_M_write_14
set_option maxHeartbeats 4000000 in
set_option maxRecDepth 100000 in
theorem k_M_chainAreas (l : Launch) (D : va_G) (cI : ClassId) (sz : Nat) (xM : Nat) (xW : Nat) (u_M : Nat → Int32) (a1 : Int32) (hn : ¬ (24 : Int32) < a1) : zMv l y_M_chainAreas (.code y_M_chainAreas b_M_chainAreas 3 (none) :: wd) { frames := 2, cells := 0, slots := 0, locals := 42 } D classes [(cI, .int)] [.ref xM, .int a1] [oM xM xW, ar cI xW 512 u_M] [oM xM xW, ar cI xW 512 (s_M_chainAreas u_M a1)] sz := by
  refine met_v (by decide) (Nat.le_of_ble_eq_true rfl) ?_
  intro p e s m args below meth c A Q ls hx hb hml hown hts hK hP hD hS hA hl hE
  have hl : lv_has ls 3 [(0, .ref xM), (1, .int a1)] := hl
  have hown : s.vm.findClass R_M = some m.cls := hown
  have LOOP : ∀ (n : Nat) (u_M' : Nat → Int32) (j : Nat) (ls : Array Slot) (H : Heap) (locs : List Loc), s_M_chainAreas u_M a1 = s_M_chainAreas_loop a1 n u_M' j → 25 < n + j → j ≤ 25 → lv_has ls 3 [(2, .int (nI j)), (0, .ref xM), (1, .int a1)] → va_P D classes [oM xM xW, ar cI xW 512 u_M'] H → va_D A [oM xM xW, ar cI xW 512 u_M'] → va_S A s.heap H locs → W p l e { frames := 2, cells := 0, slots := 0, locals := 42 } s m args below meth c H locs 0 0 Q (F0 m 2 ls []) := by
    intro n
    induction n with
    | zero => intro u_M' j ls H locs hres hf hj hl hP hD hS; exfalso; omega
    | succ n ih =>
      intro u_M' j ls H locs hres hf hj hl hP hD hS
      refine lv_iload_n hx hb d_M_chainAreas_2 rfl (lv_at hl 0 rfl) ?_
      refine lv_iload_n hx hb d_M_chainAreas_3 rfl (lv_at hl 2 rfl) ?_
      refine lv_icmp_gt (tgt := 33) hx hb d_M_chainAreas_4 (by decide) (fun h1 => ?_) (fun h1 => ?_)
      ·
        have hsp : s_M_chainAreas u_M a1 = u_M' := (hres.trans (by rw [s_M_chainAreas_loop]; rw [if_pos h1]))
        rw [hsp] at hE
        exact hE _ _ _ _ hP hD hS d_M_chainAreas_33
      ·
        refine lv_aload_n hx hb d_M_chainAreas_7 rfl (lv_at hl 1 rfl) ?_
        refine lv_iload_n hx hb d_M_chainAreas_8 rfl (lv_at hl 0 rfl) ?_
        refine zz_cS0 (rest := [.ref xM]) ⟨hx, hb, hml, hown, hts⟩ (k_M_areaStart l D cI _ (nI j)) g_M_chainAreas_M_areaStart_19 nd_M_areaStart ⟨⟨rfl, rfl⟩, Nat.le_of_ble_eq_true rfl, Nat.le_of_ble_eq_true rfl⟩ hK hP hD hS hA rfl rfl hl.1 (Nat.le_of_ble_eq_true rfl) d_M_chainAreas_9 ⟨Nat.zero_le _, Nat.zero_le _⟩ (fun H locs hP hD hS => ?_)
        refine lv_iload_n hx hb d_M_chainAreas_12 rfl (lv_at hl 0 rfl) ?_
        refine lv_iload_n hx hb d_M_chainAreas_13 rfl (lv_at hl 2 rfl) ?_
        have J14_2 : ∀ (vj14_0 : Int32) (ls : Array Slot) (H : Heap) (locs : List Loc), vj14_0 = (if (nI j) = a1 then (0 : Int32) else ((nI j) + (1 : Int32))) → lv_has ls 3 [(2, .int (nI j)), (0, .ref xM), (1, .int a1)] → va_P D classes [oM xM xW, ar cI xW 512 u_M'] H → va_D A [oM xM xW, ar cI xW 512 u_M'] → va_S A s.heap H locs → W p l e { frames := 2, cells := 0, slots := 0, locals := 42 } s m args below meth c H locs 0 0 Q (F0 m 24 ls [.int vj14_0, .int (s_M_areaStart (nI j)), .ref xM]) := by
          intro vj14_0 ls H locs evj14_0 hl hP hD hS
          subst evj14_0
          refine zz_cVv (rest := []) (wr := []) (w' := [oM xM xW, ar cI xW 512 (s_M_write u_M' (s_M_areaStart (nI j)) (if (nI j) = a1 then (0 : Int32) else ((nI j) + (1 : Int32))))]) ⟨hx, hb, hml, hown, hts⟩ (k_M_write l D cI _ xM xW u_M' (s_M_areaStart (nI j)) (if (nI j) = a1 then (0 : Int32) else ((nI j) + (1 : Int32)))) g_M_chainAreas_M_write_23 nv_M_write ⟨⟨rfl, rfl⟩, Nat.le_of_ble_eq_true rfl, Nat.le_of_ble_eq_true rfl⟩ hK [0] rfl hP hD hS hA [0, 1] [] [0, 1] rfl rfl rfl rfl (by decide) rfl rfl 0 0 rfl rfl rfl rfl hl.1 (Nat.le_of_ble_eq_true rfl) d_M_chainAreas_24 ⟨Nat.zero_le _, Nat.zero_le _⟩ (fun H locs hP hD hS => ?_)
          refine lv_iinc (v := (nI (j + 1))) (lv' := [(2, .int (nI (j + 1))), (0, .ref xM), (1, .int a1)]) (k := 0) hx hb d_M_chainAreas_27 hl rfl (nI_succ j).symm (by decide) rfl (fun ls hl => ?_)
          refine lv_goto (tgt := 2) hx hb d_M_chainAreas_30 (by decide) ?_
          exact ih (s_M_write u_M' (s_M_areaStart (nI j)) (if (nI j) = a1 then (0 : Int32) else ((nI j) + (1 : Int32)))) (j + 1) _ _ _ (hres.trans (by rw [s_M_chainAreas_loop]; rw [if_neg h1])) (by omega) (zz_chain hj hn h1) (lv_sub hl [0, 1, 2] rfl) hP hD hS
        refine lv_icmp_ne (tgt := 21) hx hb d_M_chainAreas_14 (by decide) (fun h2 => ?_) (fun h2 => ?_)
        ·
          refine lv_iload_n hx hb d_M_chainAreas_21 rfl (lv_at hl 0 rfl) ?_
          refine lv_iconst (v := (1 : Int32)) hx hb d_M_chainAreas_22 (by decide) ?_
          refine lv_iadd hx hb d_M_chainAreas_23 ?_
          exact J14_2 ((nI j) + (1 : Int32)) _ _ _ (by rw [if_neg h2]) (lv_sub hl [0, 1, 2] rfl) hP hD hS
        ·
          refine lv_iconst (v := (0 : Int32)) hx hb d_M_chainAreas_17 (by decide) ?_
          refine lv_goto (tgt := 24) hx hb d_M_chainAreas_18 (by decide) ?_
          exact J14_2 (0 : Int32) _ _ _ (by rw [if_pos h2]) (lv_sub hl [0, 1, 2] rfl) hP hD hS
  refine lv_iconst (v := (1 : Int32)) hx hb d_M_chainAreas_0 (by decide) ?_
  refine lv_istore_n (lv' := [(2, .int (1 : Int32)), (0, .ref xM), (1, .int a1)]) hx hb d_M_chainAreas_1 rfl hl (by decide) rfl (fun ls hl => ?_)
  exact LOOP 25 u_M 1 _ _ _ rfl (by decide) (by decide) (lv_sub hl [0, 1, 2] rfl) hP hD hS
set_option maxHeartbeats 4000000 in
set_option maxRecDepth 100000 in
theorem k_M_countAreas (l : Launch) (D : va_G) (cI : ClassId) (sz : Nat) (xM : Nat) (xW : Nat) (u_M : Nat → Int32) (a1 : Int32) : zMi l y_M_countAreas (.code y_M_countAreas b_M_countAreas 4 (some .int) :: wd) { frames := 2, cells := 0, slots := 0, locals := 41 } D classes [(cI, .int)] [.ref xM, .int a1] [oM xM xW, ar cI xW 512 u_M] [oM xM xW, ar cI xW 512 u_M] sz (s_M_countAreas u_M a1) := by
  refine met_i (by decide) (Nat.le_of_ble_eq_true rfl) rfl ?_
  intro p e s m args below meth c A Q ls hx hb hml hown hts hK hP hD hS hA hl hE
  have hl : lv_has ls 4 [(0, .ref xM), (1, .int a1)] := hl
  have hown : s.vm.findClass R_M = some m.cls := hown
  have LOOP : ∀ (n : Nat) (j : Nat) (x : Int32) (ls : Array Slot) (H : Heap) (locs : List Loc), s_M_countAreas u_M a1 = s_M_countAreas_loop u_M a1 n j x → 32 < n + j → j ≤ 32 → lv_has ls 4 [(3, .int (nI j)), (2, .int x), (0, .ref xM), (1, .int a1)] → va_P D classes [oM xM xW, ar cI xW 512 u_M] H → va_D A [oM xM xW, ar cI xW 512 u_M] → va_S A s.heap H locs → W p l e { frames := 2, cells := 0, slots := 0, locals := 41 } s m args below meth c H locs 0 0 Q (F0 m 7 ls []) := by
    intro n
    induction n with
    | zero => intro j x ls H locs hres hf hj hl hP hD hS; exfalso; omega
    | succ n ih =>
      intro j x ls H locs hres hf hj hl hP hD hS
      refine lv_iload_n hx hb d_M_countAreas_7 rfl (lv_at hl 0 rfl) ?_
      refine lv_bipush (v := (32 : Int32)) hx hb d_M_countAreas_8 (by decide) ?_
      refine lv_icmp_ge (tgt := 38) hx hb d_M_countAreas_10 (by decide) (fun h1 => ?_) (fun h1 => ?_)
      ·
        refine lv_iload_n hx hb d_M_countAreas_38 rfl (lv_at hl 0 rfl) ?_
        have hsp : s_M_countAreas u_M a1 = (nI j) := (hres.trans (by rw [s_M_countAreas_loop]; rw [if_pos h1]))
        rw [hsp] at hE
        exact hE _ _ _ _ hP hD hS d_M_countAreas_39
      ·
        refine lv_iload_n hx hb d_M_countAreas_13 rfl (lv_at hl 1 rfl) ?_
        refine zz_cS0 (rest := []) ⟨hx, hb, hml, hown, hts⟩ (k_M_isArea l D cI _ x) g_M_countAreas_M_isArea_27 nd_M_isArea ⟨⟨rfl, rfl⟩, Nat.le_of_ble_eq_true rfl, Nat.le_of_ble_eq_true rfl⟩ hK hP hD hS hA rfl rfl hl.1 (Nat.le_of_ble_eq_true rfl) d_M_countAreas_14 ⟨Nat.zero_le _, Nat.zero_le _⟩ (fun H locs hP hD hS => ?_)
        refine lv_if_eq (tgt := 38) hx hb d_M_countAreas_17 (by decide) (fun h2 => ?_) (fun h2 => ?_)
        ·
          refine lv_iload_n hx hb d_M_countAreas_38 rfl (lv_at hl 0 rfl) ?_
          have hsp : s_M_countAreas u_M a1 = (nI j) := (hres.trans (by rw [s_M_countAreas_loop]; rw [if_neg h1, if_pos h2]))
          rw [hsp] at hE
          exact hE _ _ _ _ hP hD hS d_M_countAreas_39
        ·
          refine lv_iinc (v := (nI (j + 1))) (lv' := [(3, .int (nI (j + 1))), (2, .int x), (0, .ref xM), (1, .int a1)]) (k := 0) hx hb d_M_countAreas_20 hl rfl (nI_succ j).symm (by decide) rfl (fun ls hl => ?_)
          refine lv_aload_n hx hb d_M_countAreas_23 rfl (lv_at hl 2 rfl) ?_
          refine lv_iload_n hx hb d_M_countAreas_24 rfl (lv_at hl 1 rfl) ?_
          refine zz_cS0 (rest := [.ref xM]) ⟨hx, hb, hml, hown, hts⟩ (k_M_areaStart l D cI _ x) g_M_countAreas_M_areaStart_19 nd_M_areaStart ⟨⟨rfl, rfl⟩, Nat.le_of_ble_eq_true rfl, Nat.le_of_ble_eq_true rfl⟩ hK hP hD hS hA rfl rfl hl.1 (Nat.le_of_ble_eq_true rfl) d_M_countAreas_25 ⟨Nat.zero_le _, Nat.zero_le _⟩ (fun H locs hP hD hS => ?_)
          refine zz_rVi (rest := []) ⟨hx, hb, hml, hown, hts⟩ (k_M_read l D cI _ xM xW u_M (s_M_areaStart x)) g_M_countAreas_M_read_30 nv_M_read ⟨⟨rfl, rfl⟩, Nat.le_of_ble_eq_true rfl, Nat.le_of_ble_eq_true rfl⟩ hK [0] rfl hP hD hS hA [0, 1] rfl rfl 0 0 rfl rfl rfl rfl hl.1 (Nat.le_of_ble_eq_true rfl) d_M_countAreas_28 ⟨Nat.zero_le _, Nat.zero_le _⟩ (fun H locs hP hD hS => ?_)
          refine lv_bipush (v := (31 : Int32)) hx hb d_M_countAreas_31 (by decide) ?_
          refine lv_iand hx hb d_M_countAreas_33 ?_
          refine lv_istore_n (lv' := [(2, .int ((s_M_read u_M (s_M_areaStart x)) &&& (31 : Int32))), (3, .int (nI (j + 1))), (0, .ref xM), (1, .int a1)]) hx hb d_M_countAreas_34 rfl hl (by decide) rfl (fun ls hl => ?_)
          refine lv_goto (tgt := 7) hx hb d_M_countAreas_35 (by decide) ?_
          exact ih (j + 1) ((s_M_read u_M (s_M_areaStart x)) &&& (31 : Int32)) _ _ _ (hres.trans (by rw [s_M_countAreas_loop]; rw [if_neg h1, if_neg h2])) (by omega) (zz_count hj h1) (lv_sub hl [1, 0, 2, 3] rfl) hP hD hS
  refine lv_iload_n hx hb d_M_countAreas_0 rfl (lv_at hl 1 rfl) ?_
  refine lv_bipush (v := (31 : Int32)) hx hb d_M_countAreas_1 (by decide) ?_
  refine lv_iand hx hb d_M_countAreas_3 ?_
  refine lv_istore_n (lv' := [(2, .int (a1 &&& (31 : Int32))), (0, .ref xM), (1, .int a1)]) hx hb d_M_countAreas_4 rfl hl (by decide) rfl (fun ls hl => ?_)
  refine lv_iconst (v := (0 : Int32)) hx hb d_M_countAreas_5 (by decide) ?_
  refine lv_istore_n (lv' := [(3, .int (0 : Int32)), (2, .int (a1 &&& (31 : Int32))), (0, .ref xM), (1, .int a1)]) hx hb d_M_countAreas_6 rfl hl (by decide) rfl (fun ls hl => ?_)
  exact LOOP 33 0 (a1 &&& (31 : Int32)) _ _ _ rfl (by decide) (by decide) (lv_sub hl [0, 1, 2, 3] rfl) hP hD hS
end
section
set_option maxHeartbeats 4000000 in
set_option maxRecDepth 100000 in
theorem k_R_state (l : Launch) (D : va_G) (cI : ClassId) (sz : Nat) (xR : Nat) (xD : Nat) (xA : Nat) (u_r : Nat → Int32) (u_d : Nat → Int32) (u_a : Nat → Int32) : zMi l y_R_state (.code y_R_state b_R_state 1 (some .int) :: wd) { frames := 0, cells := 0, slots := 0, locals := 0 } D classes [(cI, .int)] [.ref xR] [oR xR xD xA u_r, ar cI xD 8 u_d, ar cI xA 8 u_a] [oR xR xD xA u_r, ar cI xD 8 u_d, ar cI xA 8 u_a] sz (s_R_state u_r u_d u_a) := by
  refine met_i (by decide) (Nat.le_of_ble_eq_true rfl) rfl ?_
  intro p e s m args below meth c A Q ls hx hb hml hown hts hK hP hD hS hA hl hE
  have hl : lv_has ls 1 [(0, .ref xR)] := hl
  have hown : s.vm.findClass R_R = some m.cls := hown
  refine lv_aload_n hx hb d_R_state_0 rfl (lv_at hl 0 rfl) ?_
  refine zz_get (C := R_R) (T := F_R) (N := 12) (v := .int (u_r 4)) hx hb hts in_R hown hK hP 0 rfl rfl 6 (by decide) mw_1 rfl d_R_state_1 ?_
  refine lv_iconst (v := (4 : Int32)) hx hb d_R_state_4 (by decide) ?_
  refine lv_aload_n hx hb d_R_state_5 rfl (lv_at hl 0 rfl) ?_
  refine zz_get (C := R_R) (T := F_R) (N := 12) (v := .int (u_r 5)) hx hb hts in_R hown hK hP 0 rfl rfl 7 (by decide) mw_2 rfl d_R_state_6 ?_
  refine lv_imul hx hb d_R_state_9 ?_
  refine lv_iadd hx hb d_R_state_10 ?_
  refine lv_bipush (v := (8 : Int32)) hx hb d_R_state_11 (by decide) ?_
  refine lv_aload_n hx hb d_R_state_13 rfl (lv_at hl 0 rfl) ?_
  refine zz_get (C := R_R) (T := F_R) (N := 12) (v := .int (u_r 6)) hx hb hts in_R hown hK hP 0 rfl rfl 8 (by decide) mw_3 rfl d_R_state_14 ?_
  refine lv_imul hx hb d_R_state_17 ?_
  show W p l e _ s m args below meth c _ _ _ _ Q (F0 m 18 ls _)
  refine lv_iadd hx hb d_R_state_18 ?_
  have hsp : s_R_state u_r u_d u_a = (((u_r 4) + ((4 : Int32) * (u_r 5))) + ((8 : Int32) * (u_r 6))) := rfl
  rw [hsp] at hE
  exact hE _ _ _ _ hP hD hS d_R_state_19
set_option maxHeartbeats 4000000 in
set_option maxRecDepth 100000 in
theorem k_R_takeState (l : Launch) (D : va_G) (cI : ClassId) (sz : Nat) (xR : Nat) (xD : Nat) (xA : Nat) (u_r : Nat → Int32) (u_d : Nat → Int32) (u_a : Nat → Int32) (a1 : Int32) : zMv l y_R_takeState (.code y_R_takeState b_R_takeState 2 (none) :: wd) { frames := 0, cells := 0, slots := 0, locals := 0 } D classes [(cI, .int)] [.ref xR, .int a1] [oR xR xD xA u_r, ar cI xD 8 u_d, ar cI xA 8 u_a] [oR xR xD xA (s_R_takeState u_r u_d u_a a1), ar cI xD 8 u_d, ar cI xA 8 u_a] sz := by
  refine met_v (by decide) (Nat.le_of_ble_eq_true rfl) ?_
  intro p e s m args below meth c A Q ls hx hb hml hown hts hK hP hD hS hA hl hE
  have hl : lv_has ls 2 [(0, .ref xR), (1, .int a1)] := hl
  have hown : s.vm.findClass R_R = some m.cls := hown
  refine lv_aload_n hx hb d_R_takeState_0 rfl (lv_at hl 0 rfl) ?_
  refine lv_iload_n hx hb d_R_takeState_1 rfl (lv_at hl 1 rfl) ?_
  refine lv_iconst (v := (3 : Int32)) hx hb d_R_takeState_2 (by decide) ?_
  refine lv_iand hx hb d_R_takeState_3 ?_
  refine lv_iconst (v := (2 : Int32)) hx hb d_R_takeState_4 (by decide) ?_
  have J5_1 : ∀ (vj5_0 : Int32) (ls : Array Slot) (H : Heap) (locs : List Loc), vj5_0 = (if (a1 &&& (3 : Int32)) ≤ (2 : Int32) then (a1 &&& (3 : Int32)) else (2 : Int32)) → lv_has ls 2 [(0, .ref xR), (1, .int a1)] → va_P D classes [oR xR xD xA u_r, ar cI xD 8 u_d, ar cI xA 8 u_a] H → va_D A [oR xR xD xA u_r, ar cI xD 8 u_d, ar cI xA 8 u_a] → va_S A s.heap H locs → W p l e { frames := 0, cells := 0, slots := 0, locals := 0 } s m args below meth c H locs 0 0 Q (F0 m 15 ls [.int vj5_0, .ref xR]) := by
    intro vj5_0 ls H locs evj5_0 hl hP hD hS
    subst evj5_0
    refine zz_put (C := R_R) (T := F_R) (N := 12) (w' := [oR xR xD xA (upd u_r 4 (if (a1 &&& (3 : Int32)) ≤ (2 : Int32) then (a1 &&& (3 : Int32)) else (2 : Int32))), ar cI xD 8 u_d, ar cI xA 8 u_a]) hx hb hts in_R ty_R ty_R_ok n_R hown hK hP hD hS 0 rfl rfl 6 (by decide) mw_1 rfl rfl rfl (Nat.le_of_ble_eq_true rfl) d_R_takeState_15 rfl (fun H locs hP hD hS => ?_)
    refine lv_aload_n hx hb d_R_takeState_18 rfl (lv_at hl 0 rfl) ?_
    refine lv_iload_n hx hb d_R_takeState_19 rfl (lv_at hl 1 rfl) ?_
    refine lv_iconst (v := (2 : Int32)) hx hb d_R_takeState_20 (by decide) ?_
    refine lv_ishr hx hb d_R_takeState_21 ?_
    refine lv_iconst (v := (1 : Int32)) hx hb d_R_takeState_22 (by decide) ?_
    refine lv_iand hx hb d_R_takeState_23 ?_
    refine zz_put (C := R_R) (T := F_R) (N := 12) (w' := [oR xR xD xA (upd (upd u_r 4 (if (a1 &&& (3 : Int32)) ≤ (2 : Int32) then (a1 &&& (3 : Int32)) else (2 : Int32))) 5 ((a1 >>> ((2 : Int32) &&& 31)) &&& (1 : Int32))), ar cI xD 8 u_d, ar cI xA 8 u_a]) hx hb hts in_R ty_R ty_R_ok n_R hown hK hP hD hS 0 rfl rfl 7 (by decide) mw_2 rfl rfl rfl (Nat.le_of_ble_eq_true rfl) d_R_takeState_24 rfl (fun H locs hP hD hS => ?_)
    refine lv_aload_n hx hb d_R_takeState_27 rfl (lv_at hl 0 rfl) ?_
    refine lv_iload_n hx hb d_R_takeState_28 rfl (lv_at hl 1 rfl) ?_
    refine lv_iconst (v := (3 : Int32)) hx hb d_R_takeState_29 (by decide) ?_
    show W p l e _ s m args below meth c _ _ _ _ Q (F0 m 30 ls _)
    refine lv_ishr hx hb d_R_takeState_30 ?_
    refine lv_bipush (v := (15 : Int32)) hx hb d_R_takeState_31 (by decide) ?_
    refine lv_iand hx hb d_R_takeState_33 ?_
    refine zz_put (C := R_R) (T := F_R) (N := 12) (w' := [oR xR xD xA (upd (upd (upd u_r 4 (if (a1 &&& (3 : Int32)) ≤ (2 : Int32) then (a1 &&& (3 : Int32)) else (2 : Int32))) 5 ((a1 >>> ((2 : Int32) &&& 31)) &&& (1 : Int32))) 6 ((a1 >>> ((3 : Int32) &&& 31)) &&& (15 : Int32))), ar cI xD 8 u_d, ar cI xA 8 u_a]) hx hb hts in_R ty_R ty_R_ok n_R hown hK hP hD hS 0 rfl rfl 8 (by decide) mw_3 rfl rfl rfl (Nat.le_of_ble_eq_true rfl) d_R_takeState_34 rfl (fun H locs hP hD hS => ?_)
    have hsp : s_R_takeState u_r u_d u_a a1 = (upd (upd (upd u_r 4 (if (a1 &&& (3 : Int32)) ≤ (2 : Int32) then (a1 &&& (3 : Int32)) else (2 : Int32))) 5 ((a1 >>> ((2 : Int32) &&& 31)) &&& (1 : Int32))) 6 ((a1 >>> ((3 : Int32) &&& 31)) &&& (15 : Int32))) := rfl
    rw [hsp] at hE
    exact hE _ _ _ _ hP hD hS d_R_takeState_37
  refine lv_icmp_le (tgt := 12) hx hb d_R_takeState_5 (by decide) (fun h1 => ?_) (fun h1 => ?_)
  ·
    refine lv_iload_n hx hb d_R_takeState_12 rfl (lv_at hl 1 rfl) ?_
    refine lv_iconst (v := (3 : Int32)) hx hb d_R_takeState_13 (by decide) ?_
    refine lv_iand hx hb d_R_takeState_14 ?_
    exact J5_1 (a1 &&& (3 : Int32)) _ _ _ (by rw [if_pos h1]) (lv_sub hl [0, 1] rfl) hP hD hS
  ·
    refine lv_iconst (v := (2 : Int32)) hx hb d_R_takeState_8 (by decide) ?_
    refine lv_goto (tgt := 15) hx hb d_R_takeState_9 (by decide) ?_
    exact J5_1 (2 : Int32) _ _ _ (by rw [if_neg h1]) (lv_sub hl [0, 1] rfl) hP hD hS
set_option maxHeartbeats 4000000 in
set_option maxRecDepth 100000 in
theorem k_R_begin (l : Launch) (D : va_G) (cI : ClassId) (sz : Nat) (xR : Nat) (xD : Nat) (xA : Nat) (u_r : Nat → Int32) (u_d : Nat → Int32) (u_a : Nat → Int32) (a1 : Int32) (a2 : Int32) (a3 : Int32) (hb_a3 : a3 = 0 ∨ a3 = 1) : zMv l y_R_begin (.code y_R_begin b_R_begin 4 (none) :: wd) { frames := 0, cells := 0, slots := 0, locals := 0 } D classes [(cI, .int)] [.ref xR, .int a1, .int a2, .int a3] [oR xR xD xA u_r, ar cI xD 8 u_d, ar cI xA 8 u_a] [oR xR xD xA (s_R_begin u_r u_d u_a a1 a2 a3), ar cI xD 8 u_d, ar cI xA 8 u_a] sz := by
  refine met_v (by decide) (Nat.le_of_ble_eq_true rfl) ?_
  intro p e s m args below meth c A Q ls hx hb hml hown hts hK hP hD hS hA hl hE
  have hl : lv_has ls 4 [(0, .ref xR), (1, .int a1), (2, .int a2), (3, .int a3)] := hl
  have hown : s.vm.findClass R_R = some m.cls := hown
  refine lv_aload_n hx hb d_R_begin_0 rfl (lv_at hl 0 rfl) ?_
  refine lv_iload_n hx hb d_R_begin_1 rfl (lv_at hl 1 rfl) ?_
  refine zz_put (C := R_R) (T := F_R) (N := 12) (w' := [oR xR xD xA (upd u_r 0 a1), ar cI xD 8 u_d, ar cI xA 8 u_a]) hx hb hts in_R ty_R ty_R_ok n_R hown hK hP hD hS 0 rfl rfl 2 (by decide) mw_4 rfl rfl rfl (Nat.le_of_ble_eq_true rfl) d_R_begin_2 rfl (fun H locs hP hD hS => ?_)
  refine lv_aload_n hx hb d_R_begin_5 rfl (lv_at hl 0 rfl) ?_
  refine lv_iload_n hx hb d_R_begin_6 rfl (lv_at hl 2 rfl) ?_
  refine zz_put (C := R_R) (T := F_R) (N := 12) (w' := [oR xR xD xA (upd (upd u_r 0 a1) 4 a2), ar cI xD 8 u_d, ar cI xA 8 u_a]) hx hb hts in_R ty_R ty_R_ok n_R hown hK hP hD hS 0 rfl rfl 6 (by decide) mw_1 rfl rfl rfl (Nat.le_of_ble_eq_true rfl) d_R_begin_7 rfl (fun H locs hP hD hS => ?_)
  refine lv_aload_n hx hb d_R_begin_10 rfl (lv_at hl 0 rfl) ?_
  refine lv_iconst (v := (0 : Int32)) hx hb d_R_begin_11 (by decide) ?_
  refine zz_put (C := R_R) (T := F_R) (N := 12) (w' := [oR xR xD xA (upd (upd (upd u_r 0 a1) 4 a2) 5 (0 : Int32)), ar cI xD 8 u_d, ar cI xA 8 u_a]) hx hb hts in_R ty_R ty_R_ok n_R hown hK hP hD hS 0 rfl rfl 7 (by decide) mw_2 rfl rfl rfl (Nat.le_of_ble_eq_true rfl) d_R_begin_12 rfl (fun H locs hP hD hS => ?_)
  refine lv_aload_n hx hb d_R_begin_15 rfl (lv_at hl 0 rfl) ?_
  refine lv_iconst (v := (0 : Int32)) hx hb d_R_begin_16 (by decide) ?_
  show W p l e _ s m args below meth c _ _ _ _ Q (F0 m 17 ls _)
  refine zz_put (C := R_R) (T := F_R) (N := 12) (w' := [oR xR xD xA (upd (upd (upd (upd u_r 0 a1) 4 a2) 5 (0 : Int32)) 6 (0 : Int32)), ar cI xD 8 u_d, ar cI xA 8 u_a]) hx hb hts in_R ty_R ty_R_ok n_R hown hK hP hD hS 0 rfl rfl 8 (by decide) mw_3 rfl rfl rfl (Nat.le_of_ble_eq_true rfl) d_R_begin_17 rfl (fun H locs hP hD hS => ?_)
  refine lv_aload_n hx hb d_R_begin_20 rfl (lv_at hl 0 rfl) ?_
  refine lv_iconst (v := (0 : Int32)) hx hb d_R_begin_21 (by decide) ?_
  refine zz_put (C := R_R) (T := F_R) (N := 12) (w' := [oR xR xD xA (upd (upd (upd (upd (upd u_r 0 a1) 4 a2) 5 (0 : Int32)) 6 (0 : Int32)) 7 (0 : Int32)), ar cI xD 8 u_d, ar cI xA 8 u_a]) hx hb hts in_R ty_R ty_R_ok n_R hown hK hP hD hS 0 rfl rfl 9 (by decide) mw_5 rfl rfl rfl (Nat.le_of_ble_eq_true rfl) d_R_begin_22 rfl (fun H locs hP hD hS => ?_)
  refine lv_aload_n hx hb d_R_begin_25 rfl (lv_at hl 0 rfl) ?_
  refine lv_iload_n hx hb d_R_begin_26 rfl (lv_at hl 3 rfl) ?_
  refine zz_put (C := R_R) (T := F_R) (N := 12) (w' := [oR xR xD xA (upd (upd (upd (upd (upd (upd u_r 0 a1) 4 a2) 5 (0 : Int32)) 6 (0 : Int32)) 7 (0 : Int32)) 8 a3), ar cI xD 8 u_d, ar cI xA 8 u_a]) hx hb hts in_R ty_R ty_R_ok n_R hown hK hP hD hS 0 rfl rfl 10 (by decide) mw_6 rfl (zz_nar hb_a3) (zz_fit hb_a3) (Nat.le_of_ble_eq_true rfl) d_R_begin_27 rfl (fun H locs hP hD hS => ?_)
  have hsp : s_R_begin u_r u_d u_a a1 a2 a3 = (upd (upd (upd (upd (upd (upd u_r 0 a1) 4 a2) 5 (0 : Int32)) 6 (0 : Int32)) 7 (0 : Int32)) 8 a3) := rfl
  rw [hsp] at hE
  exact hE _ _ _ _ hP hD hS d_R_begin_30
set_option maxHeartbeats 4000000 in
set_option maxRecDepth 100000 in
theorem k_R_enterHandler (l : Launch) (D : va_G) (cI : ClassId) (sz : Nat) (xR : Nat) (xD : Nat) (xA : Nat) (u_r : Nat → Int32) (u_d : Nat → Int32) (u_a : Nat → Int32) (a1 : Int32) (a2 : Int32) : zMv l y_R_enterHandler (.code y_R_enterHandler b_R_enterHandler 3 (none) :: wd) { frames := 0, cells := 0, slots := 0, locals := 0 } D classes [(cI, .int)] [.ref xR, .int a1, .int a2] [oR xR xD xA u_r, ar cI xD 8 u_d, ar cI xA 8 u_a] [oR xR xD xA ((s_R_enterHandler u_r u_d u_a a1 a2).1), ar cI xD 8 u_d, ar cI xA 8 ((s_R_enterHandler u_r u_d u_a a1 a2).2)] sz := by
  refine met_v (by decide) (Nat.le_of_ble_eq_true rfl) ?_
  intro p e s m args below meth c A Q ls hx hb hml hown hts hK hP hD hS hA hl hE
  have hl : lv_has ls 3 [(0, .ref xR), (1, .int a1), (2, .int a2)] := hl
  have hown : s.vm.findClass R_R = some m.cls := hown
  refine lv_aload_n hx hb d_R_enterHandler_0 rfl (lv_at hl 0 rfl) ?_
  refine zz_get (C := R_R) (T := F_R) (N := 12) (v := .ref xA) hx hb hts in_R hown hK hP 0 rfl rfl 1 (by decide) mw_7 rfl d_R_enterHandler_1 ?_
  refine lv_bipush (v := (7 : Int32)) hx hb d_R_enterHandler_4 (by decide) ?_
  refine lv_iload_n hx hb d_R_enterHandler_6 rfl (lv_at hl 2 rfl) ?_
  refine zz_iast (w' := [oR xR xD xA u_r, ar cI xD 8 u_d, ar cI xA 8 (upd u_a (ix (7 : Int32)) a2)]) hx hb hK hP hD hS 2 0 rfl rfl (zz_inc (by decide)) d_R_enterHandler_7 rfl (fun H locs hP hD hS => ?_)
  refine lv_aload_n hx hb d_R_enterHandler_8 rfl (lv_at hl 0 rfl) ?_
  refine lv_iconst (v := (2 : Int32)) hx hb d_R_enterHandler_9 (by decide) ?_
  refine zz_put (C := R_R) (T := F_R) (N := 12) (w' := [oR xR xD xA (upd u_r 4 (2 : Int32)), ar cI xD 8 u_d, ar cI xA 8 (upd u_a (ix (7 : Int32)) a2)]) hx hb hts in_R ty_R ty_R_ok n_R hown hK hP hD hS 0 rfl rfl 6 (by decide) mw_1 rfl rfl rfl (Nat.le_of_ble_eq_true rfl) d_R_enterHandler_10 rfl (fun H locs hP hD hS => ?_)
  refine lv_aload_n hx hb d_R_enterHandler_13 rfl (lv_at hl 0 rfl) ?_
  refine lv_iconst (v := (0 : Int32)) hx hb d_R_enterHandler_14 (by decide) ?_
  refine zz_put (C := R_R) (T := F_R) (N := 12) (w' := [oR xR xD xA (upd (upd u_r 4 (2 : Int32)) 5 (0 : Int32)), ar cI xD 8 u_d, ar cI xA 8 (upd u_a (ix (7 : Int32)) a2)]) hx hb hts in_R ty_R ty_R_ok n_R hown hK hP hD hS 0 rfl rfl 7 (by decide) mw_2 rfl rfl rfl (Nat.le_of_ble_eq_true rfl) d_R_enterHandler_15 rfl (fun H locs hP hD hS => ?_)
  show W p l e _ s m args below meth c _ _ _ _ Q (F0 m 18 ls _)
  refine lv_aload_n hx hb d_R_enterHandler_18 rfl (lv_at hl 0 rfl) ?_
  refine lv_iconst (v := (0 : Int32)) hx hb d_R_enterHandler_19 (by decide) ?_
  refine zz_put (C := R_R) (T := F_R) (N := 12) (w' := [oR xR xD xA (upd (upd (upd u_r 4 (2 : Int32)) 5 (0 : Int32)) 6 (0 : Int32)), ar cI xD 8 u_d, ar cI xA 8 (upd u_a (ix (7 : Int32)) a2)]) hx hb hts in_R ty_R ty_R_ok n_R hown hK hP hD hS 0 rfl rfl 8 (by decide) mw_3 rfl rfl rfl (Nat.le_of_ble_eq_true rfl) d_R_enterHandler_20 rfl (fun H locs hP hD hS => ?_)
  refine lv_aload_n hx hb d_R_enterHandler_23 rfl (lv_at hl 0 rfl) ?_
  refine lv_iconst (v := (0 : Int32)) hx hb d_R_enterHandler_24 (by decide) ?_
  refine zz_put (C := R_R) (T := F_R) (N := 12) (w' := [oR xR xD xA (upd (upd (upd (upd u_r 4 (2 : Int32)) 5 (0 : Int32)) 6 (0 : Int32)) 8 (0 : Int32)), ar cI xD 8 u_d, ar cI xA 8 (upd u_a (ix (7 : Int32)) a2)]) hx hb hts in_R ty_R ty_R_ok n_R hown hK hP hD hS 0 rfl rfl 10 (by decide) mw_6 rfl rfl rfl (Nat.le_of_ble_eq_true rfl) d_R_enterHandler_25 rfl (fun H locs hP hD hS => ?_)
  refine lv_aload_n hx hb d_R_enterHandler_28 rfl (lv_at hl 0 rfl) ?_
  refine lv_iload_n hx hb d_R_enterHandler_29 rfl (lv_at hl 1 rfl) ?_
  refine zz_put (C := R_R) (T := F_R) (N := 12) (w' := [oR xR xD xA (upd (upd (upd (upd (upd u_r 4 (2 : Int32)) 5 (0 : Int32)) 6 (0 : Int32)) 8 (0 : Int32)) 0 a1), ar cI xD 8 u_d, ar cI xA 8 (upd u_a (ix (7 : Int32)) a2)]) hx hb hts in_R ty_R ty_R_ok n_R hown hK hP hD hS 0 rfl rfl 2 (by decide) mw_4 rfl rfl rfl (Nat.le_of_ble_eq_true rfl) d_R_enterHandler_30 rfl (fun H locs hP hD hS => ?_)
  have hsp : s_R_enterHandler u_r u_d u_a a1 a2 = (upd (upd (upd (upd (upd u_r 4 (2 : Int32)) 5 (0 : Int32)) 6 (0 : Int32)) 8 (0 : Int32)) 0 a1, upd u_a (ix (7 : Int32)) a2) := rfl
  rw [hsp] at hE
  exact hE _ _ _ _ hP hD hS d_R_enterHandler_33
set_option maxHeartbeats 4000000 in
set_option maxRecDepth 100000 in
theorem k_R_keepU (l : Launch) (D : va_G) (cI : ClassId) (sz : Nat) (xR : Nat) (xD : Nat) (xA : Nat) (xM : Nat) (xW : Nat) (u_r : Nat → Int32) (u_d : Nat → Int32) (u_a : Nat → Int32) (u_M : Nat → Int32) : zMi l y_R_keep (.code y_R_keep b_R_keep 7 (some .boolean) :: wd) { frames := 2, cells := 0, slots := 0, locals := 42 } D classes [(cI, .int)] [.ref xR, .ref xM, .int (1 : Int32)] [oR xR xD xA u_r, ar cI xD 8 u_d, ar cI xA 8 u_a, oM xM xW, ar cI xW 512 u_M] [oR xR xD xA ((s_R_keepU u_r u_d u_a u_M).2.1), ar cI xD 8 u_d, ar cI xA 8 u_a, oM xM xW, ar cI xW 512 ((s_R_keepU u_r u_d u_a u_M).2.2)] sz (s_R_keepU u_r u_d u_a u_M).1 := by
  refine met_i (by decide) (Nat.le_of_ble_eq_true rfl) (zz_nar (bo_R_keepU u_r u_d u_a u_M)) ?_
  intro p e s m args below meth c A Q ls hx hb hml hown hts hK hP hD hS hA hl hE
  have hl : lv_has ls 7 [(0, .ref xR), (1, .ref xM), (2, .int (1 : Int32))] := hl
  have hown : s.vm.findClass R_R = some m.cls := hown
  refine lv_aload_n hx hb d_R_keep_0 rfl (lv_at hl 0 rfl) ?_
  refine zz_get (C := R_R) (T := F_R) (N := 12) (v := .int (u_r 1)) hx hb hts in_R hown hK hP 0 rfl rfl 3 (by decide) mw_8 rfl d_R_keep_1 ?_
  refine lv_bipush (v := (31 : Int32)) hx hb d_R_keep_4 (by decide) ?_
  refine lv_iand hx hb d_R_keep_6 ?_
  refine lv_istore_n (lv' := [(3, .int ((u_r 1) &&& (31 : Int32))), (0, .ref xR), (1, .ref xM), (2, .int (1 : Int32))]) hx hb d_R_keep_7 rfl hl (by decide) rfl (fun ls hl => ?_)
  refine lv_iload_n hx hb d_R_keep_8 rfl (lv_at hl 0 rfl) ?_
  refine zz_cS0 (rest := []) ⟨hx, hb, hml, hown, hts⟩ (k_M_isArea l D cI _ ((u_r 1) &&& (31 : Int32))) g_R_keep_M_isArea_41 nd_M_isArea ⟨⟨rfl, rfl⟩, Nat.le_of_ble_eq_true rfl, Nat.le_of_ble_eq_true rfl⟩ hK hP hD hS hA rfl rfl hl.1 (Nat.le_of_ble_eq_true rfl) d_R_keep_9 ⟨Nat.zero_le _, Nat.zero_le _⟩ (fun H locs hP hD hS => ?_)
  refine lv_if_ne (tgt := 17) hx hb d_R_keep_12 (by decide) (fun h1 => ?_) (fun h1 => ?_)
  ·
    refine lv_iload_n hx hb d_R_keep_17 rfl (lv_at hl 0 rfl) ?_
    refine zz_cS0 (rest := []) ⟨hx, hb, hml, hown, hts⟩ (k_M_areaStart l D cI _ ((u_r 1) &&& (31 : Int32))) g_R_keep_M_areaStart_47 nd_M_areaStart ⟨⟨rfl, rfl⟩, Nat.le_of_ble_eq_true rfl, Nat.le_of_ble_eq_true rfl⟩ hK hP hD hS hA rfl rfl hl.1 (Nat.le_of_ble_eq_true rfl) d_R_keep_18 ⟨Nat.zero_le _, Nat.zero_le _⟩ (fun H locs hP hD hS => ?_)
    refine lv_istore (lv' := [(4, .int (s_M_areaStart ((u_r 1) &&& (31 : Int32)))), (3, .int ((u_r 1) &&& (31 : Int32))), (0, .ref xR), (1, .ref xM), (2, .int (1 : Int32))]) hx hb d_R_keep_21 hl (by decide) rfl (fun ls hl => ?_)
    refine lv_aload_n hx hb d_R_keep_23 rfl (lv_at hl 2 rfl) ?_
    refine lv_aload_n hx hb d_R_keep_24 rfl (lv_at hl 3 rfl) ?_
    refine lv_iload hx hb d_R_keep_25 (lv_at hl 0 rfl) ?_
    refine zz_rVi (rest := [.ref xR]) ⟨hx, hb, hml, hown, hts⟩ (k_M_read l D cI _ xM xW u_M (s_M_areaStart ((u_r 1) &&& (31 : Int32)))) g_R_keep_M_read_51 nv_M_read ⟨⟨rfl, rfl⟩, Nat.le_of_ble_eq_true rfl, Nat.le_of_ble_eq_true rfl⟩ hK [0] rfl hP hD hS hA [3, 4] rfl rfl 3 0 rfl rfl rfl rfl hl.1 (Nat.le_of_ble_eq_true rfl) d_R_keep_27 ⟨Nat.zero_le _, Nat.zero_le _⟩ (fun H locs hP hD hS => ?_)
    refine zz_put (C := R_R) (T := F_R) (N := 12) (w' := [oR xR xD xA (upd u_r 1 (s_M_read u_M (s_M_areaStart ((u_r 1) &&& (31 : Int32))))), ar cI xD 8 u_d, ar cI xA 8 u_a, oM xM xW, ar cI xW 512 u_M]) hx hb hts in_R ty_R ty_R_ok n_R hown hK hP hD hS 0 rfl rfl 3 (by decide) mw_8 rfl rfl rfl (Nat.le_of_ble_eq_true rfl) d_R_keep_30 rfl (fun H locs hP hD hS => ?_)
    refine lv_aload_n hx hb d_R_keep_33 rfl (lv_at hl 3 rfl) ?_
    refine lv_iload hx hb d_R_keep_34 (lv_at hl 0 rfl) ?_
    refine lv_aload_n hx hb d_R_keep_36 rfl (lv_at hl 2 rfl) ?_
    show W p l e _ s m args below meth c _ _ _ _ Q (F0 m 37 ls _)
    refine zz_get (C := R_R) (T := F_R) (N := 12) (v := .int (u_r 3)) hx hb hts in_R hown hK hP 0 rfl rfl 5 (by decide) mw_9 rfl d_R_keep_37 ?_
    refine zz_cVv (rest := []) (wr := [oR xR xD xA (upd u_r 1 (s_M_read u_M (s_M_areaStart ((u_r 1) &&& (31 : Int32))))), ar cI xD 8 u_d, ar cI xA 8 u_a]) (w' := [oR xR xD xA (upd u_r 1 (s_M_read u_M (s_M_areaStart ((u_r 1) &&& (31 : Int32))))), ar cI xD 8 u_d, ar cI xA 8 u_a, oM xM xW, ar cI xW 512 (s_M_write u_M (s_M_areaStart ((u_r 1) &&& (31 : Int32))) (u_r 3))]) ⟨hx, hb, hml, hown, hts⟩ (k_M_write l D cI _ xM xW u_M (s_M_areaStart ((u_r 1) &&& (31 : Int32))) (u_r 3)) g_R_keep_M_write_57 nv_M_write ⟨⟨rfl, rfl⟩, Nat.le_of_ble_eq_true rfl, Nat.le_of_ble_eq_true rfl⟩ hK [0] rfl hP hD hS hA [3, 4] [0, 1, 2] [0, 1, 2, 3, 4] rfl rfl rfl rfl (by decide) rfl rfl 3 0 rfl rfl rfl rfl hl.1 (Nat.le_of_ble_eq_true rfl) d_R_keep_40 ⟨Nat.zero_le _, Nat.zero_le _⟩ (fun H locs hP hD hS => ?_)
    refine lv_aload_n hx hb d_R_keep_43 rfl (lv_at hl 3 rfl) ?_
    refine lv_iload hx hb d_R_keep_44 (lv_at hl 0 rfl) ?_
    refine lv_iconst (v := (1 : Int32)) hx hb d_R_keep_46 (by decide) ?_
    refine lv_iadd hx hb d_R_keep_47 ?_
    refine lv_iload_n hx hb d_R_keep_48 rfl (lv_at hl 4 rfl) ?_
    refine lv_if_eq (tgt := 59) hx hb d_R_keep_49 (by decide) (fun hh => absurd hh (by decide)) (fun _ => ?_)
    refine lv_aload_n hx hb d_R_keep_52 rfl (lv_at hl 2 rfl) ?_
    refine zz_rVi (rest := [.int ((s_M_areaStart ((u_r 1) &&& (31 : Int32))) + (1 : Int32)), .ref xM]) ⟨hx, hb, hml, hown, hts⟩ (k_R_state l D cI _ xR xD xA (upd u_r 1 (s_M_read u_M (s_M_areaStart ((u_r 1) &&& (31 : Int32))))) u_d u_a) g_R_keep_R_state_61 nv_R_state ⟨⟨rfl, rfl⟩, Nat.le_of_ble_eq_true rfl, Nat.le_of_ble_eq_true rfl⟩ hK [0] rfl hP hD hS hA [0, 1, 2] rfl rfl 0 1 rfl rfl rfl rfl hl.1 (Nat.le_of_ble_eq_true rfl) d_R_keep_53 ⟨Nat.zero_le _, Nat.zero_le _⟩ (fun H locs hP hD hS => ?_)
    refine lv_goto (tgt := 66) hx hb d_R_keep_56 (by decide) ?_
    refine zz_cVv (rest := []) (wr := [oR xR xD xA (upd u_r 1 (s_M_read u_M (s_M_areaStart ((u_r 1) &&& (31 : Int32))))), ar cI xD 8 u_d, ar cI xA 8 u_a]) (w' := [oR xR xD xA (upd u_r 1 (s_M_read u_M (s_M_areaStart ((u_r 1) &&& (31 : Int32))))), ar cI xD 8 u_d, ar cI xA 8 u_a, oM xM xW, ar cI xW 512 (s_M_write (s_M_write u_M (s_M_areaStart ((u_r 1) &&& (31 : Int32))) (u_r 3)) ((s_M_areaStart ((u_r 1) &&& (31 : Int32))) + (1 : Int32)) (s_R_state (upd u_r 1 (s_M_read u_M (s_M_areaStart ((u_r 1) &&& (31 : Int32))))) u_d u_a))]) ⟨hx, hb, hml, hown, hts⟩ (k_M_write l D cI _ xM xW (s_M_write u_M (s_M_areaStart ((u_r 1) &&& (31 : Int32))) (u_r 3)) ((s_M_areaStart ((u_r 1) &&& (31 : Int32))) + (1 : Int32)) (s_R_state (upd u_r 1 (s_M_read u_M (s_M_areaStart ((u_r 1) &&& (31 : Int32))))) u_d u_a)) g_R_keep_M_write_57 nv_M_write ⟨⟨rfl, rfl⟩, Nat.le_of_ble_eq_true rfl, Nat.le_of_ble_eq_true rfl⟩ hK [0] rfl hP hD hS hA [3, 4] [0, 1, 2] [0, 1, 2, 3, 4] rfl rfl rfl rfl (by decide) rfl rfl 3 0 rfl rfl rfl rfl hl.1 (Nat.le_of_ble_eq_true rfl) d_R_keep_66 ⟨Nat.zero_le _, Nat.zero_le _⟩ (fun H locs hP hD hS => ?_)
    refine lv_aload_n hx hb d_R_keep_69 rfl (lv_at hl 3 rfl) ?_
    refine lv_iload hx hb d_R_keep_70 (lv_at hl 0 rfl) ?_
    refine lv_iconst (v := (2 : Int32)) hx hb d_R_keep_72 (by decide) ?_
    refine lv_iadd hx hb d_R_keep_73 ?_
    refine lv_iload_n hx hb d_R_keep_74 rfl (lv_at hl 4 rfl) ?_
    refine lv_if_eq (tgt := 88) hx hb d_R_keep_75 (by decide) (fun hh => absurd hh (by decide)) (fun _ => ?_)
    refine lv_aload_n hx hb d_R_keep_78 rfl (lv_at hl 2 rfl) ?_
    refine zz_get (C := R_R) (T := F_R) (N := 12) (v := .ref xA) hx hb hts in_R hown hK hP 0 rfl rfl 1 (by decide) mw_7 rfl d_R_keep_79 ?_
    refine lv_bipush (v := (6 : Int32)) hx hb d_R_keep_82 (by decide) ?_
    refine va_iald hx hb hK hP 2 0 rfl rfl (zz_inc (by decide)) d_R_keep_84 ?_
    refine lv_goto (tgt := 94) hx hb d_R_keep_85 (by decide) ?_
    refine zz_cVv (rest := []) (wr := [oR xR xD xA (upd u_r 1 (s_M_read u_M (s_M_areaStart ((u_r 1) &&& (31 : Int32))))), ar cI xD 8 u_d, ar cI xA 8 u_a]) (w' := [oR xR xD xA (upd u_r 1 (s_M_read u_M (s_M_areaStart ((u_r 1) &&& (31 : Int32))))), ar cI xD 8 u_d, ar cI xA 8 u_a, oM xM xW, ar cI xW 512 (s_M_write (s_M_write (s_M_write u_M (s_M_areaStart ((u_r 1) &&& (31 : Int32))) (u_r 3)) ((s_M_areaStart ((u_r 1) &&& (31 : Int32))) + (1 : Int32)) (s_R_state (upd u_r 1 (s_M_read u_M (s_M_areaStart ((u_r 1) &&& (31 : Int32))))) u_d u_a)) ((s_M_areaStart ((u_r 1) &&& (31 : Int32))) + (2 : Int32)) (u_a (ix (6 : Int32))))]) ⟨hx, hb, hml, hown, hts⟩ (k_M_write l D cI _ xM xW (s_M_write (s_M_write u_M (s_M_areaStart ((u_r 1) &&& (31 : Int32))) (u_r 3)) ((s_M_areaStart ((u_r 1) &&& (31 : Int32))) + (1 : Int32)) (s_R_state (upd u_r 1 (s_M_read u_M (s_M_areaStart ((u_r 1) &&& (31 : Int32))))) u_d u_a)) ((s_M_areaStart ((u_r 1) &&& (31 : Int32))) + (2 : Int32)) (u_a (ix (6 : Int32)))) g_R_keep_M_write_57 nv_M_write ⟨⟨rfl, rfl⟩, Nat.le_of_ble_eq_true rfl, Nat.le_of_ble_eq_true rfl⟩ hK [0] rfl hP hD hS hA [3, 4] [0, 1, 2] [0, 1, 2, 3, 4] rfl rfl rfl rfl (by decide) rfl rfl 3 0 rfl rfl rfl rfl hl.1 (Nat.le_of_ble_eq_true rfl) d_R_keep_94 ⟨Nat.zero_le _, Nat.zero_le _⟩ (fun H locs hP hD hS => ?_)
    refine lv_aload_n hx hb d_R_keep_97 rfl (lv_at hl 3 rfl) ?_
    refine lv_iload hx hb d_R_keep_98 (lv_at hl 0 rfl) ?_
    refine lv_iconst (v := (3 : Int32)) hx hb d_R_keep_100 (by decide) ?_
    refine lv_iadd hx hb d_R_keep_101 ?_
    refine lv_iload_n hx hb d_R_keep_102 rfl (lv_at hl 4 rfl) ?_
    show W p l e _ s m args below meth c _ _ _ _ Q (F0 m 103 ls _)
    refine lv_if_eq (tgt := 116) hx hb d_R_keep_103 (by decide) (fun hh => absurd hh (by decide)) (fun _ => ?_)
    refine lv_aload_n hx hb d_R_keep_106 rfl (lv_at hl 2 rfl) ?_
    refine zz_get (C := R_R) (T := F_R) (N := 12) (v := .ref xA) hx hb hts in_R hown hK hP 0 rfl rfl 1 (by decide) mw_7 rfl d_R_keep_107 ?_
    refine lv_bipush (v := (7 : Int32)) hx hb d_R_keep_110 (by decide) ?_
    refine va_iald hx hb hK hP 2 0 rfl rfl (zz_inc (by decide)) d_R_keep_112 ?_
    refine lv_goto (tgt := 122) hx hb d_R_keep_113 (by decide) ?_
    refine zz_cVv (rest := []) (wr := [oR xR xD xA (upd u_r 1 (s_M_read u_M (s_M_areaStart ((u_r 1) &&& (31 : Int32))))), ar cI xD 8 u_d, ar cI xA 8 u_a]) (w' := [oR xR xD xA (upd u_r 1 (s_M_read u_M (s_M_areaStart ((u_r 1) &&& (31 : Int32))))), ar cI xD 8 u_d, ar cI xA 8 u_a, oM xM xW, ar cI xW 512 (s_M_write (s_M_write (s_M_write (s_M_write u_M (s_M_areaStart ((u_r 1) &&& (31 : Int32))) (u_r 3)) ((s_M_areaStart ((u_r 1) &&& (31 : Int32))) + (1 : Int32)) (s_R_state (upd u_r 1 (s_M_read u_M (s_M_areaStart ((u_r 1) &&& (31 : Int32))))) u_d u_a)) ((s_M_areaStart ((u_r 1) &&& (31 : Int32))) + (2 : Int32)) (u_a (ix (6 : Int32)))) ((s_M_areaStart ((u_r 1) &&& (31 : Int32))) + (3 : Int32)) (u_a (ix (7 : Int32))))]) ⟨hx, hb, hml, hown, hts⟩ (k_M_write l D cI _ xM xW (s_M_write (s_M_write (s_M_write u_M (s_M_areaStart ((u_r 1) &&& (31 : Int32))) (u_r 3)) ((s_M_areaStart ((u_r 1) &&& (31 : Int32))) + (1 : Int32)) (s_R_state (upd u_r 1 (s_M_read u_M (s_M_areaStart ((u_r 1) &&& (31 : Int32))))) u_d u_a)) ((s_M_areaStart ((u_r 1) &&& (31 : Int32))) + (2 : Int32)) (u_a (ix (6 : Int32)))) ((s_M_areaStart ((u_r 1) &&& (31 : Int32))) + (3 : Int32)) (u_a (ix (7 : Int32)))) g_R_keep_M_write_57 nv_M_write ⟨⟨rfl, rfl⟩, Nat.le_of_ble_eq_true rfl, Nat.le_of_ble_eq_true rfl⟩ hK [0] rfl hP hD hS hA [3, 4] [0, 1, 2] [0, 1, 2, 3, 4] rfl rfl rfl rfl (by decide) rfl rfl 3 0 rfl rfl rfl rfl hl.1 (Nat.le_of_ble_eq_true rfl) d_R_keep_122 ⟨Nat.zero_le _, Nat.zero_le _⟩ (fun H locs hP hD hS => ?_)
    refine lv_iload_n hx hb d_R_keep_125 rfl (lv_at hl 4 rfl) ?_
    refine lv_if_eq (tgt := 133) hx hb d_R_keep_126 (by decide) (fun hh => absurd hh (by decide)) (fun _ => ?_)
    refine lv_iconst (v := (4 : Int32)) hx hb d_R_keep_129 (by decide) ?_
    refine lv_goto (tgt := 134) hx hb d_R_keep_130 (by decide) ?_
    refine lv_istore (lv' := [(5, .int (4 : Int32)), (4, .int (s_M_areaStart ((u_r 1) &&& (31 : Int32)))), (3, .int ((u_r 1) &&& (31 : Int32))), (0, .ref xR), (1, .ref xM), (2, .int (1 : Int32))]) hx hb d_R_keep_134 hl (by decide) rfl (fun ls hl => ?_)
    refine lv_iconst (v := (0 : Int32)) hx hb d_R_keep_136 (by decide) ?_
    refine lv_istore (lv' := [(6, .int (0 : Int32)), (5, .int (4 : Int32)), (4, .int (s_M_areaStart ((u_r 1) &&& (31 : Int32)))), (3, .int ((u_r 1) &&& (31 : Int32))), (0, .ref xR), (1, .ref xM), (2, .int (1 : Int32))]) hx hb d_R_keep_137 hl (by decide) rfl (fun ls hl => ?_)
    refine lv_iload hx hb d_R_keep_139 (lv_at hl 0 rfl) ?_
    refine lv_iconst (v := (4 : Int32)) hx hb d_R_keep_141 (by decide) ?_
    refine lv_icmp_ge (tgt := 172) hx hb d_R_keep_142 (by decide) (fun hh => absurd hh (by decide)) (fun _ => ?_)
    refine lv_aload_n hx hb d_R_keep_145 rfl (lv_at hl 5 rfl) ?_
    refine lv_iload hx hb d_R_keep_146 (lv_at hl 2 rfl) ?_
    refine lv_iconst (v := (4 : Int32)) hx hb d_R_keep_148 (by decide) ?_
    refine lv_iadd hx hb d_R_keep_149 ?_
    refine lv_iload hx hb d_R_keep_150 (lv_at hl 0 rfl) ?_
    refine lv_iadd hx hb d_R_keep_152 ?_
    refine lv_aload_n hx hb d_R_keep_153 rfl (lv_at hl 4 rfl) ?_
    refine zz_get (C := R_R) (T := F_R) (N := 12) (v := .ref xD) hx hb hts in_R hown hK hP 0 rfl rfl 0 (by decide) mw_10 rfl d_R_keep_154 ?_
    refine lv_iload hx hb d_R_keep_157 (lv_at hl 1 rfl) ?_
    refine lv_iload hx hb d_R_keep_159 (lv_at hl 0 rfl) ?_
    refine lv_iadd hx hb d_R_keep_161 ?_
    refine lv_topi (fun zz ez => ?_)
    obtain rfl : zz = (4 : Int32) := ez.trans (by decide)
    show W p l e _ s m args below meth c _ _ _ _ Q (F0 m 162 ls _)
    refine va_iald hx hb hK hP 1 0 rfl rfl (zz_inc (by decide)) d_R_keep_162 ?_
    refine zz_cVv (rest := []) (wr := [oR xR xD xA (upd u_r 1 (s_M_read u_M (s_M_areaStart ((u_r 1) &&& (31 : Int32))))), ar cI xD 8 u_d, ar cI xA 8 u_a]) (w' := [oR xR xD xA (upd u_r 1 (s_M_read u_M (s_M_areaStart ((u_r 1) &&& (31 : Int32))))), ar cI xD 8 u_d, ar cI xA 8 u_a, oM xM xW, ar cI xW 512 (s_M_write (s_M_write (s_M_write (s_M_write (s_M_write u_M (s_M_areaStart ((u_r 1) &&& (31 : Int32))) (u_r 3)) ((s_M_areaStart ((u_r 1) &&& (31 : Int32))) + (1 : Int32)) (s_R_state (upd u_r 1 (s_M_read u_M (s_M_areaStart ((u_r 1) &&& (31 : Int32))))) u_d u_a)) ((s_M_areaStart ((u_r 1) &&& (31 : Int32))) + (2 : Int32)) (u_a (ix (6 : Int32)))) ((s_M_areaStart ((u_r 1) &&& (31 : Int32))) + (3 : Int32)) (u_a (ix (7 : Int32)))) (((s_M_areaStart ((u_r 1) &&& (31 : Int32))) + (4 : Int32)) + (0 : Int32)) (u_d (ix (4 : Int32))))]) ⟨hx, hb, hml, hown, hts⟩ (k_M_write l D cI _ xM xW (s_M_write (s_M_write (s_M_write (s_M_write u_M (s_M_areaStart ((u_r 1) &&& (31 : Int32))) (u_r 3)) ((s_M_areaStart ((u_r 1) &&& (31 : Int32))) + (1 : Int32)) (s_R_state (upd u_r 1 (s_M_read u_M (s_M_areaStart ((u_r 1) &&& (31 : Int32))))) u_d u_a)) ((s_M_areaStart ((u_r 1) &&& (31 : Int32))) + (2 : Int32)) (u_a (ix (6 : Int32)))) ((s_M_areaStart ((u_r 1) &&& (31 : Int32))) + (3 : Int32)) (u_a (ix (7 : Int32)))) (((s_M_areaStart ((u_r 1) &&& (31 : Int32))) + (4 : Int32)) + (0 : Int32)) (u_d (ix (4 : Int32)))) g_R_keep_M_write_57 nv_M_write ⟨⟨rfl, rfl⟩, Nat.le_of_ble_eq_true rfl, Nat.le_of_ble_eq_true rfl⟩ hK [0] rfl hP hD hS hA [3, 4] [0, 1, 2] [0, 1, 2, 3, 4] rfl rfl rfl rfl (by decide) rfl rfl 3 0 rfl rfl rfl rfl hl.1 (Nat.le_of_ble_eq_true rfl) d_R_keep_163 ⟨Nat.zero_le _, Nat.zero_le _⟩ (fun H locs hP hD hS => ?_)
    refine lv_iinc (v := (1 : Int32)) (lv' := [(6, .int (1 : Int32)), (5, .int (4 : Int32)), (4, .int (s_M_areaStart ((u_r 1) &&& (31 : Int32)))), (3, .int ((u_r 1) &&& (31 : Int32))), (0, .ref xR), (1, .ref xM), (2, .int (1 : Int32))]) (k := 0) hx hb d_R_keep_166 hl rfl (by decide) (by decide) rfl (fun ls hl => ?_)
    refine lv_goto (tgt := 139) hx hb d_R_keep_169 (by decide) ?_
    refine lv_iload hx hb d_R_keep_139 (lv_at hl 0 rfl) ?_
    refine lv_iconst (v := (4 : Int32)) hx hb d_R_keep_141 (by decide) ?_
    refine lv_icmp_ge (tgt := 172) hx hb d_R_keep_142 (by decide) (fun hh => absurd hh (by decide)) (fun _ => ?_)
    refine lv_aload_n hx hb d_R_keep_145 rfl (lv_at hl 5 rfl) ?_
    refine lv_iload hx hb d_R_keep_146 (lv_at hl 2 rfl) ?_
    refine lv_iconst (v := (4 : Int32)) hx hb d_R_keep_148 (by decide) ?_
    refine lv_iadd hx hb d_R_keep_149 ?_
    refine lv_iload hx hb d_R_keep_150 (lv_at hl 0 rfl) ?_
    refine lv_iadd hx hb d_R_keep_152 ?_
    refine lv_aload_n hx hb d_R_keep_153 rfl (lv_at hl 4 rfl) ?_
    refine zz_get (C := R_R) (T := F_R) (N := 12) (v := .ref xD) hx hb hts in_R hown hK hP 0 rfl rfl 0 (by decide) mw_10 rfl d_R_keep_154 ?_
    refine lv_iload hx hb d_R_keep_157 (lv_at hl 1 rfl) ?_
    refine lv_iload hx hb d_R_keep_159 (lv_at hl 0 rfl) ?_
    refine lv_iadd hx hb d_R_keep_161 ?_
    refine lv_topi (fun zz ez => ?_)
    obtain rfl : zz = (5 : Int32) := ez.trans (by decide)
    show W p l e _ s m args below meth c _ _ _ _ Q (F0 m 162 ls _)
    refine va_iald hx hb hK hP 1 0 rfl rfl (zz_inc (by decide)) d_R_keep_162 ?_
    refine zz_cVv (rest := []) (wr := [oR xR xD xA (upd u_r 1 (s_M_read u_M (s_M_areaStart ((u_r 1) &&& (31 : Int32))))), ar cI xD 8 u_d, ar cI xA 8 u_a]) (w' := [oR xR xD xA (upd u_r 1 (s_M_read u_M (s_M_areaStart ((u_r 1) &&& (31 : Int32))))), ar cI xD 8 u_d, ar cI xA 8 u_a, oM xM xW, ar cI xW 512 (s_M_write (s_M_write (s_M_write (s_M_write (s_M_write (s_M_write u_M (s_M_areaStart ((u_r 1) &&& (31 : Int32))) (u_r 3)) ((s_M_areaStart ((u_r 1) &&& (31 : Int32))) + (1 : Int32)) (s_R_state (upd u_r 1 (s_M_read u_M (s_M_areaStart ((u_r 1) &&& (31 : Int32))))) u_d u_a)) ((s_M_areaStart ((u_r 1) &&& (31 : Int32))) + (2 : Int32)) (u_a (ix (6 : Int32)))) ((s_M_areaStart ((u_r 1) &&& (31 : Int32))) + (3 : Int32)) (u_a (ix (7 : Int32)))) (((s_M_areaStart ((u_r 1) &&& (31 : Int32))) + (4 : Int32)) + (0 : Int32)) (u_d (ix (4 : Int32)))) (((s_M_areaStart ((u_r 1) &&& (31 : Int32))) + (4 : Int32)) + (1 : Int32)) (u_d (ix (5 : Int32))))]) ⟨hx, hb, hml, hown, hts⟩ (k_M_write l D cI _ xM xW (s_M_write (s_M_write (s_M_write (s_M_write (s_M_write u_M (s_M_areaStart ((u_r 1) &&& (31 : Int32))) (u_r 3)) ((s_M_areaStart ((u_r 1) &&& (31 : Int32))) + (1 : Int32)) (s_R_state (upd u_r 1 (s_M_read u_M (s_M_areaStart ((u_r 1) &&& (31 : Int32))))) u_d u_a)) ((s_M_areaStart ((u_r 1) &&& (31 : Int32))) + (2 : Int32)) (u_a (ix (6 : Int32)))) ((s_M_areaStart ((u_r 1) &&& (31 : Int32))) + (3 : Int32)) (u_a (ix (7 : Int32)))) (((s_M_areaStart ((u_r 1) &&& (31 : Int32))) + (4 : Int32)) + (0 : Int32)) (u_d (ix (4 : Int32)))) (((s_M_areaStart ((u_r 1) &&& (31 : Int32))) + (4 : Int32)) + (1 : Int32)) (u_d (ix (5 : Int32)))) g_R_keep_M_write_57 nv_M_write ⟨⟨rfl, rfl⟩, Nat.le_of_ble_eq_true rfl, Nat.le_of_ble_eq_true rfl⟩ hK [0] rfl hP hD hS hA [3, 4] [0, 1, 2] [0, 1, 2, 3, 4] rfl rfl rfl rfl (by decide) rfl rfl 3 0 rfl rfl rfl rfl hl.1 (Nat.le_of_ble_eq_true rfl) d_R_keep_163 ⟨Nat.zero_le _, Nat.zero_le _⟩ (fun H locs hP hD hS => ?_)
    refine lv_iinc (v := (2 : Int32)) (lv' := [(6, .int (2 : Int32)), (5, .int (4 : Int32)), (4, .int (s_M_areaStart ((u_r 1) &&& (31 : Int32)))), (3, .int ((u_r 1) &&& (31 : Int32))), (0, .ref xR), (1, .ref xM), (2, .int (1 : Int32))]) (k := 0) hx hb d_R_keep_166 hl rfl (by decide) (by decide) rfl (fun ls hl => ?_)
    refine lv_goto (tgt := 139) hx hb d_R_keep_169 (by decide) ?_
    refine lv_iload hx hb d_R_keep_139 (lv_at hl 0 rfl) ?_
    refine lv_iconst (v := (4 : Int32)) hx hb d_R_keep_141 (by decide) ?_
    refine lv_icmp_ge (tgt := 172) hx hb d_R_keep_142 (by decide) (fun hh => absurd hh (by decide)) (fun _ => ?_)
    refine lv_aload_n hx hb d_R_keep_145 rfl (lv_at hl 5 rfl) ?_
    refine lv_iload hx hb d_R_keep_146 (lv_at hl 2 rfl) ?_
    refine lv_iconst (v := (4 : Int32)) hx hb d_R_keep_148 (by decide) ?_
    refine lv_iadd hx hb d_R_keep_149 ?_
    refine lv_iload hx hb d_R_keep_150 (lv_at hl 0 rfl) ?_
    refine lv_iadd hx hb d_R_keep_152 ?_
    refine lv_aload_n hx hb d_R_keep_153 rfl (lv_at hl 4 rfl) ?_
    refine zz_get (C := R_R) (T := F_R) (N := 12) (v := .ref xD) hx hb hts in_R hown hK hP 0 rfl rfl 0 (by decide) mw_10 rfl d_R_keep_154 ?_
    refine lv_iload hx hb d_R_keep_157 (lv_at hl 1 rfl) ?_
    refine lv_iload hx hb d_R_keep_159 (lv_at hl 0 rfl) ?_
    refine lv_iadd hx hb d_R_keep_161 ?_
    refine lv_topi (fun zz ez => ?_)
    obtain rfl : zz = (6 : Int32) := ez.trans (by decide)
    show W p l e _ s m args below meth c _ _ _ _ Q (F0 m 162 ls _)
    refine va_iald hx hb hK hP 1 0 rfl rfl (zz_inc (by decide)) d_R_keep_162 ?_
    refine zz_cVv (rest := []) (wr := [oR xR xD xA (upd u_r 1 (s_M_read u_M (s_M_areaStart ((u_r 1) &&& (31 : Int32))))), ar cI xD 8 u_d, ar cI xA 8 u_a]) (w' := [oR xR xD xA (upd u_r 1 (s_M_read u_M (s_M_areaStart ((u_r 1) &&& (31 : Int32))))), ar cI xD 8 u_d, ar cI xA 8 u_a, oM xM xW, ar cI xW 512 (s_M_write (s_M_write (s_M_write (s_M_write (s_M_write (s_M_write (s_M_write u_M (s_M_areaStart ((u_r 1) &&& (31 : Int32))) (u_r 3)) ((s_M_areaStart ((u_r 1) &&& (31 : Int32))) + (1 : Int32)) (s_R_state (upd u_r 1 (s_M_read u_M (s_M_areaStart ((u_r 1) &&& (31 : Int32))))) u_d u_a)) ((s_M_areaStart ((u_r 1) &&& (31 : Int32))) + (2 : Int32)) (u_a (ix (6 : Int32)))) ((s_M_areaStart ((u_r 1) &&& (31 : Int32))) + (3 : Int32)) (u_a (ix (7 : Int32)))) (((s_M_areaStart ((u_r 1) &&& (31 : Int32))) + (4 : Int32)) + (0 : Int32)) (u_d (ix (4 : Int32)))) (((s_M_areaStart ((u_r 1) &&& (31 : Int32))) + (4 : Int32)) + (1 : Int32)) (u_d (ix (5 : Int32)))) (((s_M_areaStart ((u_r 1) &&& (31 : Int32))) + (4 : Int32)) + (2 : Int32)) (u_d (ix (6 : Int32))))]) ⟨hx, hb, hml, hown, hts⟩ (k_M_write l D cI _ xM xW (s_M_write (s_M_write (s_M_write (s_M_write (s_M_write (s_M_write u_M (s_M_areaStart ((u_r 1) &&& (31 : Int32))) (u_r 3)) ((s_M_areaStart ((u_r 1) &&& (31 : Int32))) + (1 : Int32)) (s_R_state (upd u_r 1 (s_M_read u_M (s_M_areaStart ((u_r 1) &&& (31 : Int32))))) u_d u_a)) ((s_M_areaStart ((u_r 1) &&& (31 : Int32))) + (2 : Int32)) (u_a (ix (6 : Int32)))) ((s_M_areaStart ((u_r 1) &&& (31 : Int32))) + (3 : Int32)) (u_a (ix (7 : Int32)))) (((s_M_areaStart ((u_r 1) &&& (31 : Int32))) + (4 : Int32)) + (0 : Int32)) (u_d (ix (4 : Int32)))) (((s_M_areaStart ((u_r 1) &&& (31 : Int32))) + (4 : Int32)) + (1 : Int32)) (u_d (ix (5 : Int32)))) (((s_M_areaStart ((u_r 1) &&& (31 : Int32))) + (4 : Int32)) + (2 : Int32)) (u_d (ix (6 : Int32)))) g_R_keep_M_write_57 nv_M_write ⟨⟨rfl, rfl⟩, Nat.le_of_ble_eq_true rfl, Nat.le_of_ble_eq_true rfl⟩ hK [0] rfl hP hD hS hA [3, 4] [0, 1, 2] [0, 1, 2, 3, 4] rfl rfl rfl rfl (by decide) rfl rfl 3 0 rfl rfl rfl rfl hl.1 (Nat.le_of_ble_eq_true rfl) d_R_keep_163 ⟨Nat.zero_le _, Nat.zero_le _⟩ (fun H locs hP hD hS => ?_)
    refine lv_iinc (v := (3 : Int32)) (lv' := [(6, .int (3 : Int32)), (5, .int (4 : Int32)), (4, .int (s_M_areaStart ((u_r 1) &&& (31 : Int32)))), (3, .int ((u_r 1) &&& (31 : Int32))), (0, .ref xR), (1, .ref xM), (2, .int (1 : Int32))]) (k := 0) hx hb d_R_keep_166 hl rfl (by decide) (by decide) rfl (fun ls hl => ?_)
    refine lv_goto (tgt := 139) hx hb d_R_keep_169 (by decide) ?_
    refine lv_iload hx hb d_R_keep_139 (lv_at hl 0 rfl) ?_
    refine lv_iconst (v := (4 : Int32)) hx hb d_R_keep_141 (by decide) ?_
    refine lv_icmp_ge (tgt := 172) hx hb d_R_keep_142 (by decide) (fun hh => absurd hh (by decide)) (fun _ => ?_)
    refine lv_aload_n hx hb d_R_keep_145 rfl (lv_at hl 5 rfl) ?_
    refine lv_iload hx hb d_R_keep_146 (lv_at hl 2 rfl) ?_
    refine lv_iconst (v := (4 : Int32)) hx hb d_R_keep_148 (by decide) ?_
    refine lv_iadd hx hb d_R_keep_149 ?_
    refine lv_iload hx hb d_R_keep_150 (lv_at hl 0 rfl) ?_
    refine lv_iadd hx hb d_R_keep_152 ?_
    refine lv_aload_n hx hb d_R_keep_153 rfl (lv_at hl 4 rfl) ?_
    refine zz_get (C := R_R) (T := F_R) (N := 12) (v := .ref xD) hx hb hts in_R hown hK hP 0 rfl rfl 0 (by decide) mw_10 rfl d_R_keep_154 ?_
    refine lv_iload hx hb d_R_keep_157 (lv_at hl 1 rfl) ?_
    refine lv_iload hx hb d_R_keep_159 (lv_at hl 0 rfl) ?_
    refine lv_iadd hx hb d_R_keep_161 ?_
    refine lv_topi (fun zz ez => ?_)
    obtain rfl : zz = (7 : Int32) := ez.trans (by decide)
    show W p l e _ s m args below meth c _ _ _ _ Q (F0 m 162 ls _)
    refine va_iald hx hb hK hP 1 0 rfl rfl (zz_inc (by decide)) d_R_keep_162 ?_
    refine zz_cVv (rest := []) (wr := [oR xR xD xA (upd u_r 1 (s_M_read u_M (s_M_areaStart ((u_r 1) &&& (31 : Int32))))), ar cI xD 8 u_d, ar cI xA 8 u_a]) (w' := [oR xR xD xA (upd u_r 1 (s_M_read u_M (s_M_areaStart ((u_r 1) &&& (31 : Int32))))), ar cI xD 8 u_d, ar cI xA 8 u_a, oM xM xW, ar cI xW 512 (s_M_write (s_M_write (s_M_write (s_M_write (s_M_write (s_M_write (s_M_write (s_M_write u_M (s_M_areaStart ((u_r 1) &&& (31 : Int32))) (u_r 3)) ((s_M_areaStart ((u_r 1) &&& (31 : Int32))) + (1 : Int32)) (s_R_state (upd u_r 1 (s_M_read u_M (s_M_areaStart ((u_r 1) &&& (31 : Int32))))) u_d u_a)) ((s_M_areaStart ((u_r 1) &&& (31 : Int32))) + (2 : Int32)) (u_a (ix (6 : Int32)))) ((s_M_areaStart ((u_r 1) &&& (31 : Int32))) + (3 : Int32)) (u_a (ix (7 : Int32)))) (((s_M_areaStart ((u_r 1) &&& (31 : Int32))) + (4 : Int32)) + (0 : Int32)) (u_d (ix (4 : Int32)))) (((s_M_areaStart ((u_r 1) &&& (31 : Int32))) + (4 : Int32)) + (1 : Int32)) (u_d (ix (5 : Int32)))) (((s_M_areaStart ((u_r 1) &&& (31 : Int32))) + (4 : Int32)) + (2 : Int32)) (u_d (ix (6 : Int32)))) (((s_M_areaStart ((u_r 1) &&& (31 : Int32))) + (4 : Int32)) + (3 : Int32)) (u_d (ix (7 : Int32))))]) ⟨hx, hb, hml, hown, hts⟩ (k_M_write l D cI _ xM xW (s_M_write (s_M_write (s_M_write (s_M_write (s_M_write (s_M_write (s_M_write u_M (s_M_areaStart ((u_r 1) &&& (31 : Int32))) (u_r 3)) ((s_M_areaStart ((u_r 1) &&& (31 : Int32))) + (1 : Int32)) (s_R_state (upd u_r 1 (s_M_read u_M (s_M_areaStart ((u_r 1) &&& (31 : Int32))))) u_d u_a)) ((s_M_areaStart ((u_r 1) &&& (31 : Int32))) + (2 : Int32)) (u_a (ix (6 : Int32)))) ((s_M_areaStart ((u_r 1) &&& (31 : Int32))) + (3 : Int32)) (u_a (ix (7 : Int32)))) (((s_M_areaStart ((u_r 1) &&& (31 : Int32))) + (4 : Int32)) + (0 : Int32)) (u_d (ix (4 : Int32)))) (((s_M_areaStart ((u_r 1) &&& (31 : Int32))) + (4 : Int32)) + (1 : Int32)) (u_d (ix (5 : Int32)))) (((s_M_areaStart ((u_r 1) &&& (31 : Int32))) + (4 : Int32)) + (2 : Int32)) (u_d (ix (6 : Int32)))) (((s_M_areaStart ((u_r 1) &&& (31 : Int32))) + (4 : Int32)) + (3 : Int32)) (u_d (ix (7 : Int32)))) g_R_keep_M_write_57 nv_M_write ⟨⟨rfl, rfl⟩, Nat.le_of_ble_eq_true rfl, Nat.le_of_ble_eq_true rfl⟩ hK [0] rfl hP hD hS hA [3, 4] [0, 1, 2] [0, 1, 2, 3, 4] rfl rfl rfl rfl (by decide) rfl rfl 3 0 rfl rfl rfl rfl hl.1 (Nat.le_of_ble_eq_true rfl) d_R_keep_163 ⟨Nat.zero_le _, Nat.zero_le _⟩ (fun H locs hP hD hS => ?_)
    refine lv_iinc (v := (4 : Int32)) (lv' := [(6, .int (4 : Int32)), (5, .int (4 : Int32)), (4, .int (s_M_areaStart ((u_r 1) &&& (31 : Int32)))), (3, .int ((u_r 1) &&& (31 : Int32))), (0, .ref xR), (1, .ref xM), (2, .int (1 : Int32))]) (k := 0) hx hb d_R_keep_166 hl rfl (by decide) (by decide) rfl (fun ls hl => ?_)
    refine lv_goto (tgt := 139) hx hb d_R_keep_169 (by decide) ?_
    refine lv_iload hx hb d_R_keep_139 (lv_at hl 0 rfl) ?_
    refine lv_iconst (v := (4 : Int32)) hx hb d_R_keep_141 (by decide) ?_
    refine lv_icmp_ge (tgt := 172) hx hb d_R_keep_142 (by decide) (fun _ => ?_) (fun hh => absurd hh (by decide))
    refine lv_aload_n hx hb d_R_keep_172 rfl (lv_at hl 4 rfl) ?_
    refine lv_iload_n hx hb d_R_keep_173 rfl (lv_at hl 3 rfl) ?_
    refine lv_iload_n hx hb d_R_keep_174 rfl (lv_at hl 6 rfl) ?_
    refine lv_if_eq (tgt := 183) hx hb d_R_keep_175 (by decide) (fun hh => absurd hh (by decide)) (fun _ => ?_)
    refine lv_bipush (v := (32 : Int32)) hx hb d_R_keep_178 (by decide) ?_
    refine lv_goto (tgt := 184) hx hb d_R_keep_180 (by decide) ?_
    refine lv_iadd hx hb d_R_keep_184 ?_
    refine lv_sipush (v := (256 : Int32)) hx hb d_R_keep_185 (by decide) ?_
    refine lv_aload_n hx hb d_R_keep_188 rfl (lv_at hl 4 rfl) ?_
    refine zz_get (C := R_R) (T := F_R) (N := 12) (v := .int (u_r 7)) hx hb hts in_R hown hK hP 0 rfl rfl 9 (by decide) mw_5 rfl d_R_keep_189 ?_
    refine lv_imul hx hb d_R_keep_192 ?_
    refine lv_iadd hx hb d_R_keep_193 ?_
    refine lv_aload_n hx hb d_R_keep_194 rfl (lv_at hl 4 rfl) ?_
    refine zz_get (C := R_R) (T := F_R) (N := 12) (v := .int (u_r 8)) hx hb hts in_R hown hK hP 0 rfl rfl 10 (by decide) mw_6 rfl d_R_keep_195 ?_
    have J198_2 : ∀ (vj198_0 : Int32) (ls : Array Slot) (H : Heap) (locs : List Loc), vj198_0 = (if (u_r 8) = 0 then (0 : Int32) else (4096 : Int32)) → lv_has ls 7 [(6, .int (4 : Int32)), (5, .int (4 : Int32)), (4, .int (s_M_areaStart ((u_r 1) &&& (31 : Int32)))), (3, .int ((u_r 1) &&& (31 : Int32))), (0, .ref xR), (1, .ref xM), (2, .int (1 : Int32))] → va_P D classes [oR xR xD xA (upd u_r 1 (s_M_read u_M (s_M_areaStart ((u_r 1) &&& (31 : Int32))))), ar cI xD 8 u_d, ar cI xA 8 u_a, oM xM xW, ar cI xW 512 (s_M_write (s_M_write (s_M_write (s_M_write (s_M_write (s_M_write (s_M_write (s_M_write u_M (s_M_areaStart ((u_r 1) &&& (31 : Int32))) (u_r 3)) ((s_M_areaStart ((u_r 1) &&& (31 : Int32))) + (1 : Int32)) (s_R_state (upd u_r 1 (s_M_read u_M (s_M_areaStart ((u_r 1) &&& (31 : Int32))))) u_d u_a)) ((s_M_areaStart ((u_r 1) &&& (31 : Int32))) + (2 : Int32)) (u_a (ix (6 : Int32)))) ((s_M_areaStart ((u_r 1) &&& (31 : Int32))) + (3 : Int32)) (u_a (ix (7 : Int32)))) (((s_M_areaStart ((u_r 1) &&& (31 : Int32))) + (4 : Int32)) + (0 : Int32)) (u_d (ix (4 : Int32)))) (((s_M_areaStart ((u_r 1) &&& (31 : Int32))) + (4 : Int32)) + (1 : Int32)) (u_d (ix (5 : Int32)))) (((s_M_areaStart ((u_r 1) &&& (31 : Int32))) + (4 : Int32)) + (2 : Int32)) (u_d (ix (6 : Int32)))) (((s_M_areaStart ((u_r 1) &&& (31 : Int32))) + (4 : Int32)) + (3 : Int32)) (u_d (ix (7 : Int32))))] H → va_D A [oR xR xD xA (upd u_r 1 (s_M_read u_M (s_M_areaStart ((u_r 1) &&& (31 : Int32))))), ar cI xD 8 u_d, ar cI xA 8 u_a, oM xM xW, ar cI xW 512 (s_M_write (s_M_write (s_M_write (s_M_write (s_M_write (s_M_write (s_M_write (s_M_write u_M (s_M_areaStart ((u_r 1) &&& (31 : Int32))) (u_r 3)) ((s_M_areaStart ((u_r 1) &&& (31 : Int32))) + (1 : Int32)) (s_R_state (upd u_r 1 (s_M_read u_M (s_M_areaStart ((u_r 1) &&& (31 : Int32))))) u_d u_a)) ((s_M_areaStart ((u_r 1) &&& (31 : Int32))) + (2 : Int32)) (u_a (ix (6 : Int32)))) ((s_M_areaStart ((u_r 1) &&& (31 : Int32))) + (3 : Int32)) (u_a (ix (7 : Int32)))) (((s_M_areaStart ((u_r 1) &&& (31 : Int32))) + (4 : Int32)) + (0 : Int32)) (u_d (ix (4 : Int32)))) (((s_M_areaStart ((u_r 1) &&& (31 : Int32))) + (4 : Int32)) + (1 : Int32)) (u_d (ix (5 : Int32)))) (((s_M_areaStart ((u_r 1) &&& (31 : Int32))) + (4 : Int32)) + (2 : Int32)) (u_d (ix (6 : Int32)))) (((s_M_areaStart ((u_r 1) &&& (31 : Int32))) + (4 : Int32)) + (3 : Int32)) (u_d (ix (7 : Int32))))] → va_S A s.heap H locs → W p l e { frames := 2, cells := 0, slots := 0, locals := 42 } s m args below meth c H locs 0 0 Q (F0 m 208 ls [.int vj198_0, .int ((((u_r 1) &&& (31 : Int32)) + (32 : Int32)) + ((256 : Int32) * (u_r 7))), .ref xR]) := by
      intro vj198_0 ls H locs evj198_0 hl hP hD hS
      subst evj198_0
      refine lv_iadd hx hb d_R_keep_208 ?_
      refine zz_put (C := R_R) (T := F_R) (N := 12) (w' := [oR xR xD xA (upd (upd u_r 1 (s_M_read u_M (s_M_areaStart ((u_r 1) &&& (31 : Int32))))) 3 (((((u_r 1) &&& (31 : Int32)) + (32 : Int32)) + ((256 : Int32) * (u_r 7))) + (if (u_r 8) = 0 then (0 : Int32) else (4096 : Int32)))), ar cI xD 8 u_d, ar cI xA 8 u_a, oM xM xW, ar cI xW 512 (s_M_write (s_M_write (s_M_write (s_M_write (s_M_write (s_M_write (s_M_write (s_M_write u_M (s_M_areaStart ((u_r 1) &&& (31 : Int32))) (u_r 3)) ((s_M_areaStart ((u_r 1) &&& (31 : Int32))) + (1 : Int32)) (s_R_state (upd u_r 1 (s_M_read u_M (s_M_areaStart ((u_r 1) &&& (31 : Int32))))) u_d u_a)) ((s_M_areaStart ((u_r 1) &&& (31 : Int32))) + (2 : Int32)) (u_a (ix (6 : Int32)))) ((s_M_areaStart ((u_r 1) &&& (31 : Int32))) + (3 : Int32)) (u_a (ix (7 : Int32)))) (((s_M_areaStart ((u_r 1) &&& (31 : Int32))) + (4 : Int32)) + (0 : Int32)) (u_d (ix (4 : Int32)))) (((s_M_areaStart ((u_r 1) &&& (31 : Int32))) + (4 : Int32)) + (1 : Int32)) (u_d (ix (5 : Int32)))) (((s_M_areaStart ((u_r 1) &&& (31 : Int32))) + (4 : Int32)) + (2 : Int32)) (u_d (ix (6 : Int32)))) (((s_M_areaStart ((u_r 1) &&& (31 : Int32))) + (4 : Int32)) + (3 : Int32)) (u_d (ix (7 : Int32))))]) hx hb hts in_R ty_R ty_R_ok n_R hown hK hP hD hS 0 rfl rfl 5 (by decide) mw_9 rfl rfl rfl (Nat.le_of_ble_eq_true rfl) d_R_keep_209 rfl (fun H locs hP hD hS => ?_)
      refine lv_aload_n hx hb d_R_keep_212 rfl (lv_at hl 4 rfl) ?_
      refine zz_get (C := R_R) (T := F_R) (N := 12) (v := .int (s_M_read u_M (s_M_areaStart ((u_r 1) &&& (31 : Int32))))) hx hb hts in_R hown hK hP 0 rfl rfl 3 (by decide) mw_8 rfl d_R_keep_213 ?_
      refine lv_bipush (v := (31 : Int32)) hx hb d_R_keep_216 (by decide) ?_
      refine lv_iand hx hb d_R_keep_218 ?_
      refine lv_aload_n hx hb d_R_keep_219 rfl (lv_at hl 4 rfl) ?_
      refine zz_get (C := R_R) (T := F_R) (N := 12) (v := .int (u_r 2)) hx hb hts in_R hown hK hP 0 rfl rfl 4 (by decide) mw_11 rfl d_R_keep_220 ?_
      refine lv_icmp_ne (tgt := 231) hx hb d_R_keep_223 (by decide) (fun h3 => ?_) (fun h3 => ?_)
      ·
        refine lv_iconst (v := (1 : Int32)) hx hb d_R_keep_231 (by decide) ?_
        have hsp : s_R_keepU u_r u_d u_a u_M = ((1 : Int32), upd (upd u_r 1 (s_M_read u_M (s_M_areaStart ((u_r 1) &&& (31 : Int32))))) 3 (((((u_r 1) &&& (31 : Int32)) + (32 : Int32)) + ((256 : Int32) * (u_r 7))) + (if (u_r 8) = 0 then (0 : Int32) else (4096 : Int32))), (s_M_write (s_M_write (s_M_write (s_M_write (s_M_write (s_M_write (s_M_write (s_M_write u_M (s_M_areaStart ((u_r 1) &&& (31 : Int32))) (u_r 3)) ((s_M_areaStart ((u_r 1) &&& (31 : Int32))) + (1 : Int32)) (s_R_state (upd u_r 1 (s_M_read u_M (s_M_areaStart ((u_r 1) &&& (31 : Int32))))) u_d u_a)) ((s_M_areaStart ((u_r 1) &&& (31 : Int32))) + (2 : Int32)) (u_a (ix (6 : Int32)))) ((s_M_areaStart ((u_r 1) &&& (31 : Int32))) + (3 : Int32)) (u_a (ix (7 : Int32)))) (((s_M_areaStart ((u_r 1) &&& (31 : Int32))) + (4 : Int32)) + (0 : Int32)) (u_d (ix (4 : Int32)))) (((s_M_areaStart ((u_r 1) &&& (31 : Int32))) + (4 : Int32)) + (1 : Int32)) (u_d (ix (5 : Int32)))) (((s_M_areaStart ((u_r 1) &&& (31 : Int32))) + (4 : Int32)) + (2 : Int32)) (u_d (ix (6 : Int32)))) (((s_M_areaStart ((u_r 1) &&& (31 : Int32))) + (4 : Int32)) + (3 : Int32)) (u_d (ix (7 : Int32))))) := (by unfold s_R_keepU; rw [if_neg h1, if_neg h3])
        rw [hsp] at hE
        exact hE _ _ _ _ hP hD hS d_R_keep_232
      ·
        refine lv_aload_n hx hb d_R_keep_226 rfl (lv_at hl 4 rfl) ?_
        refine lv_iconst (v := (1 : Int32)) hx hb d_R_keep_227 (by decide) ?_
        refine zz_put (C := R_R) (T := F_R) (N := 12) (w' := [oR xR xD xA (upd (upd (upd u_r 1 (s_M_read u_M (s_M_areaStart ((u_r 1) &&& (31 : Int32))))) 3 (((((u_r 1) &&& (31 : Int32)) + (32 : Int32)) + ((256 : Int32) * (u_r 7))) + (if (u_r 8) = 0 then (0 : Int32) else (4096 : Int32)))) 9 (1 : Int32)), ar cI xD 8 u_d, ar cI xA 8 u_a, oM xM xW, ar cI xW 512 (s_M_write (s_M_write (s_M_write (s_M_write (s_M_write (s_M_write (s_M_write (s_M_write u_M (s_M_areaStart ((u_r 1) &&& (31 : Int32))) (u_r 3)) ((s_M_areaStart ((u_r 1) &&& (31 : Int32))) + (1 : Int32)) (s_R_state (upd u_r 1 (s_M_read u_M (s_M_areaStart ((u_r 1) &&& (31 : Int32))))) u_d u_a)) ((s_M_areaStart ((u_r 1) &&& (31 : Int32))) + (2 : Int32)) (u_a (ix (6 : Int32)))) ((s_M_areaStart ((u_r 1) &&& (31 : Int32))) + (3 : Int32)) (u_a (ix (7 : Int32)))) (((s_M_areaStart ((u_r 1) &&& (31 : Int32))) + (4 : Int32)) + (0 : Int32)) (u_d (ix (4 : Int32)))) (((s_M_areaStart ((u_r 1) &&& (31 : Int32))) + (4 : Int32)) + (1 : Int32)) (u_d (ix (5 : Int32)))) (((s_M_areaStart ((u_r 1) &&& (31 : Int32))) + (4 : Int32)) + (2 : Int32)) (u_d (ix (6 : Int32)))) (((s_M_areaStart ((u_r 1) &&& (31 : Int32))) + (4 : Int32)) + (3 : Int32)) (u_d (ix (7 : Int32))))]) hx hb hts in_R ty_R ty_R_ok n_R hown hK hP hD hS 0 rfl rfl 11 (by decide) mw_12 rfl rfl rfl (Nat.le_of_ble_eq_true rfl) d_R_keep_228 rfl (fun H locs hP hD hS => ?_)
        refine lv_iconst (v := (1 : Int32)) hx hb d_R_keep_231 (by decide) ?_
        have hsp : s_R_keepU u_r u_d u_a u_M = ((1 : Int32), upd (upd (upd u_r 1 (s_M_read u_M (s_M_areaStart ((u_r 1) &&& (31 : Int32))))) 3 (((((u_r 1) &&& (31 : Int32)) + (32 : Int32)) + ((256 : Int32) * (u_r 7))) + (if (u_r 8) = 0 then (0 : Int32) else (4096 : Int32)))) 9 (1 : Int32), (s_M_write (s_M_write (s_M_write (s_M_write (s_M_write (s_M_write (s_M_write (s_M_write u_M (s_M_areaStart ((u_r 1) &&& (31 : Int32))) (u_r 3)) ((s_M_areaStart ((u_r 1) &&& (31 : Int32))) + (1 : Int32)) (s_R_state (upd u_r 1 (s_M_read u_M (s_M_areaStart ((u_r 1) &&& (31 : Int32))))) u_d u_a)) ((s_M_areaStart ((u_r 1) &&& (31 : Int32))) + (2 : Int32)) (u_a (ix (6 : Int32)))) ((s_M_areaStart ((u_r 1) &&& (31 : Int32))) + (3 : Int32)) (u_a (ix (7 : Int32)))) (((s_M_areaStart ((u_r 1) &&& (31 : Int32))) + (4 : Int32)) + (0 : Int32)) (u_d (ix (4 : Int32)))) (((s_M_areaStart ((u_r 1) &&& (31 : Int32))) + (4 : Int32)) + (1 : Int32)) (u_d (ix (5 : Int32)))) (((s_M_areaStart ((u_r 1) &&& (31 : Int32))) + (4 : Int32)) + (2 : Int32)) (u_d (ix (6 : Int32)))) (((s_M_areaStart ((u_r 1) &&& (31 : Int32))) + (4 : Int32)) + (3 : Int32)) (u_d (ix (7 : Int32))))) := (by unfold s_R_keepU; rw [if_neg h1, if_pos h3])
        rw [hsp] at hE
        exact hE _ _ _ _ hP hD hS d_R_keep_232
    refine lv_if_eq (tgt := 207) hx hb d_R_keep_198 (by decide) (fun h2 => ?_) (fun h2 => ?_)
    ·
      refine lv_iconst (v := (0 : Int32)) hx hb d_R_keep_207 (by decide) ?_
      exact J198_2 (0 : Int32) _ _ _ (by rw [if_pos h2]) (lv_sub hl [0, 1, 2, 3, 4, 5, 6] rfl) hP hD hS
    ·
      refine lv_sipush (v := (4096 : Int32)) hx hb d_R_keep_201 (by decide) ?_
      refine lv_goto (tgt := 208) hx hb d_R_keep_204 (by decide) ?_
      exact J198_2 (4096 : Int32) _ _ _ (by rw [if_neg h2]) (lv_sub hl [0, 1, 2, 3, 4, 5, 6] rfl) hP hD hS
  ·
    refine lv_iconst (v := (0 : Int32)) hx hb d_R_keep_15 (by decide) ?_
    have hsp : s_R_keepU u_r u_d u_a u_M = ((0 : Int32), u_r, u_M) := (by unfold s_R_keepU; rw [if_pos h1])
    rw [hsp] at hE
    exact hE _ _ _ _ hP hD hS d_R_keep_16
set_option maxHeartbeats 4000000 in
set_option maxRecDepth 100000 in
theorem k_R_refuseBackU (l : Launch) (D : va_G) (cI : ClassId) (sz : Nat) (xR : Nat) (xD : Nat) (xA : Nat) (u_r : Nat → Int32) (u_d : Nat → Int32) (u_a : Nat → Int32) : zMi l y_R_refuseBack (.code y_R_refuseBack b_R_refuseBack 3 (some .int) :: wd) { frames := 1, cells := 0, slots := 0, locals := 20 } D classes [(cI, .int)] [.ref xR, .int (1 : Int32)] [oR xR xD xA u_r, ar cI xD 8 u_d, ar cI xA 8 u_a] [oR xR xD xA u_r, ar cI xD 8 u_d, ar cI xA 8 u_a] sz (s_R_refuseBackU u_r u_d u_a) := by
  refine met_i (by decide) (Nat.le_of_ble_eq_true rfl) rfl ?_
  intro p e s m args below meth c A Q ls hx hb hml hown hts hK hP hD hS hA hl hE
  have hl : lv_has ls 3 [(0, .ref xR), (1, .int (1 : Int32))] := hl
  have hown : s.vm.findClass R_R = some m.cls := hown
  refine lv_aload_n hx hb d_R_refuseBack_0 rfl (lv_at hl 0 rfl) ?_
  refine zz_get (C := R_R) (T := F_R) (N := 12) (v := .int (u_r 3)) hx hb hts in_R hown hK hP 0 rfl rfl 5 (by decide) mw_9 rfl d_R_refuseBack_1 ?_
  refine lv_bipush (v := (31 : Int32)) hx hb d_R_refuseBack_4 (by decide) ?_
  refine lv_iand hx hb d_R_refuseBack_6 ?_
  refine zz_cS0 (rest := []) ⟨hx, hb, hml, hown, hts⟩ (k_M_isArea l D cI _ ((u_r 3) &&& (31 : Int32))) g_R_refuseBack_M_isArea_41 nd_M_isArea ⟨⟨rfl, rfl⟩, Nat.le_of_ble_eq_true rfl, Nat.le_of_ble_eq_true rfl⟩ hK hP hD hS hA rfl rfl hl.1 (Nat.le_of_ble_eq_true rfl) d_R_refuseBack_7 ⟨Nat.zero_le _, Nat.zero_le _⟩ (fun H locs hP hD hS => ?_)
  refine lv_if_ne (tgt := 15) hx hb d_R_refuseBack_10 (by decide) (fun h1 => ?_) (fun h1 => ?_)
  ·
    refine lv_aload_n hx hb d_R_refuseBack_15 rfl (lv_at hl 0 rfl) ?_
    refine zz_get (C := R_R) (T := F_R) (N := 12) (v := .int (u_r 3)) hx hb hts in_R hown hK hP 0 rfl rfl 5 (by decide) mw_9 rfl d_R_refuseBack_16 ?_
    refine lv_bipush (v := (32 : Int32)) hx hb d_R_refuseBack_19 (by decide) ?_
    refine lv_iand hx hb d_R_refuseBack_21 ?_
    have J22_2 : ∀ (vj22_0 : Int32) (ls : Array Slot) (H : Heap) (locs : List Loc), vj22_0 = (if ((u_r 3) &&& (32 : Int32)) = 0 then (0 : Int32) else (1 : Int32)) → lv_has ls 3 [(0, .ref xR), (1, .int (1 : Int32))] → va_P D classes [oR xR xD xA u_r, ar cI xD 8 u_d, ar cI xA 8 u_a] H → va_D A [oR xR xD xA u_r, ar cI xD 8 u_d, ar cI xA 8 u_a] → va_S A s.heap H locs → W p l e { frames := 1, cells := 0, slots := 0, locals := 20 } s m args below meth c H locs 0 0 Q (F0 m 30 ls [.int vj22_0]) := by
      intro vj22_0 ls H locs evj22_0 hl hP hD hS
      subst evj22_0
      refine lv_istore_n (lv' := [(2, .int (if ((u_r 3) &&& (32 : Int32)) = 0 then (0 : Int32) else (1 : Int32))), (0, .ref xR), (1, .int (1 : Int32))]) hx hb d_R_refuseBack_30 rfl hl (by decide) rfl (fun ls hl => ?_)
      refine lv_iload_n hx hb d_R_refuseBack_31 rfl (lv_at hl 0 rfl) ?_
      refine lv_iload_n hx hb d_R_refuseBack_32 rfl (lv_at hl 2 rfl) ?_
      refine lv_icmp_ne (tgt := 40) hx hb d_R_refuseBack_33 (by decide) (fun h3 => ?_) (fun h3 => ?_)
      ·
        refine lv_sipush (v := (772 : Int32)) hx hb d_R_refuseBack_40 (by decide) ?_
        have hsp : s_R_refuseBackU u_r u_d u_a = (772 : Int32) := (by unfold s_R_refuseBackU; rw [if_neg h1, if_neg h3])
        rw [hsp] at hE
        exact hE _ _ _ _ hP hD hS d_R_refuseBack_43
      ·
        refine lv_iconst (v := (0 : Int32)) hx hb d_R_refuseBack_36 (by decide) ?_
        refine lv_goto (tgt := 43) hx hb d_R_refuseBack_37 (by decide) ?_
        have hsp : s_R_refuseBackU u_r u_d u_a = (0 : Int32) := (by unfold s_R_refuseBackU; rw [if_neg h1, if_pos h3])
        rw [hsp] at hE
        exact hE _ _ _ _ hP hD hS d_R_refuseBack_43
    refine lv_if_eq (tgt := 29) hx hb d_R_refuseBack_22 (by decide) (fun h2 => ?_) (fun h2 => ?_)
    ·
      refine lv_iconst (v := (0 : Int32)) hx hb d_R_refuseBack_29 (by decide) ?_
      exact J22_2 (0 : Int32) _ _ _ (by rw [if_pos h2]) (lv_sub hl [0, 1] rfl) hP hD hS
    ·
      refine lv_iconst (v := (1 : Int32)) hx hb d_R_refuseBack_25 (by decide) ?_
      refine lv_goto (tgt := 30) hx hb d_R_refuseBack_26 (by decide) ?_
      exact J22_2 (1 : Int32) _ _ _ (by rw [if_neg h2]) (lv_sub hl [0, 1] rfl) hP hD hS
  ·
    refine lv_iconst (v := (2 : Int32)) hx hb d_R_refuseBack_13 (by decide) ?_
    have hsp : s_R_refuseBackU u_r u_d u_a = (2 : Int32) := (by unfold s_R_refuseBackU; rw [if_pos h1])
    rw [hsp] at hE
    exact hE _ _ _ _ hP hD hS d_R_refuseBack_14
set_option maxHeartbeats 4000000 in
set_option maxRecDepth 100000 in
theorem k_R_bringBackU (l : Launch) (D : va_G) (cI : ClassId) (sz : Nat) (xR : Nat) (xD : Nat) (xA : Nat) (xM : Nat) (xW : Nat) (u_r : Nat → Int32) (u_d : Nat → Int32) (u_a : Nat → Int32) (u_M : Nat → Int32) : zMv l y_R_bringBack (.code y_R_bringBack b_R_bringBack 7 (none) :: wd) { frames := 2, cells := 0, slots := 0, locals := 42 } D classes [(cI, .int)] [.ref xR, .ref xM, .int (1 : Int32)] [oR xR xD xA u_r, ar cI xD 8 u_d, ar cI xA 8 u_a, oM xM xW, ar cI xW 512 u_M] [oR xR xD xA ((s_R_bringBackU u_r u_d u_a u_M).1), ar cI xD 8 ((s_R_bringBackU u_r u_d u_a u_M).2.1), ar cI xA 8 ((s_R_bringBackU u_r u_d u_a u_M).2.2.1), oM xM xW, ar cI xW 512 ((s_R_bringBackU u_r u_d u_a u_M).2.2.2)] sz := by
  refine met_v (by decide) (Nat.le_of_ble_eq_true rfl) ?_
  intro p e s m args below meth c A Q ls hx hb hml hown hts hK hP hD hS hA hl hE
  have hl : lv_has ls 7 [(0, .ref xR), (1, .ref xM), (2, .int (1 : Int32))] := hl
  have hown : s.vm.findClass R_R = some m.cls := hown
  refine lv_aload_n hx hb d_R_bringBack_0 rfl (lv_at hl 0 rfl) ?_
  refine zz_get (C := R_R) (T := F_R) (N := 12) (v := .int (u_r 3)) hx hb hts in_R hown hK hP 0 rfl rfl 5 (by decide) mw_9 rfl d_R_bringBack_1 ?_
  refine lv_bipush (v := (31 : Int32)) hx hb d_R_bringBack_4 (by decide) ?_
  refine lv_iand hx hb d_R_bringBack_6 ?_
  refine lv_istore_n (lv' := [(3, .int ((u_r 3) &&& (31 : Int32))), (0, .ref xR), (1, .ref xM), (2, .int (1 : Int32))]) hx hb d_R_bringBack_7 rfl hl (by decide) rfl (fun ls hl => ?_)
  refine lv_iload_n hx hb d_R_bringBack_8 rfl (lv_at hl 0 rfl) ?_
  refine zz_cS0 (rest := []) ⟨hx, hb, hml, hown, hts⟩ (k_M_areaStart l D cI _ ((u_r 3) &&& (31 : Int32))) g_R_bringBack_M_areaStart_47 nd_M_areaStart ⟨⟨rfl, rfl⟩, Nat.le_of_ble_eq_true rfl, Nat.le_of_ble_eq_true rfl⟩ hK hP hD hS hA rfl rfl hl.1 (Nat.le_of_ble_eq_true rfl) d_R_bringBack_9 ⟨Nat.zero_le _, Nat.zero_le _⟩ (fun H locs hP hD hS => ?_)
  refine lv_istore (lv' := [(4, .int (s_M_areaStart ((u_r 3) &&& (31 : Int32)))), (3, .int ((u_r 3) &&& (31 : Int32))), (0, .ref xR), (1, .ref xM), (2, .int (1 : Int32))]) hx hb d_R_bringBack_12 hl (by decide) rfl (fun ls hl => ?_)
  refine lv_aload_n hx hb d_R_bringBack_14 rfl (lv_at hl 2 rfl) ?_
  refine lv_aload_n hx hb d_R_bringBack_15 rfl (lv_at hl 3 rfl) ?_
  refine lv_iload hx hb d_R_bringBack_16 (lv_at hl 0 rfl) ?_
  show W p l e _ s m args below meth c _ _ _ _ Q (F0 m 18 ls _)
  refine zz_rVi (rest := [.ref xR]) ⟨hx, hb, hml, hown, hts⟩ (k_M_read l D cI _ xM xW u_M (s_M_areaStart ((u_r 3) &&& (31 : Int32)))) g_R_bringBack_M_read_51 nv_M_read ⟨⟨rfl, rfl⟩, Nat.le_of_ble_eq_true rfl, Nat.le_of_ble_eq_true rfl⟩ hK [0] rfl hP hD hS hA [3, 4] rfl rfl 3 0 rfl rfl rfl rfl hl.1 (Nat.le_of_ble_eq_true rfl) d_R_bringBack_18 ⟨Nat.zero_le _, Nat.zero_le _⟩ (fun H locs hP hD hS => ?_)
  refine zz_put (C := R_R) (T := F_R) (N := 12) (w' := [oR xR xD xA (upd u_r 3 (s_M_read u_M (s_M_areaStart ((u_r 3) &&& (31 : Int32))))), ar cI xD 8 u_d, ar cI xA 8 u_a, oM xM xW, ar cI xW 512 u_M]) hx hb hts in_R ty_R ty_R_ok n_R hown hK hP hD hS 0 rfl rfl 5 (by decide) mw_9 rfl rfl rfl (Nat.le_of_ble_eq_true rfl) d_R_bringBack_21 rfl (fun H locs hP hD hS => ?_)
  refine lv_iload_n hx hb d_R_bringBack_24 rfl (lv_at hl 4 rfl) ?_
  refine lv_if_eq (tgt := 73) hx hb d_R_bringBack_25 (by decide) (fun hh => absurd hh (by decide)) (fun _ => ?_)
  refine lv_aload_n hx hb d_R_bringBack_28 rfl (lv_at hl 2 rfl) ?_
  refine lv_aload_n hx hb d_R_bringBack_29 rfl (lv_at hl 3 rfl) ?_
  refine lv_iload hx hb d_R_bringBack_30 (lv_at hl 0 rfl) ?_
  refine lv_iconst (v := (1 : Int32)) hx hb d_R_bringBack_32 (by decide) ?_
  refine lv_iadd hx hb d_R_bringBack_33 ?_
  refine zz_rVi (rest := [.ref xR]) ⟨hx, hb, hml, hown, hts⟩ (k_M_read l D cI _ xM xW u_M ((s_M_areaStart ((u_r 3) &&& (31 : Int32))) + (1 : Int32))) g_R_bringBack_M_read_51 nv_M_read ⟨⟨rfl, rfl⟩, Nat.le_of_ble_eq_true rfl, Nat.le_of_ble_eq_true rfl⟩ hK [0] rfl hP hD hS hA [3, 4] rfl rfl 3 0 rfl rfl rfl rfl hl.1 (Nat.le_of_ble_eq_true rfl) d_R_bringBack_34 ⟨Nat.zero_le _, Nat.zero_le _⟩ (fun H locs hP hD hS => ?_)
  refine zz_cVv (rest := []) (wr := [oM xM xW, ar cI xW 512 u_M]) (w' := [oR xR xD xA (s_R_takeState (upd u_r 3 (s_M_read u_M (s_M_areaStart ((u_r 3) &&& (31 : Int32))))) u_d u_a (s_M_read u_M ((s_M_areaStart ((u_r 3) &&& (31 : Int32))) + (1 : Int32)))), ar cI xD 8 u_d, ar cI xA 8 u_a, oM xM xW, ar cI xW 512 u_M]) ⟨hx, hb, hml, hown, hts⟩ (k_R_takeState l D cI _ xR xD xA (upd u_r 3 (s_M_read u_M (s_M_areaStart ((u_r 3) &&& (31 : Int32))))) u_d u_a (s_M_read u_M ((s_M_areaStart ((u_r 3) &&& (31 : Int32))) + (1 : Int32)))) g_R_bringBack_R_takeState_71 nv_R_takeState ⟨⟨rfl, rfl⟩, Nat.le_of_ble_eq_true rfl, Nat.le_of_ble_eq_true rfl⟩ hK [0] rfl hP hD hS hA [0, 1, 2] [3, 4] [2, 3, 4, 0, 1] rfl rfl rfl rfl (by decide) rfl rfl 0 1 rfl rfl rfl rfl hl.1 (Nat.le_of_ble_eq_true rfl) d_R_bringBack_37 ⟨Nat.zero_le _, Nat.zero_le _⟩ (fun H locs hP hD hS => ?_)
  refine lv_aload_n hx hb d_R_bringBack_40 rfl (lv_at hl 2 rfl) ?_
  refine zz_get (C := R_R) (T := F_R) (N := 12) (v := .ref xA) hx hb hts in_R hown hK hP 0 rfl rfl 1 (by decide) mw_7 rfl d_R_bringBack_41 ?_
  refine lv_bipush (v := (6 : Int32)) hx hb d_R_bringBack_44 (by decide) ?_
  refine lv_aload_n hx hb d_R_bringBack_46 rfl (lv_at hl 3 rfl) ?_
  show W p l e _ s m args below meth c _ _ _ _ Q (F0 m 47 ls _)
  refine lv_iload hx hb d_R_bringBack_47 (lv_at hl 0 rfl) ?_
  refine lv_iconst (v := (2 : Int32)) hx hb d_R_bringBack_49 (by decide) ?_
  refine lv_iadd hx hb d_R_bringBack_50 ?_
  refine zz_rVi (rest := [.int (6 : Int32), .ref xA]) ⟨hx, hb, hml, hown, hts⟩ (k_M_read l D cI _ xM xW u_M ((s_M_areaStart ((u_r 3) &&& (31 : Int32))) + (2 : Int32))) g_R_bringBack_M_read_51 nv_M_read ⟨⟨rfl, rfl⟩, Nat.le_of_ble_eq_true rfl, Nat.le_of_ble_eq_true rfl⟩ hK [0] rfl hP hD hS hA [3, 4] rfl rfl 3 0 rfl rfl rfl rfl hl.1 (Nat.le_of_ble_eq_true rfl) d_R_bringBack_51 ⟨Nat.zero_le _, Nat.zero_le _⟩ (fun H locs hP hD hS => ?_)
  refine zz_iast (w' := [oR xR xD xA (s_R_takeState (upd u_r 3 (s_M_read u_M (s_M_areaStart ((u_r 3) &&& (31 : Int32))))) u_d u_a (s_M_read u_M ((s_M_areaStart ((u_r 3) &&& (31 : Int32))) + (1 : Int32)))), ar cI xD 8 u_d, ar cI xA 8 (upd u_a (ix (6 : Int32)) (s_M_read u_M ((s_M_areaStart ((u_r 3) &&& (31 : Int32))) + (2 : Int32)))), oM xM xW, ar cI xW 512 u_M]) hx hb hK hP hD hS 2 0 rfl rfl (zz_inc (by decide)) d_R_bringBack_54 rfl (fun H locs hP hD hS => ?_)
  refine lv_aload_n hx hb d_R_bringBack_55 rfl (lv_at hl 2 rfl) ?_
  refine zz_get (C := R_R) (T := F_R) (N := 12) (v := .ref xA) hx hb hts in_R hown hK hP 0 rfl rfl 1 (by decide) mw_7 rfl d_R_bringBack_56 ?_
  refine lv_bipush (v := (7 : Int32)) hx hb d_R_bringBack_59 (by decide) ?_
  refine lv_aload_n hx hb d_R_bringBack_61 rfl (lv_at hl 3 rfl) ?_
  refine lv_iload hx hb d_R_bringBack_62 (lv_at hl 0 rfl) ?_
  refine lv_iconst (v := (3 : Int32)) hx hb d_R_bringBack_64 (by decide) ?_
  refine lv_iadd hx hb d_R_bringBack_65 ?_
  show W p l e _ s m args below meth c _ _ _ _ Q (F0 m 66 ls _)
  refine zz_rVi (rest := [.int (7 : Int32), .ref xA]) ⟨hx, hb, hml, hown, hts⟩ (k_M_read l D cI _ xM xW u_M ((s_M_areaStart ((u_r 3) &&& (31 : Int32))) + (3 : Int32))) g_R_bringBack_M_read_51 nv_M_read ⟨⟨rfl, rfl⟩, Nat.le_of_ble_eq_true rfl, Nat.le_of_ble_eq_true rfl⟩ hK [0] rfl hP hD hS hA [3, 4] rfl rfl 3 0 rfl rfl rfl rfl hl.1 (Nat.le_of_ble_eq_true rfl) d_R_bringBack_66 ⟨Nat.zero_le _, Nat.zero_le _⟩ (fun H locs hP hD hS => ?_)
  refine zz_iast (w' := [oR xR xD xA (s_R_takeState (upd u_r 3 (s_M_read u_M (s_M_areaStart ((u_r 3) &&& (31 : Int32))))) u_d u_a (s_M_read u_M ((s_M_areaStart ((u_r 3) &&& (31 : Int32))) + (1 : Int32)))), ar cI xD 8 u_d, ar cI xA 8 (upd (upd u_a (ix (6 : Int32)) (s_M_read u_M ((s_M_areaStart ((u_r 3) &&& (31 : Int32))) + (2 : Int32)))) (ix (7 : Int32)) (s_M_read u_M ((s_M_areaStart ((u_r 3) &&& (31 : Int32))) + (3 : Int32)))), oM xM xW, ar cI xW 512 u_M]) hx hb hK hP hD hS 2 0 rfl rfl (zz_inc (by decide)) d_R_bringBack_69 rfl (fun H locs hP hD hS => ?_)
  refine lv_goto (tgt := 116) hx hb d_R_bringBack_70 (by decide) ?_
  refine lv_iload_n hx hb d_R_bringBack_116 rfl (lv_at hl 4 rfl) ?_
  refine lv_if_eq (tgt := 124) hx hb d_R_bringBack_117 (by decide) (fun hh => absurd hh (by decide)) (fun _ => ?_)
  refine lv_iconst (v := (4 : Int32)) hx hb d_R_bringBack_120 (by decide) ?_
  refine lv_goto (tgt := 125) hx hb d_R_bringBack_121 (by decide) ?_
  refine lv_istore (lv' := [(5, .int (4 : Int32)), (4, .int (s_M_areaStart ((u_r 3) &&& (31 : Int32)))), (3, .int ((u_r 3) &&& (31 : Int32))), (0, .ref xR), (1, .ref xM), (2, .int (1 : Int32))]) hx hb d_R_bringBack_125 hl (by decide) rfl (fun ls hl => ?_)
  refine lv_iconst (v := (0 : Int32)) hx hb d_R_bringBack_127 (by decide) ?_
  refine lv_istore (lv' := [(6, .int (0 : Int32)), (5, .int (4 : Int32)), (4, .int (s_M_areaStart ((u_r 3) &&& (31 : Int32)))), (3, .int ((u_r 3) &&& (31 : Int32))), (0, .ref xR), (1, .ref xM), (2, .int (1 : Int32))]) hx hb d_R_bringBack_128 hl (by decide) rfl (fun ls hl => ?_)
  refine lv_iload hx hb d_R_bringBack_130 (lv_at hl 0 rfl) ?_
  refine lv_iconst (v := (4 : Int32)) hx hb d_R_bringBack_132 (by decide) ?_
  refine lv_icmp_ge (tgt := 163) hx hb d_R_bringBack_133 (by decide) (fun hh => absurd hh (by decide)) (fun _ => ?_)
  refine lv_aload_n hx hb d_R_bringBack_136 rfl (lv_at hl 4 rfl) ?_
  refine zz_get (C := R_R) (T := F_R) (N := 12) (v := .ref xD) hx hb hts in_R hown hK hP 0 rfl rfl 0 (by decide) mw_10 rfl d_R_bringBack_137 ?_
  refine lv_iload hx hb d_R_bringBack_140 (lv_at hl 1 rfl) ?_
  refine lv_iload hx hb d_R_bringBack_142 (lv_at hl 0 rfl) ?_
  refine lv_iadd hx hb d_R_bringBack_144 ?_
  refine lv_topi (fun zz ez => ?_)
  obtain rfl : zz = (4 : Int32) := ez.trans (by decide)
  refine lv_aload_n hx hb d_R_bringBack_145 rfl (lv_at hl 5 rfl) ?_
  refine lv_iload hx hb d_R_bringBack_146 (lv_at hl 2 rfl) ?_
  refine lv_iconst (v := (4 : Int32)) hx hb d_R_bringBack_148 (by decide) ?_
  refine lv_iadd hx hb d_R_bringBack_149 ?_
  refine lv_iload hx hb d_R_bringBack_150 (lv_at hl 0 rfl) ?_
  refine lv_iadd hx hb d_R_bringBack_152 ?_
  show W p l e _ s m args below meth c _ _ _ _ Q (F0 m 153 ls _)
  refine zz_rVi (rest := [.int (4 : Int32), .ref xD]) ⟨hx, hb, hml, hown, hts⟩ (k_M_read l D cI _ xM xW u_M (((s_M_areaStart ((u_r 3) &&& (31 : Int32))) + (4 : Int32)) + (0 : Int32))) g_R_bringBack_M_read_51 nv_M_read ⟨⟨rfl, rfl⟩, Nat.le_of_ble_eq_true rfl, Nat.le_of_ble_eq_true rfl⟩ hK [0] rfl hP hD hS hA [3, 4] rfl rfl 3 0 rfl rfl rfl rfl hl.1 (Nat.le_of_ble_eq_true rfl) d_R_bringBack_153 ⟨Nat.zero_le _, Nat.zero_le _⟩ (fun H locs hP hD hS => ?_)
  refine zz_iast (w' := [oR xR xD xA (s_R_takeState (upd u_r 3 (s_M_read u_M (s_M_areaStart ((u_r 3) &&& (31 : Int32))))) u_d u_a (s_M_read u_M ((s_M_areaStart ((u_r 3) &&& (31 : Int32))) + (1 : Int32)))), ar cI xD 8 (upd u_d (ix (4 : Int32)) (s_M_read u_M (((s_M_areaStart ((u_r 3) &&& (31 : Int32))) + (4 : Int32)) + (0 : Int32)))), ar cI xA 8 (upd (upd u_a (ix (6 : Int32)) (s_M_read u_M ((s_M_areaStart ((u_r 3) &&& (31 : Int32))) + (2 : Int32)))) (ix (7 : Int32)) (s_M_read u_M ((s_M_areaStart ((u_r 3) &&& (31 : Int32))) + (3 : Int32)))), oM xM xW, ar cI xW 512 u_M]) hx hb hK hP hD hS 1 0 rfl rfl (zz_inc (by decide)) d_R_bringBack_156 rfl (fun H locs hP hD hS => ?_)
  refine lv_iinc (v := (1 : Int32)) (lv' := [(6, .int (1 : Int32)), (5, .int (4 : Int32)), (4, .int (s_M_areaStart ((u_r 3) &&& (31 : Int32)))), (3, .int ((u_r 3) &&& (31 : Int32))), (0, .ref xR), (1, .ref xM), (2, .int (1 : Int32))]) (k := 0) hx hb d_R_bringBack_157 hl rfl (by decide) (by decide) rfl (fun ls hl => ?_)
  refine lv_goto (tgt := 130) hx hb d_R_bringBack_160 (by decide) ?_
  refine lv_iload hx hb d_R_bringBack_130 (lv_at hl 0 rfl) ?_
  refine lv_iconst (v := (4 : Int32)) hx hb d_R_bringBack_132 (by decide) ?_
  refine lv_icmp_ge (tgt := 163) hx hb d_R_bringBack_133 (by decide) (fun hh => absurd hh (by decide)) (fun _ => ?_)
  refine lv_aload_n hx hb d_R_bringBack_136 rfl (lv_at hl 4 rfl) ?_
  refine zz_get (C := R_R) (T := F_R) (N := 12) (v := .ref xD) hx hb hts in_R hown hK hP 0 rfl rfl 0 (by decide) mw_10 rfl d_R_bringBack_137 ?_
  refine lv_iload hx hb d_R_bringBack_140 (lv_at hl 1 rfl) ?_
  refine lv_iload hx hb d_R_bringBack_142 (lv_at hl 0 rfl) ?_
  refine lv_iadd hx hb d_R_bringBack_144 ?_
  refine lv_topi (fun zz ez => ?_)
  obtain rfl : zz = (5 : Int32) := ez.trans (by decide)
  refine lv_aload_n hx hb d_R_bringBack_145 rfl (lv_at hl 5 rfl) ?_
  refine lv_iload hx hb d_R_bringBack_146 (lv_at hl 2 rfl) ?_
  refine lv_iconst (v := (4 : Int32)) hx hb d_R_bringBack_148 (by decide) ?_
  refine lv_iadd hx hb d_R_bringBack_149 ?_
  refine lv_iload hx hb d_R_bringBack_150 (lv_at hl 0 rfl) ?_
  refine lv_iadd hx hb d_R_bringBack_152 ?_
  show W p l e _ s m args below meth c _ _ _ _ Q (F0 m 153 ls _)
  refine zz_rVi (rest := [.int (5 : Int32), .ref xD]) ⟨hx, hb, hml, hown, hts⟩ (k_M_read l D cI _ xM xW u_M (((s_M_areaStart ((u_r 3) &&& (31 : Int32))) + (4 : Int32)) + (1 : Int32))) g_R_bringBack_M_read_51 nv_M_read ⟨⟨rfl, rfl⟩, Nat.le_of_ble_eq_true rfl, Nat.le_of_ble_eq_true rfl⟩ hK [0] rfl hP hD hS hA [3, 4] rfl rfl 3 0 rfl rfl rfl rfl hl.1 (Nat.le_of_ble_eq_true rfl) d_R_bringBack_153 ⟨Nat.zero_le _, Nat.zero_le _⟩ (fun H locs hP hD hS => ?_)
  refine zz_iast (w' := [oR xR xD xA (s_R_takeState (upd u_r 3 (s_M_read u_M (s_M_areaStart ((u_r 3) &&& (31 : Int32))))) u_d u_a (s_M_read u_M ((s_M_areaStart ((u_r 3) &&& (31 : Int32))) + (1 : Int32)))), ar cI xD 8 (upd (upd u_d (ix (4 : Int32)) (s_M_read u_M (((s_M_areaStart ((u_r 3) &&& (31 : Int32))) + (4 : Int32)) + (0 : Int32)))) (ix (5 : Int32)) (s_M_read u_M (((s_M_areaStart ((u_r 3) &&& (31 : Int32))) + (4 : Int32)) + (1 : Int32)))), ar cI xA 8 (upd (upd u_a (ix (6 : Int32)) (s_M_read u_M ((s_M_areaStart ((u_r 3) &&& (31 : Int32))) + (2 : Int32)))) (ix (7 : Int32)) (s_M_read u_M ((s_M_areaStart ((u_r 3) &&& (31 : Int32))) + (3 : Int32)))), oM xM xW, ar cI xW 512 u_M]) hx hb hK hP hD hS 1 0 rfl rfl (zz_inc (by decide)) d_R_bringBack_156 rfl (fun H locs hP hD hS => ?_)
  refine lv_iinc (v := (2 : Int32)) (lv' := [(6, .int (2 : Int32)), (5, .int (4 : Int32)), (4, .int (s_M_areaStart ((u_r 3) &&& (31 : Int32)))), (3, .int ((u_r 3) &&& (31 : Int32))), (0, .ref xR), (1, .ref xM), (2, .int (1 : Int32))]) (k := 0) hx hb d_R_bringBack_157 hl rfl (by decide) (by decide) rfl (fun ls hl => ?_)
  refine lv_goto (tgt := 130) hx hb d_R_bringBack_160 (by decide) ?_
  refine lv_iload hx hb d_R_bringBack_130 (lv_at hl 0 rfl) ?_
  refine lv_iconst (v := (4 : Int32)) hx hb d_R_bringBack_132 (by decide) ?_
  refine lv_icmp_ge (tgt := 163) hx hb d_R_bringBack_133 (by decide) (fun hh => absurd hh (by decide)) (fun _ => ?_)
  refine lv_aload_n hx hb d_R_bringBack_136 rfl (lv_at hl 4 rfl) ?_
  refine zz_get (C := R_R) (T := F_R) (N := 12) (v := .ref xD) hx hb hts in_R hown hK hP 0 rfl rfl 0 (by decide) mw_10 rfl d_R_bringBack_137 ?_
  refine lv_iload hx hb d_R_bringBack_140 (lv_at hl 1 rfl) ?_
  refine lv_iload hx hb d_R_bringBack_142 (lv_at hl 0 rfl) ?_
  refine lv_iadd hx hb d_R_bringBack_144 ?_
  refine lv_topi (fun zz ez => ?_)
  obtain rfl : zz = (6 : Int32) := ez.trans (by decide)
  refine lv_aload_n hx hb d_R_bringBack_145 rfl (lv_at hl 5 rfl) ?_
  refine lv_iload hx hb d_R_bringBack_146 (lv_at hl 2 rfl) ?_
  refine lv_iconst (v := (4 : Int32)) hx hb d_R_bringBack_148 (by decide) ?_
  refine lv_iadd hx hb d_R_bringBack_149 ?_
  refine lv_iload hx hb d_R_bringBack_150 (lv_at hl 0 rfl) ?_
  refine lv_iadd hx hb d_R_bringBack_152 ?_
  show W p l e _ s m args below meth c _ _ _ _ Q (F0 m 153 ls _)
  refine zz_rVi (rest := [.int (6 : Int32), .ref xD]) ⟨hx, hb, hml, hown, hts⟩ (k_M_read l D cI _ xM xW u_M (((s_M_areaStart ((u_r 3) &&& (31 : Int32))) + (4 : Int32)) + (2 : Int32))) g_R_bringBack_M_read_51 nv_M_read ⟨⟨rfl, rfl⟩, Nat.le_of_ble_eq_true rfl, Nat.le_of_ble_eq_true rfl⟩ hK [0] rfl hP hD hS hA [3, 4] rfl rfl 3 0 rfl rfl rfl rfl hl.1 (Nat.le_of_ble_eq_true rfl) d_R_bringBack_153 ⟨Nat.zero_le _, Nat.zero_le _⟩ (fun H locs hP hD hS => ?_)
  refine zz_iast (w' := [oR xR xD xA (s_R_takeState (upd u_r 3 (s_M_read u_M (s_M_areaStart ((u_r 3) &&& (31 : Int32))))) u_d u_a (s_M_read u_M ((s_M_areaStart ((u_r 3) &&& (31 : Int32))) + (1 : Int32)))), ar cI xD 8 (upd (upd (upd u_d (ix (4 : Int32)) (s_M_read u_M (((s_M_areaStart ((u_r 3) &&& (31 : Int32))) + (4 : Int32)) + (0 : Int32)))) (ix (5 : Int32)) (s_M_read u_M (((s_M_areaStart ((u_r 3) &&& (31 : Int32))) + (4 : Int32)) + (1 : Int32)))) (ix (6 : Int32)) (s_M_read u_M (((s_M_areaStart ((u_r 3) &&& (31 : Int32))) + (4 : Int32)) + (2 : Int32)))), ar cI xA 8 (upd (upd u_a (ix (6 : Int32)) (s_M_read u_M ((s_M_areaStart ((u_r 3) &&& (31 : Int32))) + (2 : Int32)))) (ix (7 : Int32)) (s_M_read u_M ((s_M_areaStart ((u_r 3) &&& (31 : Int32))) + (3 : Int32)))), oM xM xW, ar cI xW 512 u_M]) hx hb hK hP hD hS 1 0 rfl rfl (zz_inc (by decide)) d_R_bringBack_156 rfl (fun H locs hP hD hS => ?_)
  refine lv_iinc (v := (3 : Int32)) (lv' := [(6, .int (3 : Int32)), (5, .int (4 : Int32)), (4, .int (s_M_areaStart ((u_r 3) &&& (31 : Int32)))), (3, .int ((u_r 3) &&& (31 : Int32))), (0, .ref xR), (1, .ref xM), (2, .int (1 : Int32))]) (k := 0) hx hb d_R_bringBack_157 hl rfl (by decide) (by decide) rfl (fun ls hl => ?_)
  refine lv_goto (tgt := 130) hx hb d_R_bringBack_160 (by decide) ?_
  refine lv_iload hx hb d_R_bringBack_130 (lv_at hl 0 rfl) ?_
  refine lv_iconst (v := (4 : Int32)) hx hb d_R_bringBack_132 (by decide) ?_
  refine lv_icmp_ge (tgt := 163) hx hb d_R_bringBack_133 (by decide) (fun hh => absurd hh (by decide)) (fun _ => ?_)
  refine lv_aload_n hx hb d_R_bringBack_136 rfl (lv_at hl 4 rfl) ?_
  refine zz_get (C := R_R) (T := F_R) (N := 12) (v := .ref xD) hx hb hts in_R hown hK hP 0 rfl rfl 0 (by decide) mw_10 rfl d_R_bringBack_137 ?_
  refine lv_iload hx hb d_R_bringBack_140 (lv_at hl 1 rfl) ?_
  refine lv_iload hx hb d_R_bringBack_142 (lv_at hl 0 rfl) ?_
  refine lv_iadd hx hb d_R_bringBack_144 ?_
  refine lv_topi (fun zz ez => ?_)
  obtain rfl : zz = (7 : Int32) := ez.trans (by decide)
  refine lv_aload_n hx hb d_R_bringBack_145 rfl (lv_at hl 5 rfl) ?_
  refine lv_iload hx hb d_R_bringBack_146 (lv_at hl 2 rfl) ?_
  refine lv_iconst (v := (4 : Int32)) hx hb d_R_bringBack_148 (by decide) ?_
  refine lv_iadd hx hb d_R_bringBack_149 ?_
  refine lv_iload hx hb d_R_bringBack_150 (lv_at hl 0 rfl) ?_
  refine lv_iadd hx hb d_R_bringBack_152 ?_
  show W p l e _ s m args below meth c _ _ _ _ Q (F0 m 153 ls _)
  refine zz_rVi (rest := [.int (7 : Int32), .ref xD]) ⟨hx, hb, hml, hown, hts⟩ (k_M_read l D cI _ xM xW u_M (((s_M_areaStart ((u_r 3) &&& (31 : Int32))) + (4 : Int32)) + (3 : Int32))) g_R_bringBack_M_read_51 nv_M_read ⟨⟨rfl, rfl⟩, Nat.le_of_ble_eq_true rfl, Nat.le_of_ble_eq_true rfl⟩ hK [0] rfl hP hD hS hA [3, 4] rfl rfl 3 0 rfl rfl rfl rfl hl.1 (Nat.le_of_ble_eq_true rfl) d_R_bringBack_153 ⟨Nat.zero_le _, Nat.zero_le _⟩ (fun H locs hP hD hS => ?_)
  refine zz_iast (w' := [oR xR xD xA (s_R_takeState (upd u_r 3 (s_M_read u_M (s_M_areaStart ((u_r 3) &&& (31 : Int32))))) u_d u_a (s_M_read u_M ((s_M_areaStart ((u_r 3) &&& (31 : Int32))) + (1 : Int32)))), ar cI xD 8 (upd (upd (upd (upd u_d (ix (4 : Int32)) (s_M_read u_M (((s_M_areaStart ((u_r 3) &&& (31 : Int32))) + (4 : Int32)) + (0 : Int32)))) (ix (5 : Int32)) (s_M_read u_M (((s_M_areaStart ((u_r 3) &&& (31 : Int32))) + (4 : Int32)) + (1 : Int32)))) (ix (6 : Int32)) (s_M_read u_M (((s_M_areaStart ((u_r 3) &&& (31 : Int32))) + (4 : Int32)) + (2 : Int32)))) (ix (7 : Int32)) (s_M_read u_M (((s_M_areaStart ((u_r 3) &&& (31 : Int32))) + (4 : Int32)) + (3 : Int32)))), ar cI xA 8 (upd (upd u_a (ix (6 : Int32)) (s_M_read u_M ((s_M_areaStart ((u_r 3) &&& (31 : Int32))) + (2 : Int32)))) (ix (7 : Int32)) (s_M_read u_M ((s_M_areaStart ((u_r 3) &&& (31 : Int32))) + (3 : Int32)))), oM xM xW, ar cI xW 512 u_M]) hx hb hK hP hD hS 1 0 rfl rfl (zz_inc (by decide)) d_R_bringBack_156 rfl (fun H locs hP hD hS => ?_)
  refine lv_iinc (v := (4 : Int32)) (lv' := [(6, .int (4 : Int32)), (5, .int (4 : Int32)), (4, .int (s_M_areaStart ((u_r 3) &&& (31 : Int32)))), (3, .int ((u_r 3) &&& (31 : Int32))), (0, .ref xR), (1, .ref xM), (2, .int (1 : Int32))]) (k := 0) hx hb d_R_bringBack_157 hl rfl (by decide) (by decide) rfl (fun ls hl => ?_)
  refine lv_goto (tgt := 130) hx hb d_R_bringBack_160 (by decide) ?_
  refine lv_iload hx hb d_R_bringBack_130 (lv_at hl 0 rfl) ?_
  refine lv_iconst (v := (4 : Int32)) hx hb d_R_bringBack_132 (by decide) ?_
  refine lv_icmp_ge (tgt := 163) hx hb d_R_bringBack_133 (by decide) (fun _ => ?_) (fun hh => absurd hh (by decide))
  refine lv_aload_n hx hb d_R_bringBack_163 rfl (lv_at hl 5 rfl) ?_
  refine lv_iload hx hb d_R_bringBack_164 (lv_at hl 2 rfl) ?_
  refine lv_aload_n hx hb d_R_bringBack_166 rfl (lv_at hl 4 rfl) ?_
  refine zz_get (C := R_R) (T := F_R) (N := 12) (v := .int ((s_R_takeState (upd u_r 3 (s_M_read u_M (s_M_areaStart ((u_r 3) &&& (31 : Int32))))) u_d u_a (s_M_read u_M ((s_M_areaStart ((u_r 3) &&& (31 : Int32))) + (1 : Int32)))) 1)) hx hb hts in_R hown hK hP 0 rfl rfl 3 (by decide) mw_8 rfl d_R_bringBack_167 ?_
  refine zz_cVv (rest := []) (wr := [oR xR xD xA (s_R_takeState (upd u_r 3 (s_M_read u_M (s_M_areaStart ((u_r 3) &&& (31 : Int32))))) u_d u_a (s_M_read u_M ((s_M_areaStart ((u_r 3) &&& (31 : Int32))) + (1 : Int32)))), ar cI xD 8 (upd (upd (upd (upd u_d (ix (4 : Int32)) (s_M_read u_M (((s_M_areaStart ((u_r 3) &&& (31 : Int32))) + (4 : Int32)) + (0 : Int32)))) (ix (5 : Int32)) (s_M_read u_M (((s_M_areaStart ((u_r 3) &&& (31 : Int32))) + (4 : Int32)) + (1 : Int32)))) (ix (6 : Int32)) (s_M_read u_M (((s_M_areaStart ((u_r 3) &&& (31 : Int32))) + (4 : Int32)) + (2 : Int32)))) (ix (7 : Int32)) (s_M_read u_M (((s_M_areaStart ((u_r 3) &&& (31 : Int32))) + (4 : Int32)) + (3 : Int32)))), ar cI xA 8 (upd (upd u_a (ix (6 : Int32)) (s_M_read u_M ((s_M_areaStart ((u_r 3) &&& (31 : Int32))) + (2 : Int32)))) (ix (7 : Int32)) (s_M_read u_M ((s_M_areaStart ((u_r 3) &&& (31 : Int32))) + (3 : Int32))))]) (w' := [oR xR xD xA (s_R_takeState (upd u_r 3 (s_M_read u_M (s_M_areaStart ((u_r 3) &&& (31 : Int32))))) u_d u_a (s_M_read u_M ((s_M_areaStart ((u_r 3) &&& (31 : Int32))) + (1 : Int32)))), ar cI xD 8 (upd (upd (upd (upd u_d (ix (4 : Int32)) (s_M_read u_M (((s_M_areaStart ((u_r 3) &&& (31 : Int32))) + (4 : Int32)) + (0 : Int32)))) (ix (5 : Int32)) (s_M_read u_M (((s_M_areaStart ((u_r 3) &&& (31 : Int32))) + (4 : Int32)) + (1 : Int32)))) (ix (6 : Int32)) (s_M_read u_M (((s_M_areaStart ((u_r 3) &&& (31 : Int32))) + (4 : Int32)) + (2 : Int32)))) (ix (7 : Int32)) (s_M_read u_M (((s_M_areaStart ((u_r 3) &&& (31 : Int32))) + (4 : Int32)) + (3 : Int32)))), ar cI xA 8 (upd (upd u_a (ix (6 : Int32)) (s_M_read u_M ((s_M_areaStart ((u_r 3) &&& (31 : Int32))) + (2 : Int32)))) (ix (7 : Int32)) (s_M_read u_M ((s_M_areaStart ((u_r 3) &&& (31 : Int32))) + (3 : Int32)))), oM xM xW, ar cI xW 512 (s_M_write u_M (s_M_areaStart ((u_r 3) &&& (31 : Int32))) ((s_R_takeState (upd u_r 3 (s_M_read u_M (s_M_areaStart ((u_r 3) &&& (31 : Int32))))) u_d u_a (s_M_read u_M ((s_M_areaStart ((u_r 3) &&& (31 : Int32))) + (1 : Int32)))) 1))]) ⟨hx, hb, hml, hown, hts⟩ (k_M_write l D cI _ xM xW u_M (s_M_areaStart ((u_r 3) &&& (31 : Int32))) ((s_R_takeState (upd u_r 3 (s_M_read u_M (s_M_areaStart ((u_r 3) &&& (31 : Int32))))) u_d u_a (s_M_read u_M ((s_M_areaStart ((u_r 3) &&& (31 : Int32))) + (1 : Int32)))) 1)) g_R_bringBack_M_write_57 nv_M_write ⟨⟨rfl, rfl⟩, Nat.le_of_ble_eq_true rfl, Nat.le_of_ble_eq_true rfl⟩ hK [0] rfl hP hD hS hA [3, 4] [0, 1, 2] [0, 1, 2, 3, 4] rfl rfl rfl rfl (by decide) rfl rfl 3 0 rfl rfl rfl rfl hl.1 (Nat.le_of_ble_eq_true rfl) d_R_bringBack_170 ⟨Nat.zero_le _, Nat.zero_le _⟩ (fun H locs hP hD hS => ?_)
  refine lv_aload_n hx hb d_R_bringBack_173 rfl (lv_at hl 4 rfl) ?_
  refine lv_iload_n hx hb d_R_bringBack_174 rfl (lv_at hl 3 rfl) ?_
  refine zz_put (C := R_R) (T := F_R) (N := 12) (w' := [oR xR xD xA (upd (s_R_takeState (upd u_r 3 (s_M_read u_M (s_M_areaStart ((u_r 3) &&& (31 : Int32))))) u_d u_a (s_M_read u_M ((s_M_areaStart ((u_r 3) &&& (31 : Int32))) + (1 : Int32)))) 1 ((u_r 3) &&& (31 : Int32))), ar cI xD 8 (upd (upd (upd (upd u_d (ix (4 : Int32)) (s_M_read u_M (((s_M_areaStart ((u_r 3) &&& (31 : Int32))) + (4 : Int32)) + (0 : Int32)))) (ix (5 : Int32)) (s_M_read u_M (((s_M_areaStart ((u_r 3) &&& (31 : Int32))) + (4 : Int32)) + (1 : Int32)))) (ix (6 : Int32)) (s_M_read u_M (((s_M_areaStart ((u_r 3) &&& (31 : Int32))) + (4 : Int32)) + (2 : Int32)))) (ix (7 : Int32)) (s_M_read u_M (((s_M_areaStart ((u_r 3) &&& (31 : Int32))) + (4 : Int32)) + (3 : Int32)))), ar cI xA 8 (upd (upd u_a (ix (6 : Int32)) (s_M_read u_M ((s_M_areaStart ((u_r 3) &&& (31 : Int32))) + (2 : Int32)))) (ix (7 : Int32)) (s_M_read u_M ((s_M_areaStart ((u_r 3) &&& (31 : Int32))) + (3 : Int32)))), oM xM xW, ar cI xW 512 (s_M_write u_M (s_M_areaStart ((u_r 3) &&& (31 : Int32))) ((s_R_takeState (upd u_r 3 (s_M_read u_M (s_M_areaStart ((u_r 3) &&& (31 : Int32))))) u_d u_a (s_M_read u_M ((s_M_areaStart ((u_r 3) &&& (31 : Int32))) + (1 : Int32)))) 1))]) hx hb hts in_R ty_R ty_R_ok n_R hown hK hP hD hS 0 rfl rfl 3 (by decide) mw_8 rfl rfl rfl (Nat.le_of_ble_eq_true rfl) d_R_bringBack_175 rfl (fun H locs hP hD hS => ?_)
  have hsp : s_R_bringBackU u_r u_d u_a u_M = (upd (s_R_takeState (upd u_r 3 (s_M_read u_M (s_M_areaStart ((u_r 3) &&& (31 : Int32))))) u_d u_a (s_M_read u_M ((s_M_areaStart ((u_r 3) &&& (31 : Int32))) + (1 : Int32)))) 1 ((u_r 3) &&& (31 : Int32)), upd (upd (upd (upd u_d (ix (4 : Int32)) (s_M_read u_M (((s_M_areaStart ((u_r 3) &&& (31 : Int32))) + (4 : Int32)) + (0 : Int32)))) (ix (5 : Int32)) (s_M_read u_M (((s_M_areaStart ((u_r 3) &&& (31 : Int32))) + (4 : Int32)) + (1 : Int32)))) (ix (6 : Int32)) (s_M_read u_M (((s_M_areaStart ((u_r 3) &&& (31 : Int32))) + (4 : Int32)) + (2 : Int32)))) (ix (7 : Int32)) (s_M_read u_M (((s_M_areaStart ((u_r 3) &&& (31 : Int32))) + (4 : Int32)) + (3 : Int32))), upd (upd u_a (ix (6 : Int32)) (s_M_read u_M ((s_M_areaStart ((u_r 3) &&& (31 : Int32))) + (2 : Int32)))) (ix (7 : Int32)) (s_M_read u_M ((s_M_areaStart ((u_r 3) &&& (31 : Int32))) + (3 : Int32))), (s_M_write u_M (s_M_areaStart ((u_r 3) &&& (31 : Int32))) ((s_R_takeState (upd u_r 3 (s_M_read u_M (s_M_areaStart ((u_r 3) &&& (31 : Int32))))) u_d u_a (s_M_read u_M ((s_M_areaStart ((u_r 3) &&& (31 : Int32))) + (1 : Int32)))) 1))) := rfl
  rw [hsp] at hE
  exact hE _ _ _ _ hP hD hS d_R_bringBack_178
set_option maxHeartbeats 4000000 in
set_option maxRecDepth 100000 in
theorem k_R_keepL (l : Launch) (D : va_G) (cI : ClassId) (sz : Nat) (xR : Nat) (xD : Nat) (xA : Nat) (xM : Nat) (xW : Nat) (u_r : Nat → Int32) (u_d : Nat → Int32) (u_a : Nat → Int32) (u_M : Nat → Int32) : zMi l y_R_keep (.code y_R_keep b_R_keep 7 (some .boolean) :: wd) { frames := 2, cells := 0, slots := 0, locals := 42 } D classes [(cI, .int)] [.ref xR, .ref xM, .int (0 : Int32)] [oR xR xD xA u_r, ar cI xD 8 u_d, ar cI xA 8 u_a, oM xM xW, ar cI xW 512 u_M] [oR xR xD xA ((s_R_keepL u_r u_d u_a u_M).2.1), ar cI xD 8 u_d, ar cI xA 8 u_a, oM xM xW, ar cI xW 512 ((s_R_keepL u_r u_d u_a u_M).2.2)] sz (s_R_keepL u_r u_d u_a u_M).1 := by
  refine met_i (by decide) (Nat.le_of_ble_eq_true rfl) (zz_nar (bo_R_keepL u_r u_d u_a u_M)) ?_
  intro p e s m args below meth c A Q ls hx hb hml hown hts hK hP hD hS hA hl hE
  have hl : lv_has ls 7 [(0, .ref xR), (1, .ref xM), (2, .int (0 : Int32))] := hl
  have hown : s.vm.findClass R_R = some m.cls := hown
  refine lv_aload_n hx hb d_R_keep_0 rfl (lv_at hl 0 rfl) ?_
  refine zz_get (C := R_R) (T := F_R) (N := 12) (v := .int (u_r 1)) hx hb hts in_R hown hK hP 0 rfl rfl 3 (by decide) mw_8 rfl d_R_keep_1 ?_
  refine lv_bipush (v := (31 : Int32)) hx hb d_R_keep_4 (by decide) ?_
  refine lv_iand hx hb d_R_keep_6 ?_
  refine lv_istore_n (lv' := [(3, .int ((u_r 1) &&& (31 : Int32))), (0, .ref xR), (1, .ref xM), (2, .int (0 : Int32))]) hx hb d_R_keep_7 rfl hl (by decide) rfl (fun ls hl => ?_)
  refine lv_iload_n hx hb d_R_keep_8 rfl (lv_at hl 0 rfl) ?_
  refine zz_cS0 (rest := []) ⟨hx, hb, hml, hown, hts⟩ (k_M_isArea l D cI _ ((u_r 1) &&& (31 : Int32))) g_R_keep_M_isArea_41 nd_M_isArea ⟨⟨rfl, rfl⟩, Nat.le_of_ble_eq_true rfl, Nat.le_of_ble_eq_true rfl⟩ hK hP hD hS hA rfl rfl hl.1 (Nat.le_of_ble_eq_true rfl) d_R_keep_9 ⟨Nat.zero_le _, Nat.zero_le _⟩ (fun H locs hP hD hS => ?_)
  refine lv_if_ne (tgt := 17) hx hb d_R_keep_12 (by decide) (fun h1 => ?_) (fun h1 => ?_)
  ·
    refine lv_iload_n hx hb d_R_keep_17 rfl (lv_at hl 0 rfl) ?_
    refine zz_cS0 (rest := []) ⟨hx, hb, hml, hown, hts⟩ (k_M_areaStart l D cI _ ((u_r 1) &&& (31 : Int32))) g_R_keep_M_areaStart_47 nd_M_areaStart ⟨⟨rfl, rfl⟩, Nat.le_of_ble_eq_true rfl, Nat.le_of_ble_eq_true rfl⟩ hK hP hD hS hA rfl rfl hl.1 (Nat.le_of_ble_eq_true rfl) d_R_keep_18 ⟨Nat.zero_le _, Nat.zero_le _⟩ (fun H locs hP hD hS => ?_)
    refine lv_istore (lv' := [(4, .int (s_M_areaStart ((u_r 1) &&& (31 : Int32)))), (3, .int ((u_r 1) &&& (31 : Int32))), (0, .ref xR), (1, .ref xM), (2, .int (0 : Int32))]) hx hb d_R_keep_21 hl (by decide) rfl (fun ls hl => ?_)
    refine lv_aload_n hx hb d_R_keep_23 rfl (lv_at hl 2 rfl) ?_
    refine lv_aload_n hx hb d_R_keep_24 rfl (lv_at hl 3 rfl) ?_
    refine lv_iload hx hb d_R_keep_25 (lv_at hl 0 rfl) ?_
    refine zz_rVi (rest := [.ref xR]) ⟨hx, hb, hml, hown, hts⟩ (k_M_read l D cI _ xM xW u_M (s_M_areaStart ((u_r 1) &&& (31 : Int32)))) g_R_keep_M_read_51 nv_M_read ⟨⟨rfl, rfl⟩, Nat.le_of_ble_eq_true rfl, Nat.le_of_ble_eq_true rfl⟩ hK [0] rfl hP hD hS hA [3, 4] rfl rfl 3 0 rfl rfl rfl rfl hl.1 (Nat.le_of_ble_eq_true rfl) d_R_keep_27 ⟨Nat.zero_le _, Nat.zero_le _⟩ (fun H locs hP hD hS => ?_)
    refine zz_put (C := R_R) (T := F_R) (N := 12) (w' := [oR xR xD xA (upd u_r 1 (s_M_read u_M (s_M_areaStart ((u_r 1) &&& (31 : Int32))))), ar cI xD 8 u_d, ar cI xA 8 u_a, oM xM xW, ar cI xW 512 u_M]) hx hb hts in_R ty_R ty_R_ok n_R hown hK hP hD hS 0 rfl rfl 3 (by decide) mw_8 rfl rfl rfl (Nat.le_of_ble_eq_true rfl) d_R_keep_30 rfl (fun H locs hP hD hS => ?_)
    refine lv_aload_n hx hb d_R_keep_33 rfl (lv_at hl 3 rfl) ?_
    refine lv_iload hx hb d_R_keep_34 (lv_at hl 0 rfl) ?_
    refine lv_aload_n hx hb d_R_keep_36 rfl (lv_at hl 2 rfl) ?_
    show W p l e _ s m args below meth c _ _ _ _ Q (F0 m 37 ls _)
    refine zz_get (C := R_R) (T := F_R) (N := 12) (v := .int (u_r 3)) hx hb hts in_R hown hK hP 0 rfl rfl 5 (by decide) mw_9 rfl d_R_keep_37 ?_
    refine zz_cVv (rest := []) (wr := [oR xR xD xA (upd u_r 1 (s_M_read u_M (s_M_areaStart ((u_r 1) &&& (31 : Int32))))), ar cI xD 8 u_d, ar cI xA 8 u_a]) (w' := [oR xR xD xA (upd u_r 1 (s_M_read u_M (s_M_areaStart ((u_r 1) &&& (31 : Int32))))), ar cI xD 8 u_d, ar cI xA 8 u_a, oM xM xW, ar cI xW 512 (s_M_write u_M (s_M_areaStart ((u_r 1) &&& (31 : Int32))) (u_r 3))]) ⟨hx, hb, hml, hown, hts⟩ (k_M_write l D cI _ xM xW u_M (s_M_areaStart ((u_r 1) &&& (31 : Int32))) (u_r 3)) g_R_keep_M_write_57 nv_M_write ⟨⟨rfl, rfl⟩, Nat.le_of_ble_eq_true rfl, Nat.le_of_ble_eq_true rfl⟩ hK [0] rfl hP hD hS hA [3, 4] [0, 1, 2] [0, 1, 2, 3, 4] rfl rfl rfl rfl (by decide) rfl rfl 3 0 rfl rfl rfl rfl hl.1 (Nat.le_of_ble_eq_true rfl) d_R_keep_40 ⟨Nat.zero_le _, Nat.zero_le _⟩ (fun H locs hP hD hS => ?_)
    refine lv_aload_n hx hb d_R_keep_43 rfl (lv_at hl 3 rfl) ?_
    refine lv_iload hx hb d_R_keep_44 (lv_at hl 0 rfl) ?_
    refine lv_iconst (v := (1 : Int32)) hx hb d_R_keep_46 (by decide) ?_
    refine lv_iadd hx hb d_R_keep_47 ?_
    refine lv_iload_n hx hb d_R_keep_48 rfl (lv_at hl 4 rfl) ?_
    refine lv_if_eq (tgt := 59) hx hb d_R_keep_49 (by decide) (fun _ => ?_) (fun hh => absurd hh (by decide))
    refine lv_aload_n hx hb d_R_keep_59 rfl (lv_at hl 2 rfl) ?_
    refine zz_get (C := R_R) (T := F_R) (N := 12) (v := .ref xA) hx hb hts in_R hown hK hP 0 rfl rfl 1 (by decide) mw_7 rfl d_R_keep_60 ?_
    refine lv_bipush (v := (7 : Int32)) hx hb d_R_keep_63 (by decide) ?_
    refine va_iald hx hb hK hP 2 0 rfl rfl (zz_inc (by decide)) d_R_keep_65 ?_
    refine zz_cVv (rest := []) (wr := [oR xR xD xA (upd u_r 1 (s_M_read u_M (s_M_areaStart ((u_r 1) &&& (31 : Int32))))), ar cI xD 8 u_d, ar cI xA 8 u_a]) (w' := [oR xR xD xA (upd u_r 1 (s_M_read u_M (s_M_areaStart ((u_r 1) &&& (31 : Int32))))), ar cI xD 8 u_d, ar cI xA 8 u_a, oM xM xW, ar cI xW 512 (s_M_write (s_M_write u_M (s_M_areaStart ((u_r 1) &&& (31 : Int32))) (u_r 3)) ((s_M_areaStart ((u_r 1) &&& (31 : Int32))) + (1 : Int32)) (u_a (ix (7 : Int32))))]) ⟨hx, hb, hml, hown, hts⟩ (k_M_write l D cI _ xM xW (s_M_write u_M (s_M_areaStart ((u_r 1) &&& (31 : Int32))) (u_r 3)) ((s_M_areaStart ((u_r 1) &&& (31 : Int32))) + (1 : Int32)) (u_a (ix (7 : Int32)))) g_R_keep_M_write_57 nv_M_write ⟨⟨rfl, rfl⟩, Nat.le_of_ble_eq_true rfl, Nat.le_of_ble_eq_true rfl⟩ hK [0] rfl hP hD hS hA [3, 4] [0, 1, 2] [0, 1, 2, 3, 4] rfl rfl rfl rfl (by decide) rfl rfl 3 0 rfl rfl rfl rfl hl.1 (Nat.le_of_ble_eq_true rfl) d_R_keep_66 ⟨Nat.zero_le _, Nat.zero_le _⟩ (fun H locs hP hD hS => ?_)
    refine lv_aload_n hx hb d_R_keep_69 rfl (lv_at hl 3 rfl) ?_
    refine lv_iload hx hb d_R_keep_70 (lv_at hl 0 rfl) ?_
    refine lv_iconst (v := (2 : Int32)) hx hb d_R_keep_72 (by decide) ?_
    refine lv_iadd hx hb d_R_keep_73 ?_
    refine lv_iload_n hx hb d_R_keep_74 rfl (lv_at hl 4 rfl) ?_
    refine lv_if_eq (tgt := 88) hx hb d_R_keep_75 (by decide) (fun _ => ?_) (fun hh => absurd hh (by decide))
    refine lv_aload_n hx hb d_R_keep_88 rfl (lv_at hl 2 rfl) ?_
    refine zz_get (C := R_R) (T := F_R) (N := 12) (v := .ref xA) hx hb hts in_R hown hK hP 0 rfl rfl 1 (by decide) mw_7 rfl d_R_keep_89 ?_
    refine lv_iconst (v := (2 : Int32)) hx hb d_R_keep_92 (by decide) ?_
    refine va_iald hx hb hK hP 2 0 rfl rfl (zz_inc (by decide)) d_R_keep_93 ?_
    refine zz_cVv (rest := []) (wr := [oR xR xD xA (upd u_r 1 (s_M_read u_M (s_M_areaStart ((u_r 1) &&& (31 : Int32))))), ar cI xD 8 u_d, ar cI xA 8 u_a]) (w' := [oR xR xD xA (upd u_r 1 (s_M_read u_M (s_M_areaStart ((u_r 1) &&& (31 : Int32))))), ar cI xD 8 u_d, ar cI xA 8 u_a, oM xM xW, ar cI xW 512 (s_M_write (s_M_write (s_M_write u_M (s_M_areaStart ((u_r 1) &&& (31 : Int32))) (u_r 3)) ((s_M_areaStart ((u_r 1) &&& (31 : Int32))) + (1 : Int32)) (u_a (ix (7 : Int32)))) ((s_M_areaStart ((u_r 1) &&& (31 : Int32))) + (2 : Int32)) (u_a (ix (2 : Int32))))]) ⟨hx, hb, hml, hown, hts⟩ (k_M_write l D cI _ xM xW (s_M_write (s_M_write u_M (s_M_areaStart ((u_r 1) &&& (31 : Int32))) (u_r 3)) ((s_M_areaStart ((u_r 1) &&& (31 : Int32))) + (1 : Int32)) (u_a (ix (7 : Int32)))) ((s_M_areaStart ((u_r 1) &&& (31 : Int32))) + (2 : Int32)) (u_a (ix (2 : Int32)))) g_R_keep_M_write_57 nv_M_write ⟨⟨rfl, rfl⟩, Nat.le_of_ble_eq_true rfl, Nat.le_of_ble_eq_true rfl⟩ hK [0] rfl hP hD hS hA [3, 4] [0, 1, 2] [0, 1, 2, 3, 4] rfl rfl rfl rfl (by decide) rfl rfl 3 0 rfl rfl rfl rfl hl.1 (Nat.le_of_ble_eq_true rfl) d_R_keep_94 ⟨Nat.zero_le _, Nat.zero_le _⟩ (fun H locs hP hD hS => ?_)
    refine lv_aload_n hx hb d_R_keep_97 rfl (lv_at hl 3 rfl) ?_
    refine lv_iload hx hb d_R_keep_98 (lv_at hl 0 rfl) ?_
    refine lv_iconst (v := (3 : Int32)) hx hb d_R_keep_100 (by decide) ?_
    refine lv_iadd hx hb d_R_keep_101 ?_
    refine lv_iload_n hx hb d_R_keep_102 rfl (lv_at hl 4 rfl) ?_
    refine lv_if_eq (tgt := 116) hx hb d_R_keep_103 (by decide) (fun _ => ?_) (fun hh => absurd hh (by decide))
    refine lv_aload_n hx hb d_R_keep_116 rfl (lv_at hl 2 rfl) ?_
    refine zz_get (C := R_R) (T := F_R) (N := 12) (v := .ref xA) hx hb hts in_R hown hK hP 0 rfl rfl 1 (by decide) mw_7 rfl d_R_keep_117 ?_
    refine lv_iconst (v := (3 : Int32)) hx hb d_R_keep_120 (by decide) ?_
    refine va_iald hx hb hK hP 2 0 rfl rfl (zz_inc (by decide)) d_R_keep_121 ?_
    refine zz_cVv (rest := []) (wr := [oR xR xD xA (upd u_r 1 (s_M_read u_M (s_M_areaStart ((u_r 1) &&& (31 : Int32))))), ar cI xD 8 u_d, ar cI xA 8 u_a]) (w' := [oR xR xD xA (upd u_r 1 (s_M_read u_M (s_M_areaStart ((u_r 1) &&& (31 : Int32))))), ar cI xD 8 u_d, ar cI xA 8 u_a, oM xM xW, ar cI xW 512 (s_M_write (s_M_write (s_M_write (s_M_write u_M (s_M_areaStart ((u_r 1) &&& (31 : Int32))) (u_r 3)) ((s_M_areaStart ((u_r 1) &&& (31 : Int32))) + (1 : Int32)) (u_a (ix (7 : Int32)))) ((s_M_areaStart ((u_r 1) &&& (31 : Int32))) + (2 : Int32)) (u_a (ix (2 : Int32)))) ((s_M_areaStart ((u_r 1) &&& (31 : Int32))) + (3 : Int32)) (u_a (ix (3 : Int32))))]) ⟨hx, hb, hml, hown, hts⟩ (k_M_write l D cI _ xM xW (s_M_write (s_M_write (s_M_write u_M (s_M_areaStart ((u_r 1) &&& (31 : Int32))) (u_r 3)) ((s_M_areaStart ((u_r 1) &&& (31 : Int32))) + (1 : Int32)) (u_a (ix (7 : Int32)))) ((s_M_areaStart ((u_r 1) &&& (31 : Int32))) + (2 : Int32)) (u_a (ix (2 : Int32)))) ((s_M_areaStart ((u_r 1) &&& (31 : Int32))) + (3 : Int32)) (u_a (ix (3 : Int32)))) g_R_keep_M_write_57 nv_M_write ⟨⟨rfl, rfl⟩, Nat.le_of_ble_eq_true rfl, Nat.le_of_ble_eq_true rfl⟩ hK [0] rfl hP hD hS hA [3, 4] [0, 1, 2] [0, 1, 2, 3, 4] rfl rfl rfl rfl (by decide) rfl rfl 3 0 rfl rfl rfl rfl hl.1 (Nat.le_of_ble_eq_true rfl) d_R_keep_122 ⟨Nat.zero_le _, Nat.zero_le _⟩ (fun H locs hP hD hS => ?_)
    refine lv_iload_n hx hb d_R_keep_125 rfl (lv_at hl 4 rfl) ?_
    refine lv_if_eq (tgt := 133) hx hb d_R_keep_126 (by decide) (fun _ => ?_) (fun hh => absurd hh (by decide))
    refine lv_iconst (v := (0 : Int32)) hx hb d_R_keep_133 (by decide) ?_
    refine lv_istore (lv' := [(5, .int (0 : Int32)), (4, .int (s_M_areaStart ((u_r 1) &&& (31 : Int32)))), (3, .int ((u_r 1) &&& (31 : Int32))), (0, .ref xR), (1, .ref xM), (2, .int (0 : Int32))]) hx hb d_R_keep_134 hl (by decide) rfl (fun ls hl => ?_)
    refine lv_iconst (v := (0 : Int32)) hx hb d_R_keep_136 (by decide) ?_
    refine lv_istore (lv' := [(6, .int (0 : Int32)), (5, .int (0 : Int32)), (4, .int (s_M_areaStart ((u_r 1) &&& (31 : Int32)))), (3, .int ((u_r 1) &&& (31 : Int32))), (0, .ref xR), (1, .ref xM), (2, .int (0 : Int32))]) hx hb d_R_keep_137 hl (by decide) rfl (fun ls hl => ?_)
    refine lv_iload hx hb d_R_keep_139 (lv_at hl 0 rfl) ?_
    refine lv_iconst (v := (4 : Int32)) hx hb d_R_keep_141 (by decide) ?_
    refine lv_icmp_ge (tgt := 172) hx hb d_R_keep_142 (by decide) (fun hh => absurd hh (by decide)) (fun _ => ?_)
    refine lv_aload_n hx hb d_R_keep_145 rfl (lv_at hl 5 rfl) ?_
    refine lv_iload hx hb d_R_keep_146 (lv_at hl 2 rfl) ?_
    refine lv_iconst (v := (4 : Int32)) hx hb d_R_keep_148 (by decide) ?_
    refine lv_iadd hx hb d_R_keep_149 ?_
    refine lv_iload hx hb d_R_keep_150 (lv_at hl 0 rfl) ?_
    refine lv_iadd hx hb d_R_keep_152 ?_
    refine lv_aload_n hx hb d_R_keep_153 rfl (lv_at hl 4 rfl) ?_
    refine zz_get (C := R_R) (T := F_R) (N := 12) (v := .ref xD) hx hb hts in_R hown hK hP 0 rfl rfl 0 (by decide) mw_10 rfl d_R_keep_154 ?_
    refine lv_iload hx hb d_R_keep_157 (lv_at hl 1 rfl) ?_
    refine lv_iload hx hb d_R_keep_159 (lv_at hl 0 rfl) ?_
    refine lv_iadd hx hb d_R_keep_161 ?_
    refine lv_topi (fun zz ez => ?_)
    obtain rfl : zz = (0 : Int32) := ez.trans (by decide)
    show W p l e _ s m args below meth c _ _ _ _ Q (F0 m 162 ls _)
    refine va_iald hx hb hK hP 1 0 rfl rfl (zz_inc (by decide)) d_R_keep_162 ?_
    refine zz_cVv (rest := []) (wr := [oR xR xD xA (upd u_r 1 (s_M_read u_M (s_M_areaStart ((u_r 1) &&& (31 : Int32))))), ar cI xD 8 u_d, ar cI xA 8 u_a]) (w' := [oR xR xD xA (upd u_r 1 (s_M_read u_M (s_M_areaStart ((u_r 1) &&& (31 : Int32))))), ar cI xD 8 u_d, ar cI xA 8 u_a, oM xM xW, ar cI xW 512 (s_M_write (s_M_write (s_M_write (s_M_write (s_M_write u_M (s_M_areaStart ((u_r 1) &&& (31 : Int32))) (u_r 3)) ((s_M_areaStart ((u_r 1) &&& (31 : Int32))) + (1 : Int32)) (u_a (ix (7 : Int32)))) ((s_M_areaStart ((u_r 1) &&& (31 : Int32))) + (2 : Int32)) (u_a (ix (2 : Int32)))) ((s_M_areaStart ((u_r 1) &&& (31 : Int32))) + (3 : Int32)) (u_a (ix (3 : Int32)))) (((s_M_areaStart ((u_r 1) &&& (31 : Int32))) + (4 : Int32)) + (0 : Int32)) (u_d (ix (0 : Int32))))]) ⟨hx, hb, hml, hown, hts⟩ (k_M_write l D cI _ xM xW (s_M_write (s_M_write (s_M_write (s_M_write u_M (s_M_areaStart ((u_r 1) &&& (31 : Int32))) (u_r 3)) ((s_M_areaStart ((u_r 1) &&& (31 : Int32))) + (1 : Int32)) (u_a (ix (7 : Int32)))) ((s_M_areaStart ((u_r 1) &&& (31 : Int32))) + (2 : Int32)) (u_a (ix (2 : Int32)))) ((s_M_areaStart ((u_r 1) &&& (31 : Int32))) + (3 : Int32)) (u_a (ix (3 : Int32)))) (((s_M_areaStart ((u_r 1) &&& (31 : Int32))) + (4 : Int32)) + (0 : Int32)) (u_d (ix (0 : Int32)))) g_R_keep_M_write_57 nv_M_write ⟨⟨rfl, rfl⟩, Nat.le_of_ble_eq_true rfl, Nat.le_of_ble_eq_true rfl⟩ hK [0] rfl hP hD hS hA [3, 4] [0, 1, 2] [0, 1, 2, 3, 4] rfl rfl rfl rfl (by decide) rfl rfl 3 0 rfl rfl rfl rfl hl.1 (Nat.le_of_ble_eq_true rfl) d_R_keep_163 ⟨Nat.zero_le _, Nat.zero_le _⟩ (fun H locs hP hD hS => ?_)
    refine lv_iinc (v := (1 : Int32)) (lv' := [(6, .int (1 : Int32)), (5, .int (0 : Int32)), (4, .int (s_M_areaStart ((u_r 1) &&& (31 : Int32)))), (3, .int ((u_r 1) &&& (31 : Int32))), (0, .ref xR), (1, .ref xM), (2, .int (0 : Int32))]) (k := 0) hx hb d_R_keep_166 hl rfl (by decide) (by decide) rfl (fun ls hl => ?_)
    refine lv_goto (tgt := 139) hx hb d_R_keep_169 (by decide) ?_
    refine lv_iload hx hb d_R_keep_139 (lv_at hl 0 rfl) ?_
    refine lv_iconst (v := (4 : Int32)) hx hb d_R_keep_141 (by decide) ?_
    refine lv_icmp_ge (tgt := 172) hx hb d_R_keep_142 (by decide) (fun hh => absurd hh (by decide)) (fun _ => ?_)
    refine lv_aload_n hx hb d_R_keep_145 rfl (lv_at hl 5 rfl) ?_
    refine lv_iload hx hb d_R_keep_146 (lv_at hl 2 rfl) ?_
    refine lv_iconst (v := (4 : Int32)) hx hb d_R_keep_148 (by decide) ?_
    refine lv_iadd hx hb d_R_keep_149 ?_
    refine lv_iload hx hb d_R_keep_150 (lv_at hl 0 rfl) ?_
    refine lv_iadd hx hb d_R_keep_152 ?_
    refine lv_aload_n hx hb d_R_keep_153 rfl (lv_at hl 4 rfl) ?_
    refine zz_get (C := R_R) (T := F_R) (N := 12) (v := .ref xD) hx hb hts in_R hown hK hP 0 rfl rfl 0 (by decide) mw_10 rfl d_R_keep_154 ?_
    refine lv_iload hx hb d_R_keep_157 (lv_at hl 1 rfl) ?_
    refine lv_iload hx hb d_R_keep_159 (lv_at hl 0 rfl) ?_
    refine lv_iadd hx hb d_R_keep_161 ?_
    refine lv_topi (fun zz ez => ?_)
    obtain rfl : zz = (1 : Int32) := ez.trans (by decide)
    show W p l e _ s m args below meth c _ _ _ _ Q (F0 m 162 ls _)
    refine va_iald hx hb hK hP 1 0 rfl rfl (zz_inc (by decide)) d_R_keep_162 ?_
    refine zz_cVv (rest := []) (wr := [oR xR xD xA (upd u_r 1 (s_M_read u_M (s_M_areaStart ((u_r 1) &&& (31 : Int32))))), ar cI xD 8 u_d, ar cI xA 8 u_a]) (w' := [oR xR xD xA (upd u_r 1 (s_M_read u_M (s_M_areaStart ((u_r 1) &&& (31 : Int32))))), ar cI xD 8 u_d, ar cI xA 8 u_a, oM xM xW, ar cI xW 512 (s_M_write (s_M_write (s_M_write (s_M_write (s_M_write (s_M_write u_M (s_M_areaStart ((u_r 1) &&& (31 : Int32))) (u_r 3)) ((s_M_areaStart ((u_r 1) &&& (31 : Int32))) + (1 : Int32)) (u_a (ix (7 : Int32)))) ((s_M_areaStart ((u_r 1) &&& (31 : Int32))) + (2 : Int32)) (u_a (ix (2 : Int32)))) ((s_M_areaStart ((u_r 1) &&& (31 : Int32))) + (3 : Int32)) (u_a (ix (3 : Int32)))) (((s_M_areaStart ((u_r 1) &&& (31 : Int32))) + (4 : Int32)) + (0 : Int32)) (u_d (ix (0 : Int32)))) (((s_M_areaStart ((u_r 1) &&& (31 : Int32))) + (4 : Int32)) + (1 : Int32)) (u_d (ix (1 : Int32))))]) ⟨hx, hb, hml, hown, hts⟩ (k_M_write l D cI _ xM xW (s_M_write (s_M_write (s_M_write (s_M_write (s_M_write u_M (s_M_areaStart ((u_r 1) &&& (31 : Int32))) (u_r 3)) ((s_M_areaStart ((u_r 1) &&& (31 : Int32))) + (1 : Int32)) (u_a (ix (7 : Int32)))) ((s_M_areaStart ((u_r 1) &&& (31 : Int32))) + (2 : Int32)) (u_a (ix (2 : Int32)))) ((s_M_areaStart ((u_r 1) &&& (31 : Int32))) + (3 : Int32)) (u_a (ix (3 : Int32)))) (((s_M_areaStart ((u_r 1) &&& (31 : Int32))) + (4 : Int32)) + (0 : Int32)) (u_d (ix (0 : Int32)))) (((s_M_areaStart ((u_r 1) &&& (31 : Int32))) + (4 : Int32)) + (1 : Int32)) (u_d (ix (1 : Int32)))) g_R_keep_M_write_57 nv_M_write ⟨⟨rfl, rfl⟩, Nat.le_of_ble_eq_true rfl, Nat.le_of_ble_eq_true rfl⟩ hK [0] rfl hP hD hS hA [3, 4] [0, 1, 2] [0, 1, 2, 3, 4] rfl rfl rfl rfl (by decide) rfl rfl 3 0 rfl rfl rfl rfl hl.1 (Nat.le_of_ble_eq_true rfl) d_R_keep_163 ⟨Nat.zero_le _, Nat.zero_le _⟩ (fun H locs hP hD hS => ?_)
    refine lv_iinc (v := (2 : Int32)) (lv' := [(6, .int (2 : Int32)), (5, .int (0 : Int32)), (4, .int (s_M_areaStart ((u_r 1) &&& (31 : Int32)))), (3, .int ((u_r 1) &&& (31 : Int32))), (0, .ref xR), (1, .ref xM), (2, .int (0 : Int32))]) (k := 0) hx hb d_R_keep_166 hl rfl (by decide) (by decide) rfl (fun ls hl => ?_)
    refine lv_goto (tgt := 139) hx hb d_R_keep_169 (by decide) ?_
    refine lv_iload hx hb d_R_keep_139 (lv_at hl 0 rfl) ?_
    refine lv_iconst (v := (4 : Int32)) hx hb d_R_keep_141 (by decide) ?_
    refine lv_icmp_ge (tgt := 172) hx hb d_R_keep_142 (by decide) (fun hh => absurd hh (by decide)) (fun _ => ?_)
    refine lv_aload_n hx hb d_R_keep_145 rfl (lv_at hl 5 rfl) ?_
    refine lv_iload hx hb d_R_keep_146 (lv_at hl 2 rfl) ?_
    refine lv_iconst (v := (4 : Int32)) hx hb d_R_keep_148 (by decide) ?_
    refine lv_iadd hx hb d_R_keep_149 ?_
    refine lv_iload hx hb d_R_keep_150 (lv_at hl 0 rfl) ?_
    refine lv_iadd hx hb d_R_keep_152 ?_
    refine lv_aload_n hx hb d_R_keep_153 rfl (lv_at hl 4 rfl) ?_
    refine zz_get (C := R_R) (T := F_R) (N := 12) (v := .ref xD) hx hb hts in_R hown hK hP 0 rfl rfl 0 (by decide) mw_10 rfl d_R_keep_154 ?_
    refine lv_iload hx hb d_R_keep_157 (lv_at hl 1 rfl) ?_
    refine lv_iload hx hb d_R_keep_159 (lv_at hl 0 rfl) ?_
    refine lv_iadd hx hb d_R_keep_161 ?_
    refine lv_topi (fun zz ez => ?_)
    obtain rfl : zz = (2 : Int32) := ez.trans (by decide)
    show W p l e _ s m args below meth c _ _ _ _ Q (F0 m 162 ls _)
    refine va_iald hx hb hK hP 1 0 rfl rfl (zz_inc (by decide)) d_R_keep_162 ?_
    refine zz_cVv (rest := []) (wr := [oR xR xD xA (upd u_r 1 (s_M_read u_M (s_M_areaStart ((u_r 1) &&& (31 : Int32))))), ar cI xD 8 u_d, ar cI xA 8 u_a]) (w' := [oR xR xD xA (upd u_r 1 (s_M_read u_M (s_M_areaStart ((u_r 1) &&& (31 : Int32))))), ar cI xD 8 u_d, ar cI xA 8 u_a, oM xM xW, ar cI xW 512 (s_M_write (s_M_write (s_M_write (s_M_write (s_M_write (s_M_write (s_M_write u_M (s_M_areaStart ((u_r 1) &&& (31 : Int32))) (u_r 3)) ((s_M_areaStart ((u_r 1) &&& (31 : Int32))) + (1 : Int32)) (u_a (ix (7 : Int32)))) ((s_M_areaStart ((u_r 1) &&& (31 : Int32))) + (2 : Int32)) (u_a (ix (2 : Int32)))) ((s_M_areaStart ((u_r 1) &&& (31 : Int32))) + (3 : Int32)) (u_a (ix (3 : Int32)))) (((s_M_areaStart ((u_r 1) &&& (31 : Int32))) + (4 : Int32)) + (0 : Int32)) (u_d (ix (0 : Int32)))) (((s_M_areaStart ((u_r 1) &&& (31 : Int32))) + (4 : Int32)) + (1 : Int32)) (u_d (ix (1 : Int32)))) (((s_M_areaStart ((u_r 1) &&& (31 : Int32))) + (4 : Int32)) + (2 : Int32)) (u_d (ix (2 : Int32))))]) ⟨hx, hb, hml, hown, hts⟩ (k_M_write l D cI _ xM xW (s_M_write (s_M_write (s_M_write (s_M_write (s_M_write (s_M_write u_M (s_M_areaStart ((u_r 1) &&& (31 : Int32))) (u_r 3)) ((s_M_areaStart ((u_r 1) &&& (31 : Int32))) + (1 : Int32)) (u_a (ix (7 : Int32)))) ((s_M_areaStart ((u_r 1) &&& (31 : Int32))) + (2 : Int32)) (u_a (ix (2 : Int32)))) ((s_M_areaStart ((u_r 1) &&& (31 : Int32))) + (3 : Int32)) (u_a (ix (3 : Int32)))) (((s_M_areaStart ((u_r 1) &&& (31 : Int32))) + (4 : Int32)) + (0 : Int32)) (u_d (ix (0 : Int32)))) (((s_M_areaStart ((u_r 1) &&& (31 : Int32))) + (4 : Int32)) + (1 : Int32)) (u_d (ix (1 : Int32)))) (((s_M_areaStart ((u_r 1) &&& (31 : Int32))) + (4 : Int32)) + (2 : Int32)) (u_d (ix (2 : Int32)))) g_R_keep_M_write_57 nv_M_write ⟨⟨rfl, rfl⟩, Nat.le_of_ble_eq_true rfl, Nat.le_of_ble_eq_true rfl⟩ hK [0] rfl hP hD hS hA [3, 4] [0, 1, 2] [0, 1, 2, 3, 4] rfl rfl rfl rfl (by decide) rfl rfl 3 0 rfl rfl rfl rfl hl.1 (Nat.le_of_ble_eq_true rfl) d_R_keep_163 ⟨Nat.zero_le _, Nat.zero_le _⟩ (fun H locs hP hD hS => ?_)
    refine lv_iinc (v := (3 : Int32)) (lv' := [(6, .int (3 : Int32)), (5, .int (0 : Int32)), (4, .int (s_M_areaStart ((u_r 1) &&& (31 : Int32)))), (3, .int ((u_r 1) &&& (31 : Int32))), (0, .ref xR), (1, .ref xM), (2, .int (0 : Int32))]) (k := 0) hx hb d_R_keep_166 hl rfl (by decide) (by decide) rfl (fun ls hl => ?_)
    refine lv_goto (tgt := 139) hx hb d_R_keep_169 (by decide) ?_
    refine lv_iload hx hb d_R_keep_139 (lv_at hl 0 rfl) ?_
    refine lv_iconst (v := (4 : Int32)) hx hb d_R_keep_141 (by decide) ?_
    refine lv_icmp_ge (tgt := 172) hx hb d_R_keep_142 (by decide) (fun hh => absurd hh (by decide)) (fun _ => ?_)
    refine lv_aload_n hx hb d_R_keep_145 rfl (lv_at hl 5 rfl) ?_
    refine lv_iload hx hb d_R_keep_146 (lv_at hl 2 rfl) ?_
    refine lv_iconst (v := (4 : Int32)) hx hb d_R_keep_148 (by decide) ?_
    refine lv_iadd hx hb d_R_keep_149 ?_
    refine lv_iload hx hb d_R_keep_150 (lv_at hl 0 rfl) ?_
    refine lv_iadd hx hb d_R_keep_152 ?_
    refine lv_aload_n hx hb d_R_keep_153 rfl (lv_at hl 4 rfl) ?_
    refine zz_get (C := R_R) (T := F_R) (N := 12) (v := .ref xD) hx hb hts in_R hown hK hP 0 rfl rfl 0 (by decide) mw_10 rfl d_R_keep_154 ?_
    refine lv_iload hx hb d_R_keep_157 (lv_at hl 1 rfl) ?_
    refine lv_iload hx hb d_R_keep_159 (lv_at hl 0 rfl) ?_
    refine lv_iadd hx hb d_R_keep_161 ?_
    refine lv_topi (fun zz ez => ?_)
    obtain rfl : zz = (3 : Int32) := ez.trans (by decide)
    show W p l e _ s m args below meth c _ _ _ _ Q (F0 m 162 ls _)
    refine va_iald hx hb hK hP 1 0 rfl rfl (zz_inc (by decide)) d_R_keep_162 ?_
    refine zz_cVv (rest := []) (wr := [oR xR xD xA (upd u_r 1 (s_M_read u_M (s_M_areaStart ((u_r 1) &&& (31 : Int32))))), ar cI xD 8 u_d, ar cI xA 8 u_a]) (w' := [oR xR xD xA (upd u_r 1 (s_M_read u_M (s_M_areaStart ((u_r 1) &&& (31 : Int32))))), ar cI xD 8 u_d, ar cI xA 8 u_a, oM xM xW, ar cI xW 512 (s_M_write (s_M_write (s_M_write (s_M_write (s_M_write (s_M_write (s_M_write (s_M_write u_M (s_M_areaStart ((u_r 1) &&& (31 : Int32))) (u_r 3)) ((s_M_areaStart ((u_r 1) &&& (31 : Int32))) + (1 : Int32)) (u_a (ix (7 : Int32)))) ((s_M_areaStart ((u_r 1) &&& (31 : Int32))) + (2 : Int32)) (u_a (ix (2 : Int32)))) ((s_M_areaStart ((u_r 1) &&& (31 : Int32))) + (3 : Int32)) (u_a (ix (3 : Int32)))) (((s_M_areaStart ((u_r 1) &&& (31 : Int32))) + (4 : Int32)) + (0 : Int32)) (u_d (ix (0 : Int32)))) (((s_M_areaStart ((u_r 1) &&& (31 : Int32))) + (4 : Int32)) + (1 : Int32)) (u_d (ix (1 : Int32)))) (((s_M_areaStart ((u_r 1) &&& (31 : Int32))) + (4 : Int32)) + (2 : Int32)) (u_d (ix (2 : Int32)))) (((s_M_areaStart ((u_r 1) &&& (31 : Int32))) + (4 : Int32)) + (3 : Int32)) (u_d (ix (3 : Int32))))]) ⟨hx, hb, hml, hown, hts⟩ (k_M_write l D cI _ xM xW (s_M_write (s_M_write (s_M_write (s_M_write (s_M_write (s_M_write (s_M_write u_M (s_M_areaStart ((u_r 1) &&& (31 : Int32))) (u_r 3)) ((s_M_areaStart ((u_r 1) &&& (31 : Int32))) + (1 : Int32)) (u_a (ix (7 : Int32)))) ((s_M_areaStart ((u_r 1) &&& (31 : Int32))) + (2 : Int32)) (u_a (ix (2 : Int32)))) ((s_M_areaStart ((u_r 1) &&& (31 : Int32))) + (3 : Int32)) (u_a (ix (3 : Int32)))) (((s_M_areaStart ((u_r 1) &&& (31 : Int32))) + (4 : Int32)) + (0 : Int32)) (u_d (ix (0 : Int32)))) (((s_M_areaStart ((u_r 1) &&& (31 : Int32))) + (4 : Int32)) + (1 : Int32)) (u_d (ix (1 : Int32)))) (((s_M_areaStart ((u_r 1) &&& (31 : Int32))) + (4 : Int32)) + (2 : Int32)) (u_d (ix (2 : Int32)))) (((s_M_areaStart ((u_r 1) &&& (31 : Int32))) + (4 : Int32)) + (3 : Int32)) (u_d (ix (3 : Int32)))) g_R_keep_M_write_57 nv_M_write ⟨⟨rfl, rfl⟩, Nat.le_of_ble_eq_true rfl, Nat.le_of_ble_eq_true rfl⟩ hK [0] rfl hP hD hS hA [3, 4] [0, 1, 2] [0, 1, 2, 3, 4] rfl rfl rfl rfl (by decide) rfl rfl 3 0 rfl rfl rfl rfl hl.1 (Nat.le_of_ble_eq_true rfl) d_R_keep_163 ⟨Nat.zero_le _, Nat.zero_le _⟩ (fun H locs hP hD hS => ?_)
    refine lv_iinc (v := (4 : Int32)) (lv' := [(6, .int (4 : Int32)), (5, .int (0 : Int32)), (4, .int (s_M_areaStart ((u_r 1) &&& (31 : Int32)))), (3, .int ((u_r 1) &&& (31 : Int32))), (0, .ref xR), (1, .ref xM), (2, .int (0 : Int32))]) (k := 0) hx hb d_R_keep_166 hl rfl (by decide) (by decide) rfl (fun ls hl => ?_)
    refine lv_goto (tgt := 139) hx hb d_R_keep_169 (by decide) ?_
    refine lv_iload hx hb d_R_keep_139 (lv_at hl 0 rfl) ?_
    refine lv_iconst (v := (4 : Int32)) hx hb d_R_keep_141 (by decide) ?_
    refine lv_icmp_ge (tgt := 172) hx hb d_R_keep_142 (by decide) (fun _ => ?_) (fun hh => absurd hh (by decide))
    refine lv_aload_n hx hb d_R_keep_172 rfl (lv_at hl 4 rfl) ?_
    refine lv_iload_n hx hb d_R_keep_173 rfl (lv_at hl 3 rfl) ?_
    refine lv_iload_n hx hb d_R_keep_174 rfl (lv_at hl 6 rfl) ?_
    refine lv_if_eq (tgt := 183) hx hb d_R_keep_175 (by decide) (fun _ => ?_) (fun hh => absurd hh (by decide))
    refine lv_iconst (v := (0 : Int32)) hx hb d_R_keep_183 (by decide) ?_
    refine lv_iadd hx hb d_R_keep_184 ?_
    refine lv_sipush (v := (256 : Int32)) hx hb d_R_keep_185 (by decide) ?_
    refine lv_aload_n hx hb d_R_keep_188 rfl (lv_at hl 4 rfl) ?_
    refine zz_get (C := R_R) (T := F_R) (N := 12) (v := .int (u_r 7)) hx hb hts in_R hown hK hP 0 rfl rfl 9 (by decide) mw_5 rfl d_R_keep_189 ?_
    refine lv_imul hx hb d_R_keep_192 ?_
    refine lv_iadd hx hb d_R_keep_193 ?_
    refine lv_aload_n hx hb d_R_keep_194 rfl (lv_at hl 4 rfl) ?_
    refine zz_get (C := R_R) (T := F_R) (N := 12) (v := .int (u_r 8)) hx hb hts in_R hown hK hP 0 rfl rfl 10 (by decide) mw_6 rfl d_R_keep_195 ?_
    have J198_2 : ∀ (vj198_0 : Int32) (ls : Array Slot) (H : Heap) (locs : List Loc), vj198_0 = (if (u_r 8) = 0 then (0 : Int32) else (4096 : Int32)) → lv_has ls 7 [(6, .int (4 : Int32)), (5, .int (0 : Int32)), (4, .int (s_M_areaStart ((u_r 1) &&& (31 : Int32)))), (3, .int ((u_r 1) &&& (31 : Int32))), (0, .ref xR), (1, .ref xM), (2, .int (0 : Int32))] → va_P D classes [oR xR xD xA (upd u_r 1 (s_M_read u_M (s_M_areaStart ((u_r 1) &&& (31 : Int32))))), ar cI xD 8 u_d, ar cI xA 8 u_a, oM xM xW, ar cI xW 512 (s_M_write (s_M_write (s_M_write (s_M_write (s_M_write (s_M_write (s_M_write (s_M_write u_M (s_M_areaStart ((u_r 1) &&& (31 : Int32))) (u_r 3)) ((s_M_areaStart ((u_r 1) &&& (31 : Int32))) + (1 : Int32)) (u_a (ix (7 : Int32)))) ((s_M_areaStart ((u_r 1) &&& (31 : Int32))) + (2 : Int32)) (u_a (ix (2 : Int32)))) ((s_M_areaStart ((u_r 1) &&& (31 : Int32))) + (3 : Int32)) (u_a (ix (3 : Int32)))) (((s_M_areaStart ((u_r 1) &&& (31 : Int32))) + (4 : Int32)) + (0 : Int32)) (u_d (ix (0 : Int32)))) (((s_M_areaStart ((u_r 1) &&& (31 : Int32))) + (4 : Int32)) + (1 : Int32)) (u_d (ix (1 : Int32)))) (((s_M_areaStart ((u_r 1) &&& (31 : Int32))) + (4 : Int32)) + (2 : Int32)) (u_d (ix (2 : Int32)))) (((s_M_areaStart ((u_r 1) &&& (31 : Int32))) + (4 : Int32)) + (3 : Int32)) (u_d (ix (3 : Int32))))] H → va_D A [oR xR xD xA (upd u_r 1 (s_M_read u_M (s_M_areaStart ((u_r 1) &&& (31 : Int32))))), ar cI xD 8 u_d, ar cI xA 8 u_a, oM xM xW, ar cI xW 512 (s_M_write (s_M_write (s_M_write (s_M_write (s_M_write (s_M_write (s_M_write (s_M_write u_M (s_M_areaStart ((u_r 1) &&& (31 : Int32))) (u_r 3)) ((s_M_areaStart ((u_r 1) &&& (31 : Int32))) + (1 : Int32)) (u_a (ix (7 : Int32)))) ((s_M_areaStart ((u_r 1) &&& (31 : Int32))) + (2 : Int32)) (u_a (ix (2 : Int32)))) ((s_M_areaStart ((u_r 1) &&& (31 : Int32))) + (3 : Int32)) (u_a (ix (3 : Int32)))) (((s_M_areaStart ((u_r 1) &&& (31 : Int32))) + (4 : Int32)) + (0 : Int32)) (u_d (ix (0 : Int32)))) (((s_M_areaStart ((u_r 1) &&& (31 : Int32))) + (4 : Int32)) + (1 : Int32)) (u_d (ix (1 : Int32)))) (((s_M_areaStart ((u_r 1) &&& (31 : Int32))) + (4 : Int32)) + (2 : Int32)) (u_d (ix (2 : Int32)))) (((s_M_areaStart ((u_r 1) &&& (31 : Int32))) + (4 : Int32)) + (3 : Int32)) (u_d (ix (3 : Int32))))] → va_S A s.heap H locs → W p l e { frames := 2, cells := 0, slots := 0, locals := 42 } s m args below meth c H locs 0 0 Q (F0 m 208 ls [.int vj198_0, .int ((((u_r 1) &&& (31 : Int32)) + (0 : Int32)) + ((256 : Int32) * (u_r 7))), .ref xR]) := by
      intro vj198_0 ls H locs evj198_0 hl hP hD hS
      subst evj198_0
      refine lv_iadd hx hb d_R_keep_208 ?_
      refine zz_put (C := R_R) (T := F_R) (N := 12) (w' := [oR xR xD xA (upd (upd u_r 1 (s_M_read u_M (s_M_areaStart ((u_r 1) &&& (31 : Int32))))) 3 (((((u_r 1) &&& (31 : Int32)) + (0 : Int32)) + ((256 : Int32) * (u_r 7))) + (if (u_r 8) = 0 then (0 : Int32) else (4096 : Int32)))), ar cI xD 8 u_d, ar cI xA 8 u_a, oM xM xW, ar cI xW 512 (s_M_write (s_M_write (s_M_write (s_M_write (s_M_write (s_M_write (s_M_write (s_M_write u_M (s_M_areaStart ((u_r 1) &&& (31 : Int32))) (u_r 3)) ((s_M_areaStart ((u_r 1) &&& (31 : Int32))) + (1 : Int32)) (u_a (ix (7 : Int32)))) ((s_M_areaStart ((u_r 1) &&& (31 : Int32))) + (2 : Int32)) (u_a (ix (2 : Int32)))) ((s_M_areaStart ((u_r 1) &&& (31 : Int32))) + (3 : Int32)) (u_a (ix (3 : Int32)))) (((s_M_areaStart ((u_r 1) &&& (31 : Int32))) + (4 : Int32)) + (0 : Int32)) (u_d (ix (0 : Int32)))) (((s_M_areaStart ((u_r 1) &&& (31 : Int32))) + (4 : Int32)) + (1 : Int32)) (u_d (ix (1 : Int32)))) (((s_M_areaStart ((u_r 1) &&& (31 : Int32))) + (4 : Int32)) + (2 : Int32)) (u_d (ix (2 : Int32)))) (((s_M_areaStart ((u_r 1) &&& (31 : Int32))) + (4 : Int32)) + (3 : Int32)) (u_d (ix (3 : Int32))))]) hx hb hts in_R ty_R ty_R_ok n_R hown hK hP hD hS 0 rfl rfl 5 (by decide) mw_9 rfl rfl rfl (Nat.le_of_ble_eq_true rfl) d_R_keep_209 rfl (fun H locs hP hD hS => ?_)
      refine lv_aload_n hx hb d_R_keep_212 rfl (lv_at hl 4 rfl) ?_
      refine zz_get (C := R_R) (T := F_R) (N := 12) (v := .int (s_M_read u_M (s_M_areaStart ((u_r 1) &&& (31 : Int32))))) hx hb hts in_R hown hK hP 0 rfl rfl 3 (by decide) mw_8 rfl d_R_keep_213 ?_
      refine lv_bipush (v := (31 : Int32)) hx hb d_R_keep_216 (by decide) ?_
      refine lv_iand hx hb d_R_keep_218 ?_
      refine lv_aload_n hx hb d_R_keep_219 rfl (lv_at hl 4 rfl) ?_
      refine zz_get (C := R_R) (T := F_R) (N := 12) (v := .int (u_r 2)) hx hb hts in_R hown hK hP 0 rfl rfl 4 (by decide) mw_11 rfl d_R_keep_220 ?_
      refine lv_icmp_ne (tgt := 231) hx hb d_R_keep_223 (by decide) (fun h3 => ?_) (fun h3 => ?_)
      ·
        refine lv_iconst (v := (1 : Int32)) hx hb d_R_keep_231 (by decide) ?_
        have hsp : s_R_keepL u_r u_d u_a u_M = ((1 : Int32), upd (upd u_r 1 (s_M_read u_M (s_M_areaStart ((u_r 1) &&& (31 : Int32))))) 3 (((((u_r 1) &&& (31 : Int32)) + (0 : Int32)) + ((256 : Int32) * (u_r 7))) + (if (u_r 8) = 0 then (0 : Int32) else (4096 : Int32))), (s_M_write (s_M_write (s_M_write (s_M_write (s_M_write (s_M_write (s_M_write (s_M_write u_M (s_M_areaStart ((u_r 1) &&& (31 : Int32))) (u_r 3)) ((s_M_areaStart ((u_r 1) &&& (31 : Int32))) + (1 : Int32)) (u_a (ix (7 : Int32)))) ((s_M_areaStart ((u_r 1) &&& (31 : Int32))) + (2 : Int32)) (u_a (ix (2 : Int32)))) ((s_M_areaStart ((u_r 1) &&& (31 : Int32))) + (3 : Int32)) (u_a (ix (3 : Int32)))) (((s_M_areaStart ((u_r 1) &&& (31 : Int32))) + (4 : Int32)) + (0 : Int32)) (u_d (ix (0 : Int32)))) (((s_M_areaStart ((u_r 1) &&& (31 : Int32))) + (4 : Int32)) + (1 : Int32)) (u_d (ix (1 : Int32)))) (((s_M_areaStart ((u_r 1) &&& (31 : Int32))) + (4 : Int32)) + (2 : Int32)) (u_d (ix (2 : Int32)))) (((s_M_areaStart ((u_r 1) &&& (31 : Int32))) + (4 : Int32)) + (3 : Int32)) (u_d (ix (3 : Int32))))) := (by unfold s_R_keepL; rw [if_neg h1, if_neg h3])
        rw [hsp] at hE
        exact hE _ _ _ _ hP hD hS d_R_keep_232
      ·
        refine lv_aload_n hx hb d_R_keep_226 rfl (lv_at hl 4 rfl) ?_
        refine lv_iconst (v := (1 : Int32)) hx hb d_R_keep_227 (by decide) ?_
        refine zz_put (C := R_R) (T := F_R) (N := 12) (w' := [oR xR xD xA (upd (upd (upd u_r 1 (s_M_read u_M (s_M_areaStart ((u_r 1) &&& (31 : Int32))))) 3 (((((u_r 1) &&& (31 : Int32)) + (0 : Int32)) + ((256 : Int32) * (u_r 7))) + (if (u_r 8) = 0 then (0 : Int32) else (4096 : Int32)))) 9 (1 : Int32)), ar cI xD 8 u_d, ar cI xA 8 u_a, oM xM xW, ar cI xW 512 (s_M_write (s_M_write (s_M_write (s_M_write (s_M_write (s_M_write (s_M_write (s_M_write u_M (s_M_areaStart ((u_r 1) &&& (31 : Int32))) (u_r 3)) ((s_M_areaStart ((u_r 1) &&& (31 : Int32))) + (1 : Int32)) (u_a (ix (7 : Int32)))) ((s_M_areaStart ((u_r 1) &&& (31 : Int32))) + (2 : Int32)) (u_a (ix (2 : Int32)))) ((s_M_areaStart ((u_r 1) &&& (31 : Int32))) + (3 : Int32)) (u_a (ix (3 : Int32)))) (((s_M_areaStart ((u_r 1) &&& (31 : Int32))) + (4 : Int32)) + (0 : Int32)) (u_d (ix (0 : Int32)))) (((s_M_areaStart ((u_r 1) &&& (31 : Int32))) + (4 : Int32)) + (1 : Int32)) (u_d (ix (1 : Int32)))) (((s_M_areaStart ((u_r 1) &&& (31 : Int32))) + (4 : Int32)) + (2 : Int32)) (u_d (ix (2 : Int32)))) (((s_M_areaStart ((u_r 1) &&& (31 : Int32))) + (4 : Int32)) + (3 : Int32)) (u_d (ix (3 : Int32))))]) hx hb hts in_R ty_R ty_R_ok n_R hown hK hP hD hS 0 rfl rfl 11 (by decide) mw_12 rfl rfl rfl (Nat.le_of_ble_eq_true rfl) d_R_keep_228 rfl (fun H locs hP hD hS => ?_)
        refine lv_iconst (v := (1 : Int32)) hx hb d_R_keep_231 (by decide) ?_
        have hsp : s_R_keepL u_r u_d u_a u_M = ((1 : Int32), upd (upd (upd u_r 1 (s_M_read u_M (s_M_areaStart ((u_r 1) &&& (31 : Int32))))) 3 (((((u_r 1) &&& (31 : Int32)) + (0 : Int32)) + ((256 : Int32) * (u_r 7))) + (if (u_r 8) = 0 then (0 : Int32) else (4096 : Int32)))) 9 (1 : Int32), (s_M_write (s_M_write (s_M_write (s_M_write (s_M_write (s_M_write (s_M_write (s_M_write u_M (s_M_areaStart ((u_r 1) &&& (31 : Int32))) (u_r 3)) ((s_M_areaStart ((u_r 1) &&& (31 : Int32))) + (1 : Int32)) (u_a (ix (7 : Int32)))) ((s_M_areaStart ((u_r 1) &&& (31 : Int32))) + (2 : Int32)) (u_a (ix (2 : Int32)))) ((s_M_areaStart ((u_r 1) &&& (31 : Int32))) + (3 : Int32)) (u_a (ix (3 : Int32)))) (((s_M_areaStart ((u_r 1) &&& (31 : Int32))) + (4 : Int32)) + (0 : Int32)) (u_d (ix (0 : Int32)))) (((s_M_areaStart ((u_r 1) &&& (31 : Int32))) + (4 : Int32)) + (1 : Int32)) (u_d (ix (1 : Int32)))) (((s_M_areaStart ((u_r 1) &&& (31 : Int32))) + (4 : Int32)) + (2 : Int32)) (u_d (ix (2 : Int32)))) (((s_M_areaStart ((u_r 1) &&& (31 : Int32))) + (4 : Int32)) + (3 : Int32)) (u_d (ix (3 : Int32))))) := (by unfold s_R_keepL; rw [if_neg h1, if_pos h3])
        rw [hsp] at hE
        exact hE _ _ _ _ hP hD hS d_R_keep_232
    refine lv_if_eq (tgt := 207) hx hb d_R_keep_198 (by decide) (fun h2 => ?_) (fun h2 => ?_)
    ·
      refine lv_iconst (v := (0 : Int32)) hx hb d_R_keep_207 (by decide) ?_
      exact J198_2 (0 : Int32) _ _ _ (by rw [if_pos h2]) (lv_sub hl [0, 1, 2, 3, 4, 5, 6] rfl) hP hD hS
    ·
      refine lv_sipush (v := (4096 : Int32)) hx hb d_R_keep_201 (by decide) ?_
      refine lv_goto (tgt := 208) hx hb d_R_keep_204 (by decide) ?_
      exact J198_2 (4096 : Int32) _ _ _ (by rw [if_neg h2]) (lv_sub hl [0, 1, 2, 3, 4, 5, 6] rfl) hP hD hS
  ·
    refine lv_iconst (v := (0 : Int32)) hx hb d_R_keep_15 (by decide) ?_
    have hsp : s_R_keepL u_r u_d u_a u_M = ((0 : Int32), u_r, u_M) := (by unfold s_R_keepL; rw [if_pos h1])
    rw [hsp] at hE
    exact hE _ _ _ _ hP hD hS d_R_keep_16
set_option maxHeartbeats 4000000 in
set_option maxRecDepth 100000 in
theorem k_R_refuseBackL (l : Launch) (D : va_G) (cI : ClassId) (sz : Nat) (xR : Nat) (xD : Nat) (xA : Nat) (u_r : Nat → Int32) (u_d : Nat → Int32) (u_a : Nat → Int32) : zMi l y_R_refuseBack (.code y_R_refuseBack b_R_refuseBack 3 (some .int) :: wd) { frames := 1, cells := 0, slots := 0, locals := 20 } D classes [(cI, .int)] [.ref xR, .int (0 : Int32)] [oR xR xD xA u_r, ar cI xD 8 u_d, ar cI xA 8 u_a] [oR xR xD xA u_r, ar cI xD 8 u_d, ar cI xA 8 u_a] sz (s_R_refuseBackL u_r u_d u_a) := by
  refine met_i (by decide) (Nat.le_of_ble_eq_true rfl) rfl ?_
  intro p e s m args below meth c A Q ls hx hb hml hown hts hK hP hD hS hA hl hE
  have hl : lv_has ls 3 [(0, .ref xR), (1, .int (0 : Int32))] := hl
  have hown : s.vm.findClass R_R = some m.cls := hown
  refine lv_aload_n hx hb d_R_refuseBack_0 rfl (lv_at hl 0 rfl) ?_
  refine zz_get (C := R_R) (T := F_R) (N := 12) (v := .int (u_r 3)) hx hb hts in_R hown hK hP 0 rfl rfl 5 (by decide) mw_9 rfl d_R_refuseBack_1 ?_
  refine lv_bipush (v := (31 : Int32)) hx hb d_R_refuseBack_4 (by decide) ?_
  refine lv_iand hx hb d_R_refuseBack_6 ?_
  refine zz_cS0 (rest := []) ⟨hx, hb, hml, hown, hts⟩ (k_M_isArea l D cI _ ((u_r 3) &&& (31 : Int32))) g_R_refuseBack_M_isArea_41 nd_M_isArea ⟨⟨rfl, rfl⟩, Nat.le_of_ble_eq_true rfl, Nat.le_of_ble_eq_true rfl⟩ hK hP hD hS hA rfl rfl hl.1 (Nat.le_of_ble_eq_true rfl) d_R_refuseBack_7 ⟨Nat.zero_le _, Nat.zero_le _⟩ (fun H locs hP hD hS => ?_)
  refine lv_if_ne (tgt := 15) hx hb d_R_refuseBack_10 (by decide) (fun h1 => ?_) (fun h1 => ?_)
  ·
    refine lv_aload_n hx hb d_R_refuseBack_15 rfl (lv_at hl 0 rfl) ?_
    refine zz_get (C := R_R) (T := F_R) (N := 12) (v := .int (u_r 3)) hx hb hts in_R hown hK hP 0 rfl rfl 5 (by decide) mw_9 rfl d_R_refuseBack_16 ?_
    refine lv_bipush (v := (32 : Int32)) hx hb d_R_refuseBack_19 (by decide) ?_
    refine lv_iand hx hb d_R_refuseBack_21 ?_
    have J22_2 : ∀ (vj22_0 : Int32) (ls : Array Slot) (H : Heap) (locs : List Loc), vj22_0 = (if ((u_r 3) &&& (32 : Int32)) = 0 then (0 : Int32) else (1 : Int32)) → lv_has ls 3 [(0, .ref xR), (1, .int (0 : Int32))] → va_P D classes [oR xR xD xA u_r, ar cI xD 8 u_d, ar cI xA 8 u_a] H → va_D A [oR xR xD xA u_r, ar cI xD 8 u_d, ar cI xA 8 u_a] → va_S A s.heap H locs → W p l e { frames := 1, cells := 0, slots := 0, locals := 20 } s m args below meth c H locs 0 0 Q (F0 m 30 ls [.int vj22_0]) := by
      intro vj22_0 ls H locs evj22_0 hl hP hD hS
      subst evj22_0
      refine lv_istore_n (lv' := [(2, .int (if ((u_r 3) &&& (32 : Int32)) = 0 then (0 : Int32) else (1 : Int32))), (0, .ref xR), (1, .int (0 : Int32))]) hx hb d_R_refuseBack_30 rfl hl (by decide) rfl (fun ls hl => ?_)
      refine lv_iload_n hx hb d_R_refuseBack_31 rfl (lv_at hl 0 rfl) ?_
      refine lv_iload_n hx hb d_R_refuseBack_32 rfl (lv_at hl 2 rfl) ?_
      refine lv_icmp_ne (tgt := 40) hx hb d_R_refuseBack_33 (by decide) (fun h3 => ?_) (fun h3 => ?_)
      ·
        refine lv_sipush (v := (772 : Int32)) hx hb d_R_refuseBack_40 (by decide) ?_
        have hsp : s_R_refuseBackL u_r u_d u_a = (772 : Int32) := (by unfold s_R_refuseBackL; rw [if_neg h1, if_neg h3])
        rw [hsp] at hE
        exact hE _ _ _ _ hP hD hS d_R_refuseBack_43
      ·
        refine lv_iconst (v := (0 : Int32)) hx hb d_R_refuseBack_36 (by decide) ?_
        refine lv_goto (tgt := 43) hx hb d_R_refuseBack_37 (by decide) ?_
        have hsp : s_R_refuseBackL u_r u_d u_a = (0 : Int32) := (by unfold s_R_refuseBackL; rw [if_neg h1, if_pos h3])
        rw [hsp] at hE
        exact hE _ _ _ _ hP hD hS d_R_refuseBack_43
    refine lv_if_eq (tgt := 29) hx hb d_R_refuseBack_22 (by decide) (fun h2 => ?_) (fun h2 => ?_)
    ·
      refine lv_iconst (v := (0 : Int32)) hx hb d_R_refuseBack_29 (by decide) ?_
      exact J22_2 (0 : Int32) _ _ _ (by rw [if_pos h2]) (lv_sub hl [0, 1] rfl) hP hD hS
    ·
      refine lv_iconst (v := (1 : Int32)) hx hb d_R_refuseBack_25 (by decide) ?_
      refine lv_goto (tgt := 30) hx hb d_R_refuseBack_26 (by decide) ?_
      exact J22_2 (1 : Int32) _ _ _ (by rw [if_neg h2]) (lv_sub hl [0, 1] rfl) hP hD hS
  ·
    refine lv_iconst (v := (2 : Int32)) hx hb d_R_refuseBack_13 (by decide) ?_
    have hsp : s_R_refuseBackL u_r u_d u_a = (2 : Int32) := (by unfold s_R_refuseBackL; rw [if_pos h1])
    rw [hsp] at hE
    exact hE _ _ _ _ hP hD hS d_R_refuseBack_14
set_option maxHeartbeats 4000000 in
set_option maxRecDepth 100000 in
theorem k_R_bringBackL (l : Launch) (D : va_G) (cI : ClassId) (sz : Nat) (xR : Nat) (xD : Nat) (xA : Nat) (xM : Nat) (xW : Nat) (u_r : Nat → Int32) (u_d : Nat → Int32) (u_a : Nat → Int32) (u_M : Nat → Int32) : zMv l y_R_bringBack (.code y_R_bringBack b_R_bringBack 7 (none) :: wd) { frames := 2, cells := 0, slots := 0, locals := 42 } D classes [(cI, .int)] [.ref xR, .ref xM, .int (0 : Int32)] [oR xR xD xA u_r, ar cI xD 8 u_d, ar cI xA 8 u_a, oM xM xW, ar cI xW 512 u_M] [oR xR xD xA ((s_R_bringBackL u_r u_d u_a u_M).1), ar cI xD 8 ((s_R_bringBackL u_r u_d u_a u_M).2.1), ar cI xA 8 ((s_R_bringBackL u_r u_d u_a u_M).2.2.1), oM xM xW, ar cI xW 512 ((s_R_bringBackL u_r u_d u_a u_M).2.2.2)] sz := by
  refine met_v (by decide) (Nat.le_of_ble_eq_true rfl) ?_
  intro p e s m args below meth c A Q ls hx hb hml hown hts hK hP hD hS hA hl hE
  have hl : lv_has ls 7 [(0, .ref xR), (1, .ref xM), (2, .int (0 : Int32))] := hl
  have hown : s.vm.findClass R_R = some m.cls := hown
  refine lv_aload_n hx hb d_R_bringBack_0 rfl (lv_at hl 0 rfl) ?_
  refine zz_get (C := R_R) (T := F_R) (N := 12) (v := .int (u_r 3)) hx hb hts in_R hown hK hP 0 rfl rfl 5 (by decide) mw_9 rfl d_R_bringBack_1 ?_
  refine lv_bipush (v := (31 : Int32)) hx hb d_R_bringBack_4 (by decide) ?_
  refine lv_iand hx hb d_R_bringBack_6 ?_
  refine lv_istore_n (lv' := [(3, .int ((u_r 3) &&& (31 : Int32))), (0, .ref xR), (1, .ref xM), (2, .int (0 : Int32))]) hx hb d_R_bringBack_7 rfl hl (by decide) rfl (fun ls hl => ?_)
  refine lv_iload_n hx hb d_R_bringBack_8 rfl (lv_at hl 0 rfl) ?_
  refine zz_cS0 (rest := []) ⟨hx, hb, hml, hown, hts⟩ (k_M_areaStart l D cI _ ((u_r 3) &&& (31 : Int32))) g_R_bringBack_M_areaStart_47 nd_M_areaStart ⟨⟨rfl, rfl⟩, Nat.le_of_ble_eq_true rfl, Nat.le_of_ble_eq_true rfl⟩ hK hP hD hS hA rfl rfl hl.1 (Nat.le_of_ble_eq_true rfl) d_R_bringBack_9 ⟨Nat.zero_le _, Nat.zero_le _⟩ (fun H locs hP hD hS => ?_)
  refine lv_istore (lv' := [(4, .int (s_M_areaStart ((u_r 3) &&& (31 : Int32)))), (3, .int ((u_r 3) &&& (31 : Int32))), (0, .ref xR), (1, .ref xM), (2, .int (0 : Int32))]) hx hb d_R_bringBack_12 hl (by decide) rfl (fun ls hl => ?_)
  refine lv_aload_n hx hb d_R_bringBack_14 rfl (lv_at hl 2 rfl) ?_
  refine lv_aload_n hx hb d_R_bringBack_15 rfl (lv_at hl 3 rfl) ?_
  refine lv_iload hx hb d_R_bringBack_16 (lv_at hl 0 rfl) ?_
  show W p l e _ s m args below meth c _ _ _ _ Q (F0 m 18 ls _)
  refine zz_rVi (rest := [.ref xR]) ⟨hx, hb, hml, hown, hts⟩ (k_M_read l D cI _ xM xW u_M (s_M_areaStart ((u_r 3) &&& (31 : Int32)))) g_R_bringBack_M_read_51 nv_M_read ⟨⟨rfl, rfl⟩, Nat.le_of_ble_eq_true rfl, Nat.le_of_ble_eq_true rfl⟩ hK [0] rfl hP hD hS hA [3, 4] rfl rfl 3 0 rfl rfl rfl rfl hl.1 (Nat.le_of_ble_eq_true rfl) d_R_bringBack_18 ⟨Nat.zero_le _, Nat.zero_le _⟩ (fun H locs hP hD hS => ?_)
  refine zz_put (C := R_R) (T := F_R) (N := 12) (w' := [oR xR xD xA (upd u_r 3 (s_M_read u_M (s_M_areaStart ((u_r 3) &&& (31 : Int32))))), ar cI xD 8 u_d, ar cI xA 8 u_a, oM xM xW, ar cI xW 512 u_M]) hx hb hts in_R ty_R ty_R_ok n_R hown hK hP hD hS 0 rfl rfl 5 (by decide) mw_9 rfl rfl rfl (Nat.le_of_ble_eq_true rfl) d_R_bringBack_21 rfl (fun H locs hP hD hS => ?_)
  refine lv_iload_n hx hb d_R_bringBack_24 rfl (lv_at hl 4 rfl) ?_
  refine lv_if_eq (tgt := 73) hx hb d_R_bringBack_25 (by decide) (fun _ => ?_) (fun hh => absurd hh (by decide))
  refine lv_aload_n hx hb d_R_bringBack_73 rfl (lv_at hl 2 rfl) ?_
  refine zz_get (C := R_R) (T := F_R) (N := 12) (v := .ref xA) hx hb hts in_R hown hK hP 0 rfl rfl 1 (by decide) mw_7 rfl d_R_bringBack_74 ?_
  refine lv_bipush (v := (7 : Int32)) hx hb d_R_bringBack_77 (by decide) ?_
  refine lv_aload_n hx hb d_R_bringBack_79 rfl (lv_at hl 3 rfl) ?_
  refine lv_iload hx hb d_R_bringBack_80 (lv_at hl 0 rfl) ?_
  refine lv_iconst (v := (1 : Int32)) hx hb d_R_bringBack_82 (by decide) ?_
  refine lv_iadd hx hb d_R_bringBack_83 ?_
  refine zz_rVi (rest := [.int (7 : Int32), .ref xA]) ⟨hx, hb, hml, hown, hts⟩ (k_M_read l D cI _ xM xW u_M ((s_M_areaStart ((u_r 3) &&& (31 : Int32))) + (1 : Int32))) g_R_bringBack_M_read_51 nv_M_read ⟨⟨rfl, rfl⟩, Nat.le_of_ble_eq_true rfl, Nat.le_of_ble_eq_true rfl⟩ hK [0] rfl hP hD hS hA [3, 4] rfl rfl 3 0 rfl rfl rfl rfl hl.1 (Nat.le_of_ble_eq_true rfl) d_R_bringBack_84 ⟨Nat.zero_le _, Nat.zero_le _⟩ (fun H locs hP hD hS => ?_)
  refine zz_iast (w' := [oR xR xD xA (upd u_r 3 (s_M_read u_M (s_M_areaStart ((u_r 3) &&& (31 : Int32))))), ar cI xD 8 u_d, ar cI xA 8 (upd u_a (ix (7 : Int32)) (s_M_read u_M ((s_M_areaStart ((u_r 3) &&& (31 : Int32))) + (1 : Int32)))), oM xM xW, ar cI xW 512 u_M]) hx hb hK hP hD hS 2 0 rfl rfl (zz_inc (by decide)) d_R_bringBack_87 rfl (fun H locs hP hD hS => ?_)
  refine lv_aload_n hx hb d_R_bringBack_88 rfl (lv_at hl 2 rfl) ?_
  refine zz_get (C := R_R) (T := F_R) (N := 12) (v := .ref xA) hx hb hts in_R hown hK hP 0 rfl rfl 1 (by decide) mw_7 rfl d_R_bringBack_89 ?_
  show W p l e _ s m args below meth c _ _ _ _ Q (F0 m 92 ls _)
  refine lv_iconst (v := (2 : Int32)) hx hb d_R_bringBack_92 (by decide) ?_
  refine lv_aload_n hx hb d_R_bringBack_93 rfl (lv_at hl 3 rfl) ?_
  refine lv_iload hx hb d_R_bringBack_94 (lv_at hl 0 rfl) ?_
  refine lv_iconst (v := (2 : Int32)) hx hb d_R_bringBack_96 (by decide) ?_
  refine lv_iadd hx hb d_R_bringBack_97 ?_
  refine zz_rVi (rest := [.int (2 : Int32), .ref xA]) ⟨hx, hb, hml, hown, hts⟩ (k_M_read l D cI _ xM xW u_M ((s_M_areaStart ((u_r 3) &&& (31 : Int32))) + (2 : Int32))) g_R_bringBack_M_read_51 nv_M_read ⟨⟨rfl, rfl⟩, Nat.le_of_ble_eq_true rfl, Nat.le_of_ble_eq_true rfl⟩ hK [0] rfl hP hD hS hA [3, 4] rfl rfl 3 0 rfl rfl rfl rfl hl.1 (Nat.le_of_ble_eq_true rfl) d_R_bringBack_98 ⟨Nat.zero_le _, Nat.zero_le _⟩ (fun H locs hP hD hS => ?_)
  refine zz_iast (w' := [oR xR xD xA (upd u_r 3 (s_M_read u_M (s_M_areaStart ((u_r 3) &&& (31 : Int32))))), ar cI xD 8 u_d, ar cI xA 8 (upd (upd u_a (ix (7 : Int32)) (s_M_read u_M ((s_M_areaStart ((u_r 3) &&& (31 : Int32))) + (1 : Int32)))) (ix (2 : Int32)) (s_M_read u_M ((s_M_areaStart ((u_r 3) &&& (31 : Int32))) + (2 : Int32)))), oM xM xW, ar cI xW 512 u_M]) hx hb hK hP hD hS 2 0 rfl rfl (zz_inc (by decide)) d_R_bringBack_101 rfl (fun H locs hP hD hS => ?_)
  refine lv_aload_n hx hb d_R_bringBack_102 rfl (lv_at hl 2 rfl) ?_
  refine zz_get (C := R_R) (T := F_R) (N := 12) (v := .ref xA) hx hb hts in_R hown hK hP 0 rfl rfl 1 (by decide) mw_7 rfl d_R_bringBack_103 ?_
  refine lv_iconst (v := (3 : Int32)) hx hb d_R_bringBack_106 (by decide) ?_
  refine lv_aload_n hx hb d_R_bringBack_107 rfl (lv_at hl 3 rfl) ?_
  refine lv_iload hx hb d_R_bringBack_108 (lv_at hl 0 rfl) ?_
  show W p l e _ s m args below meth c _ _ _ _ Q (F0 m 110 ls _)
  refine lv_iconst (v := (3 : Int32)) hx hb d_R_bringBack_110 (by decide) ?_
  refine lv_iadd hx hb d_R_bringBack_111 ?_
  refine zz_rVi (rest := [.int (3 : Int32), .ref xA]) ⟨hx, hb, hml, hown, hts⟩ (k_M_read l D cI _ xM xW u_M ((s_M_areaStart ((u_r 3) &&& (31 : Int32))) + (3 : Int32))) g_R_bringBack_M_read_51 nv_M_read ⟨⟨rfl, rfl⟩, Nat.le_of_ble_eq_true rfl, Nat.le_of_ble_eq_true rfl⟩ hK [0] rfl hP hD hS hA [3, 4] rfl rfl 3 0 rfl rfl rfl rfl hl.1 (Nat.le_of_ble_eq_true rfl) d_R_bringBack_112 ⟨Nat.zero_le _, Nat.zero_le _⟩ (fun H locs hP hD hS => ?_)
  refine zz_iast (w' := [oR xR xD xA (upd u_r 3 (s_M_read u_M (s_M_areaStart ((u_r 3) &&& (31 : Int32))))), ar cI xD 8 u_d, ar cI xA 8 (upd (upd (upd u_a (ix (7 : Int32)) (s_M_read u_M ((s_M_areaStart ((u_r 3) &&& (31 : Int32))) + (1 : Int32)))) (ix (2 : Int32)) (s_M_read u_M ((s_M_areaStart ((u_r 3) &&& (31 : Int32))) + (2 : Int32)))) (ix (3 : Int32)) (s_M_read u_M ((s_M_areaStart ((u_r 3) &&& (31 : Int32))) + (3 : Int32)))), oM xM xW, ar cI xW 512 u_M]) hx hb hK hP hD hS 2 0 rfl rfl (zz_inc (by decide)) d_R_bringBack_115 rfl (fun H locs hP hD hS => ?_)
  refine lv_iload_n hx hb d_R_bringBack_116 rfl (lv_at hl 4 rfl) ?_
  refine lv_if_eq (tgt := 124) hx hb d_R_bringBack_117 (by decide) (fun _ => ?_) (fun hh => absurd hh (by decide))
  refine lv_iconst (v := (0 : Int32)) hx hb d_R_bringBack_124 (by decide) ?_
  refine lv_istore (lv' := [(5, .int (0 : Int32)), (4, .int (s_M_areaStart ((u_r 3) &&& (31 : Int32)))), (3, .int ((u_r 3) &&& (31 : Int32))), (0, .ref xR), (1, .ref xM), (2, .int (0 : Int32))]) hx hb d_R_bringBack_125 hl (by decide) rfl (fun ls hl => ?_)
  refine lv_iconst (v := (0 : Int32)) hx hb d_R_bringBack_127 (by decide) ?_
  refine lv_istore (lv' := [(6, .int (0 : Int32)), (5, .int (0 : Int32)), (4, .int (s_M_areaStart ((u_r 3) &&& (31 : Int32)))), (3, .int ((u_r 3) &&& (31 : Int32))), (0, .ref xR), (1, .ref xM), (2, .int (0 : Int32))]) hx hb d_R_bringBack_128 hl (by decide) rfl (fun ls hl => ?_)
  refine lv_iload hx hb d_R_bringBack_130 (lv_at hl 0 rfl) ?_
  refine lv_iconst (v := (4 : Int32)) hx hb d_R_bringBack_132 (by decide) ?_
  refine lv_icmp_ge (tgt := 163) hx hb d_R_bringBack_133 (by decide) (fun hh => absurd hh (by decide)) (fun _ => ?_)
  refine lv_aload_n hx hb d_R_bringBack_136 rfl (lv_at hl 4 rfl) ?_
  refine zz_get (C := R_R) (T := F_R) (N := 12) (v := .ref xD) hx hb hts in_R hown hK hP 0 rfl rfl 0 (by decide) mw_10 rfl d_R_bringBack_137 ?_
  refine lv_iload hx hb d_R_bringBack_140 (lv_at hl 1 rfl) ?_
  refine lv_iload hx hb d_R_bringBack_142 (lv_at hl 0 rfl) ?_
  refine lv_iadd hx hb d_R_bringBack_144 ?_
  refine lv_topi (fun zz ez => ?_)
  obtain rfl : zz = (0 : Int32) := ez.trans (by decide)
  refine lv_aload_n hx hb d_R_bringBack_145 rfl (lv_at hl 5 rfl) ?_
  refine lv_iload hx hb d_R_bringBack_146 (lv_at hl 2 rfl) ?_
  refine lv_iconst (v := (4 : Int32)) hx hb d_R_bringBack_148 (by decide) ?_
  refine lv_iadd hx hb d_R_bringBack_149 ?_
  refine lv_iload hx hb d_R_bringBack_150 (lv_at hl 0 rfl) ?_
  refine lv_iadd hx hb d_R_bringBack_152 ?_
  show W p l e _ s m args below meth c _ _ _ _ Q (F0 m 153 ls _)
  refine zz_rVi (rest := [.int (0 : Int32), .ref xD]) ⟨hx, hb, hml, hown, hts⟩ (k_M_read l D cI _ xM xW u_M (((s_M_areaStart ((u_r 3) &&& (31 : Int32))) + (4 : Int32)) + (0 : Int32))) g_R_bringBack_M_read_51 nv_M_read ⟨⟨rfl, rfl⟩, Nat.le_of_ble_eq_true rfl, Nat.le_of_ble_eq_true rfl⟩ hK [0] rfl hP hD hS hA [3, 4] rfl rfl 3 0 rfl rfl rfl rfl hl.1 (Nat.le_of_ble_eq_true rfl) d_R_bringBack_153 ⟨Nat.zero_le _, Nat.zero_le _⟩ (fun H locs hP hD hS => ?_)
  refine zz_iast (w' := [oR xR xD xA (upd u_r 3 (s_M_read u_M (s_M_areaStart ((u_r 3) &&& (31 : Int32))))), ar cI xD 8 (upd u_d (ix (0 : Int32)) (s_M_read u_M (((s_M_areaStart ((u_r 3) &&& (31 : Int32))) + (4 : Int32)) + (0 : Int32)))), ar cI xA 8 (upd (upd (upd u_a (ix (7 : Int32)) (s_M_read u_M ((s_M_areaStart ((u_r 3) &&& (31 : Int32))) + (1 : Int32)))) (ix (2 : Int32)) (s_M_read u_M ((s_M_areaStart ((u_r 3) &&& (31 : Int32))) + (2 : Int32)))) (ix (3 : Int32)) (s_M_read u_M ((s_M_areaStart ((u_r 3) &&& (31 : Int32))) + (3 : Int32)))), oM xM xW, ar cI xW 512 u_M]) hx hb hK hP hD hS 1 0 rfl rfl (zz_inc (by decide)) d_R_bringBack_156 rfl (fun H locs hP hD hS => ?_)
  refine lv_iinc (v := (1 : Int32)) (lv' := [(6, .int (1 : Int32)), (5, .int (0 : Int32)), (4, .int (s_M_areaStart ((u_r 3) &&& (31 : Int32)))), (3, .int ((u_r 3) &&& (31 : Int32))), (0, .ref xR), (1, .ref xM), (2, .int (0 : Int32))]) (k := 0) hx hb d_R_bringBack_157 hl rfl (by decide) (by decide) rfl (fun ls hl => ?_)
  refine lv_goto (tgt := 130) hx hb d_R_bringBack_160 (by decide) ?_
  refine lv_iload hx hb d_R_bringBack_130 (lv_at hl 0 rfl) ?_
  refine lv_iconst (v := (4 : Int32)) hx hb d_R_bringBack_132 (by decide) ?_
  refine lv_icmp_ge (tgt := 163) hx hb d_R_bringBack_133 (by decide) (fun hh => absurd hh (by decide)) (fun _ => ?_)
  refine lv_aload_n hx hb d_R_bringBack_136 rfl (lv_at hl 4 rfl) ?_
  refine zz_get (C := R_R) (T := F_R) (N := 12) (v := .ref xD) hx hb hts in_R hown hK hP 0 rfl rfl 0 (by decide) mw_10 rfl d_R_bringBack_137 ?_
  refine lv_iload hx hb d_R_bringBack_140 (lv_at hl 1 rfl) ?_
  refine lv_iload hx hb d_R_bringBack_142 (lv_at hl 0 rfl) ?_
  refine lv_iadd hx hb d_R_bringBack_144 ?_
  refine lv_topi (fun zz ez => ?_)
  obtain rfl : zz = (1 : Int32) := ez.trans (by decide)
  refine lv_aload_n hx hb d_R_bringBack_145 rfl (lv_at hl 5 rfl) ?_
  refine lv_iload hx hb d_R_bringBack_146 (lv_at hl 2 rfl) ?_
  refine lv_iconst (v := (4 : Int32)) hx hb d_R_bringBack_148 (by decide) ?_
  refine lv_iadd hx hb d_R_bringBack_149 ?_
  refine lv_iload hx hb d_R_bringBack_150 (lv_at hl 0 rfl) ?_
  refine lv_iadd hx hb d_R_bringBack_152 ?_
  show W p l e _ s m args below meth c _ _ _ _ Q (F0 m 153 ls _)
  refine zz_rVi (rest := [.int (1 : Int32), .ref xD]) ⟨hx, hb, hml, hown, hts⟩ (k_M_read l D cI _ xM xW u_M (((s_M_areaStart ((u_r 3) &&& (31 : Int32))) + (4 : Int32)) + (1 : Int32))) g_R_bringBack_M_read_51 nv_M_read ⟨⟨rfl, rfl⟩, Nat.le_of_ble_eq_true rfl, Nat.le_of_ble_eq_true rfl⟩ hK [0] rfl hP hD hS hA [3, 4] rfl rfl 3 0 rfl rfl rfl rfl hl.1 (Nat.le_of_ble_eq_true rfl) d_R_bringBack_153 ⟨Nat.zero_le _, Nat.zero_le _⟩ (fun H locs hP hD hS => ?_)
  refine zz_iast (w' := [oR xR xD xA (upd u_r 3 (s_M_read u_M (s_M_areaStart ((u_r 3) &&& (31 : Int32))))), ar cI xD 8 (upd (upd u_d (ix (0 : Int32)) (s_M_read u_M (((s_M_areaStart ((u_r 3) &&& (31 : Int32))) + (4 : Int32)) + (0 : Int32)))) (ix (1 : Int32)) (s_M_read u_M (((s_M_areaStart ((u_r 3) &&& (31 : Int32))) + (4 : Int32)) + (1 : Int32)))), ar cI xA 8 (upd (upd (upd u_a (ix (7 : Int32)) (s_M_read u_M ((s_M_areaStart ((u_r 3) &&& (31 : Int32))) + (1 : Int32)))) (ix (2 : Int32)) (s_M_read u_M ((s_M_areaStart ((u_r 3) &&& (31 : Int32))) + (2 : Int32)))) (ix (3 : Int32)) (s_M_read u_M ((s_M_areaStart ((u_r 3) &&& (31 : Int32))) + (3 : Int32)))), oM xM xW, ar cI xW 512 u_M]) hx hb hK hP hD hS 1 0 rfl rfl (zz_inc (by decide)) d_R_bringBack_156 rfl (fun H locs hP hD hS => ?_)
  refine lv_iinc (v := (2 : Int32)) (lv' := [(6, .int (2 : Int32)), (5, .int (0 : Int32)), (4, .int (s_M_areaStart ((u_r 3) &&& (31 : Int32)))), (3, .int ((u_r 3) &&& (31 : Int32))), (0, .ref xR), (1, .ref xM), (2, .int (0 : Int32))]) (k := 0) hx hb d_R_bringBack_157 hl rfl (by decide) (by decide) rfl (fun ls hl => ?_)
  refine lv_goto (tgt := 130) hx hb d_R_bringBack_160 (by decide) ?_
  refine lv_iload hx hb d_R_bringBack_130 (lv_at hl 0 rfl) ?_
  refine lv_iconst (v := (4 : Int32)) hx hb d_R_bringBack_132 (by decide) ?_
  refine lv_icmp_ge (tgt := 163) hx hb d_R_bringBack_133 (by decide) (fun hh => absurd hh (by decide)) (fun _ => ?_)
  refine lv_aload_n hx hb d_R_bringBack_136 rfl (lv_at hl 4 rfl) ?_
  refine zz_get (C := R_R) (T := F_R) (N := 12) (v := .ref xD) hx hb hts in_R hown hK hP 0 rfl rfl 0 (by decide) mw_10 rfl d_R_bringBack_137 ?_
  refine lv_iload hx hb d_R_bringBack_140 (lv_at hl 1 rfl) ?_
  refine lv_iload hx hb d_R_bringBack_142 (lv_at hl 0 rfl) ?_
  refine lv_iadd hx hb d_R_bringBack_144 ?_
  refine lv_topi (fun zz ez => ?_)
  obtain rfl : zz = (2 : Int32) := ez.trans (by decide)
  refine lv_aload_n hx hb d_R_bringBack_145 rfl (lv_at hl 5 rfl) ?_
  refine lv_iload hx hb d_R_bringBack_146 (lv_at hl 2 rfl) ?_
  refine lv_iconst (v := (4 : Int32)) hx hb d_R_bringBack_148 (by decide) ?_
  refine lv_iadd hx hb d_R_bringBack_149 ?_
  refine lv_iload hx hb d_R_bringBack_150 (lv_at hl 0 rfl) ?_
  refine lv_iadd hx hb d_R_bringBack_152 ?_
  show W p l e _ s m args below meth c _ _ _ _ Q (F0 m 153 ls _)
  refine zz_rVi (rest := [.int (2 : Int32), .ref xD]) ⟨hx, hb, hml, hown, hts⟩ (k_M_read l D cI _ xM xW u_M (((s_M_areaStart ((u_r 3) &&& (31 : Int32))) + (4 : Int32)) + (2 : Int32))) g_R_bringBack_M_read_51 nv_M_read ⟨⟨rfl, rfl⟩, Nat.le_of_ble_eq_true rfl, Nat.le_of_ble_eq_true rfl⟩ hK [0] rfl hP hD hS hA [3, 4] rfl rfl 3 0 rfl rfl rfl rfl hl.1 (Nat.le_of_ble_eq_true rfl) d_R_bringBack_153 ⟨Nat.zero_le _, Nat.zero_le _⟩ (fun H locs hP hD hS => ?_)
  refine zz_iast (w' := [oR xR xD xA (upd u_r 3 (s_M_read u_M (s_M_areaStart ((u_r 3) &&& (31 : Int32))))), ar cI xD 8 (upd (upd (upd u_d (ix (0 : Int32)) (s_M_read u_M (((s_M_areaStart ((u_r 3) &&& (31 : Int32))) + (4 : Int32)) + (0 : Int32)))) (ix (1 : Int32)) (s_M_read u_M (((s_M_areaStart ((u_r 3) &&& (31 : Int32))) + (4 : Int32)) + (1 : Int32)))) (ix (2 : Int32)) (s_M_read u_M (((s_M_areaStart ((u_r 3) &&& (31 : Int32))) + (4 : Int32)) + (2 : Int32)))), ar cI xA 8 (upd (upd (upd u_a (ix (7 : Int32)) (s_M_read u_M ((s_M_areaStart ((u_r 3) &&& (31 : Int32))) + (1 : Int32)))) (ix (2 : Int32)) (s_M_read u_M ((s_M_areaStart ((u_r 3) &&& (31 : Int32))) + (2 : Int32)))) (ix (3 : Int32)) (s_M_read u_M ((s_M_areaStart ((u_r 3) &&& (31 : Int32))) + (3 : Int32)))), oM xM xW, ar cI xW 512 u_M]) hx hb hK hP hD hS 1 0 rfl rfl (zz_inc (by decide)) d_R_bringBack_156 rfl (fun H locs hP hD hS => ?_)
  refine lv_iinc (v := (3 : Int32)) (lv' := [(6, .int (3 : Int32)), (5, .int (0 : Int32)), (4, .int (s_M_areaStart ((u_r 3) &&& (31 : Int32)))), (3, .int ((u_r 3) &&& (31 : Int32))), (0, .ref xR), (1, .ref xM), (2, .int (0 : Int32))]) (k := 0) hx hb d_R_bringBack_157 hl rfl (by decide) (by decide) rfl (fun ls hl => ?_)
  refine lv_goto (tgt := 130) hx hb d_R_bringBack_160 (by decide) ?_
  refine lv_iload hx hb d_R_bringBack_130 (lv_at hl 0 rfl) ?_
  refine lv_iconst (v := (4 : Int32)) hx hb d_R_bringBack_132 (by decide) ?_
  refine lv_icmp_ge (tgt := 163) hx hb d_R_bringBack_133 (by decide) (fun hh => absurd hh (by decide)) (fun _ => ?_)
  refine lv_aload_n hx hb d_R_bringBack_136 rfl (lv_at hl 4 rfl) ?_
  refine zz_get (C := R_R) (T := F_R) (N := 12) (v := .ref xD) hx hb hts in_R hown hK hP 0 rfl rfl 0 (by decide) mw_10 rfl d_R_bringBack_137 ?_
  refine lv_iload hx hb d_R_bringBack_140 (lv_at hl 1 rfl) ?_
  refine lv_iload hx hb d_R_bringBack_142 (lv_at hl 0 rfl) ?_
  refine lv_iadd hx hb d_R_bringBack_144 ?_
  refine lv_topi (fun zz ez => ?_)
  obtain rfl : zz = (3 : Int32) := ez.trans (by decide)
  refine lv_aload_n hx hb d_R_bringBack_145 rfl (lv_at hl 5 rfl) ?_
  refine lv_iload hx hb d_R_bringBack_146 (lv_at hl 2 rfl) ?_
  refine lv_iconst (v := (4 : Int32)) hx hb d_R_bringBack_148 (by decide) ?_
  refine lv_iadd hx hb d_R_bringBack_149 ?_
  refine lv_iload hx hb d_R_bringBack_150 (lv_at hl 0 rfl) ?_
  refine lv_iadd hx hb d_R_bringBack_152 ?_
  show W p l e _ s m args below meth c _ _ _ _ Q (F0 m 153 ls _)
  refine zz_rVi (rest := [.int (3 : Int32), .ref xD]) ⟨hx, hb, hml, hown, hts⟩ (k_M_read l D cI _ xM xW u_M (((s_M_areaStart ((u_r 3) &&& (31 : Int32))) + (4 : Int32)) + (3 : Int32))) g_R_bringBack_M_read_51 nv_M_read ⟨⟨rfl, rfl⟩, Nat.le_of_ble_eq_true rfl, Nat.le_of_ble_eq_true rfl⟩ hK [0] rfl hP hD hS hA [3, 4] rfl rfl 3 0 rfl rfl rfl rfl hl.1 (Nat.le_of_ble_eq_true rfl) d_R_bringBack_153 ⟨Nat.zero_le _, Nat.zero_le _⟩ (fun H locs hP hD hS => ?_)
  refine zz_iast (w' := [oR xR xD xA (upd u_r 3 (s_M_read u_M (s_M_areaStart ((u_r 3) &&& (31 : Int32))))), ar cI xD 8 (upd (upd (upd (upd u_d (ix (0 : Int32)) (s_M_read u_M (((s_M_areaStart ((u_r 3) &&& (31 : Int32))) + (4 : Int32)) + (0 : Int32)))) (ix (1 : Int32)) (s_M_read u_M (((s_M_areaStart ((u_r 3) &&& (31 : Int32))) + (4 : Int32)) + (1 : Int32)))) (ix (2 : Int32)) (s_M_read u_M (((s_M_areaStart ((u_r 3) &&& (31 : Int32))) + (4 : Int32)) + (2 : Int32)))) (ix (3 : Int32)) (s_M_read u_M (((s_M_areaStart ((u_r 3) &&& (31 : Int32))) + (4 : Int32)) + (3 : Int32)))), ar cI xA 8 (upd (upd (upd u_a (ix (7 : Int32)) (s_M_read u_M ((s_M_areaStart ((u_r 3) &&& (31 : Int32))) + (1 : Int32)))) (ix (2 : Int32)) (s_M_read u_M ((s_M_areaStart ((u_r 3) &&& (31 : Int32))) + (2 : Int32)))) (ix (3 : Int32)) (s_M_read u_M ((s_M_areaStart ((u_r 3) &&& (31 : Int32))) + (3 : Int32)))), oM xM xW, ar cI xW 512 u_M]) hx hb hK hP hD hS 1 0 rfl rfl (zz_inc (by decide)) d_R_bringBack_156 rfl (fun H locs hP hD hS => ?_)
  refine lv_iinc (v := (4 : Int32)) (lv' := [(6, .int (4 : Int32)), (5, .int (0 : Int32)), (4, .int (s_M_areaStart ((u_r 3) &&& (31 : Int32)))), (3, .int ((u_r 3) &&& (31 : Int32))), (0, .ref xR), (1, .ref xM), (2, .int (0 : Int32))]) (k := 0) hx hb d_R_bringBack_157 hl rfl (by decide) (by decide) rfl (fun ls hl => ?_)
  refine lv_goto (tgt := 130) hx hb d_R_bringBack_160 (by decide) ?_
  refine lv_iload hx hb d_R_bringBack_130 (lv_at hl 0 rfl) ?_
  refine lv_iconst (v := (4 : Int32)) hx hb d_R_bringBack_132 (by decide) ?_
  refine lv_icmp_ge (tgt := 163) hx hb d_R_bringBack_133 (by decide) (fun _ => ?_) (fun hh => absurd hh (by decide))
  refine lv_aload_n hx hb d_R_bringBack_163 rfl (lv_at hl 5 rfl) ?_
  refine lv_iload hx hb d_R_bringBack_164 (lv_at hl 2 rfl) ?_
  refine lv_aload_n hx hb d_R_bringBack_166 rfl (lv_at hl 4 rfl) ?_
  refine zz_get (C := R_R) (T := F_R) (N := 12) (v := .int (u_r 1)) hx hb hts in_R hown hK hP 0 rfl rfl 3 (by decide) mw_8 rfl d_R_bringBack_167 ?_
  refine zz_cVv (rest := []) (wr := [oR xR xD xA (upd u_r 3 (s_M_read u_M (s_M_areaStart ((u_r 3) &&& (31 : Int32))))), ar cI xD 8 (upd (upd (upd (upd u_d (ix (0 : Int32)) (s_M_read u_M (((s_M_areaStart ((u_r 3) &&& (31 : Int32))) + (4 : Int32)) + (0 : Int32)))) (ix (1 : Int32)) (s_M_read u_M (((s_M_areaStart ((u_r 3) &&& (31 : Int32))) + (4 : Int32)) + (1 : Int32)))) (ix (2 : Int32)) (s_M_read u_M (((s_M_areaStart ((u_r 3) &&& (31 : Int32))) + (4 : Int32)) + (2 : Int32)))) (ix (3 : Int32)) (s_M_read u_M (((s_M_areaStart ((u_r 3) &&& (31 : Int32))) + (4 : Int32)) + (3 : Int32)))), ar cI xA 8 (upd (upd (upd u_a (ix (7 : Int32)) (s_M_read u_M ((s_M_areaStart ((u_r 3) &&& (31 : Int32))) + (1 : Int32)))) (ix (2 : Int32)) (s_M_read u_M ((s_M_areaStart ((u_r 3) &&& (31 : Int32))) + (2 : Int32)))) (ix (3 : Int32)) (s_M_read u_M ((s_M_areaStart ((u_r 3) &&& (31 : Int32))) + (3 : Int32))))]) (w' := [oR xR xD xA (upd u_r 3 (s_M_read u_M (s_M_areaStart ((u_r 3) &&& (31 : Int32))))), ar cI xD 8 (upd (upd (upd (upd u_d (ix (0 : Int32)) (s_M_read u_M (((s_M_areaStart ((u_r 3) &&& (31 : Int32))) + (4 : Int32)) + (0 : Int32)))) (ix (1 : Int32)) (s_M_read u_M (((s_M_areaStart ((u_r 3) &&& (31 : Int32))) + (4 : Int32)) + (1 : Int32)))) (ix (2 : Int32)) (s_M_read u_M (((s_M_areaStart ((u_r 3) &&& (31 : Int32))) + (4 : Int32)) + (2 : Int32)))) (ix (3 : Int32)) (s_M_read u_M (((s_M_areaStart ((u_r 3) &&& (31 : Int32))) + (4 : Int32)) + (3 : Int32)))), ar cI xA 8 (upd (upd (upd u_a (ix (7 : Int32)) (s_M_read u_M ((s_M_areaStart ((u_r 3) &&& (31 : Int32))) + (1 : Int32)))) (ix (2 : Int32)) (s_M_read u_M ((s_M_areaStart ((u_r 3) &&& (31 : Int32))) + (2 : Int32)))) (ix (3 : Int32)) (s_M_read u_M ((s_M_areaStart ((u_r 3) &&& (31 : Int32))) + (3 : Int32)))), oM xM xW, ar cI xW 512 (s_M_write u_M (s_M_areaStart ((u_r 3) &&& (31 : Int32))) (u_r 1))]) ⟨hx, hb, hml, hown, hts⟩ (k_M_write l D cI _ xM xW u_M (s_M_areaStart ((u_r 3) &&& (31 : Int32))) (u_r 1)) g_R_bringBack_M_write_57 nv_M_write ⟨⟨rfl, rfl⟩, Nat.le_of_ble_eq_true rfl, Nat.le_of_ble_eq_true rfl⟩ hK [0] rfl hP hD hS hA [3, 4] [0, 1, 2] [0, 1, 2, 3, 4] rfl rfl rfl rfl (by decide) rfl rfl 3 0 rfl rfl rfl rfl hl.1 (Nat.le_of_ble_eq_true rfl) d_R_bringBack_170 ⟨Nat.zero_le _, Nat.zero_le _⟩ (fun H locs hP hD hS => ?_)
  refine lv_aload_n hx hb d_R_bringBack_173 rfl (lv_at hl 4 rfl) ?_
  refine lv_iload_n hx hb d_R_bringBack_174 rfl (lv_at hl 3 rfl) ?_
  refine zz_put (C := R_R) (T := F_R) (N := 12) (w' := [oR xR xD xA (upd (upd u_r 3 (s_M_read u_M (s_M_areaStart ((u_r 3) &&& (31 : Int32))))) 1 ((u_r 3) &&& (31 : Int32))), ar cI xD 8 (upd (upd (upd (upd u_d (ix (0 : Int32)) (s_M_read u_M (((s_M_areaStart ((u_r 3) &&& (31 : Int32))) + (4 : Int32)) + (0 : Int32)))) (ix (1 : Int32)) (s_M_read u_M (((s_M_areaStart ((u_r 3) &&& (31 : Int32))) + (4 : Int32)) + (1 : Int32)))) (ix (2 : Int32)) (s_M_read u_M (((s_M_areaStart ((u_r 3) &&& (31 : Int32))) + (4 : Int32)) + (2 : Int32)))) (ix (3 : Int32)) (s_M_read u_M (((s_M_areaStart ((u_r 3) &&& (31 : Int32))) + (4 : Int32)) + (3 : Int32)))), ar cI xA 8 (upd (upd (upd u_a (ix (7 : Int32)) (s_M_read u_M ((s_M_areaStart ((u_r 3) &&& (31 : Int32))) + (1 : Int32)))) (ix (2 : Int32)) (s_M_read u_M ((s_M_areaStart ((u_r 3) &&& (31 : Int32))) + (2 : Int32)))) (ix (3 : Int32)) (s_M_read u_M ((s_M_areaStart ((u_r 3) &&& (31 : Int32))) + (3 : Int32)))), oM xM xW, ar cI xW 512 (s_M_write u_M (s_M_areaStart ((u_r 3) &&& (31 : Int32))) (u_r 1))]) hx hb hts in_R ty_R ty_R_ok n_R hown hK hP hD hS 0 rfl rfl 3 (by decide) mw_8 rfl rfl rfl (Nat.le_of_ble_eq_true rfl) d_R_bringBack_175 rfl (fun H locs hP hD hS => ?_)
  have hsp : s_R_bringBackL u_r u_d u_a u_M = (upd (upd u_r 3 (s_M_read u_M (s_M_areaStart ((u_r 3) &&& (31 : Int32))))) 1 ((u_r 3) &&& (31 : Int32)), upd (upd (upd (upd u_d (ix (0 : Int32)) (s_M_read u_M (((s_M_areaStart ((u_r 3) &&& (31 : Int32))) + (4 : Int32)) + (0 : Int32)))) (ix (1 : Int32)) (s_M_read u_M (((s_M_areaStart ((u_r 3) &&& (31 : Int32))) + (4 : Int32)) + (1 : Int32)))) (ix (2 : Int32)) (s_M_read u_M (((s_M_areaStart ((u_r 3) &&& (31 : Int32))) + (4 : Int32)) + (2 : Int32)))) (ix (3 : Int32)) (s_M_read u_M (((s_M_areaStart ((u_r 3) &&& (31 : Int32))) + (4 : Int32)) + (3 : Int32))), upd (upd (upd u_a (ix (7 : Int32)) (s_M_read u_M ((s_M_areaStart ((u_r 3) &&& (31 : Int32))) + (1 : Int32)))) (ix (2 : Int32)) (s_M_read u_M ((s_M_areaStart ((u_r 3) &&& (31 : Int32))) + (2 : Int32)))) (ix (3 : Int32)) (s_M_read u_M ((s_M_areaStart ((u_r 3) &&& (31 : Int32))) + (3 : Int32))), (s_M_write u_M (s_M_areaStart ((u_r 3) &&& (31 : Int32))) (u_r 1))) := rfl
  rw [hsp] at hE
  exact hE _ _ _ _ hP hD hS d_R_bringBack_178
set_option maxHeartbeats 4000000 in
set_option maxRecDepth 100000 in
theorem k_G_change (l : Launch) (D : va_G) (cI : ClassId) (sz : Nat) (xG : Nat) (xL : Nat) (xH : Nat) (xI : Nat) (u_lo : Nat → Int32) (u_hi : Nat → Int32) (u_ri : Nat → Int32) (a1 : Int32) (a2 : Int32) (a3 : Int32) (a4 : Int32) (hi : vp_in a1 6) : zMv l y_G_change (.code y_G_change b_G_change 5 (none) :: wd) { frames := 0, cells := 0, slots := 0, locals := 0 } D classes [(cI, .int)] [.ref xG, .int a1, .int a2, .int a3, .int a4] [oG xG xL xH xI, ar cI xL 6 u_lo, ar cI xH 6 u_hi, ar cI xI 6 u_ri] [oG xG xL xH xI, ar cI xL 6 ((s_G_change u_lo u_hi u_ri a1 a2 a3 a4).1), ar cI xH 6 ((s_G_change u_lo u_hi u_ri a1 a2 a3 a4).2.1), ar cI xI 6 ((s_G_change u_lo u_hi u_ri a1 a2 a3 a4).2.2)] sz := by
  refine met_v (by decide) (Nat.le_of_ble_eq_true rfl) ?_
  intro p e s m args below meth c A Q ls hx hb hml hown hts hK hP hD hS hA hl hE
  have hl : lv_has ls 5 [(0, .ref xG), (1, .int a1), (2, .int a2), (3, .int a3), (4, .int a4)] := hl
  have hown : s.vm.findClass R_G = some m.cls := hown
  refine lv_aload_n hx hb d_G_change_0 rfl (lv_at hl 0 rfl) ?_
  refine zz_get (C := R_G) (T := F_G) (N := 3) (v := .ref xL) hx hb hts in_G hown hK hP 0 rfl rfl 0 (by decide) mw_13 rfl d_G_change_1 ?_
  refine lv_iload_n hx hb d_G_change_4 rfl (lv_at hl 1 rfl) ?_
  refine lv_iload_n hx hb d_G_change_5 rfl (lv_at hl 2 rfl) ?_
  refine zz_iast (w' := [oG xG xL xH xI, ar cI xL 6 (upd u_lo (ix a1) a2), ar cI xH 6 u_hi, ar cI xI 6 u_ri]) hx hb hK hP hD hS 1 0 rfl rfl hi d_G_change_6 rfl (fun H locs hP hD hS => ?_)
  refine lv_aload_n hx hb d_G_change_7 rfl (lv_at hl 0 rfl) ?_
  refine zz_get (C := R_G) (T := F_G) (N := 3) (v := .ref xH) hx hb hts in_G hown hK hP 0 rfl rfl 1 (by decide) mw_14 rfl d_G_change_8 ?_
  refine lv_iload_n hx hb d_G_change_11 rfl (lv_at hl 1 rfl) ?_
  refine lv_iload_n hx hb d_G_change_12 rfl (lv_at hl 3 rfl) ?_
  refine zz_iast (w' := [oG xG xL xH xI, ar cI xL 6 (upd u_lo (ix a1) a2), ar cI xH 6 (upd u_hi (ix a1) a3), ar cI xI 6 u_ri]) hx hb hK hP hD hS 2 0 rfl rfl hi d_G_change_13 rfl (fun H locs hP hD hS => ?_)
  refine lv_aload_n hx hb d_G_change_14 rfl (lv_at hl 0 rfl) ?_
  show W p l e _ s m args below meth c _ _ _ _ Q (F0 m 15 ls _)
  refine zz_get (C := R_G) (T := F_G) (N := 3) (v := .ref xI) hx hb hts in_G hown hK hP 0 rfl rfl 2 (by decide) mw_15 rfl d_G_change_15 ?_
  refine lv_iload_n hx hb d_G_change_18 rfl (lv_at hl 1 rfl) ?_
  refine lv_iload hx hb d_G_change_19 (lv_at hl 4 rfl) ?_
  refine zz_iast (w' := [oG xG xL xH xI, ar cI xL 6 (upd u_lo (ix a1) a2), ar cI xH 6 (upd u_hi (ix a1) a3), ar cI xI 6 (upd u_ri (ix a1) a4)]) hx hb hK hP hD hS 3 0 rfl rfl hi d_G_change_21 rfl (fun H locs hP hD hS => ?_)
  have hsp : s_G_change u_lo u_hi u_ri a1 a2 a3 a4 = (upd u_lo (ix a1) a2, upd u_hi (ix a1) a3, upd u_ri (ix a1) a4) := rfl
  rw [hsp] at hE
  exact hE _ _ _ _ hP hD hS d_G_change_22
set_option maxHeartbeats 4000000 in
set_option maxRecDepth 100000 in
theorem k_G_covers (l : Launch) (D : va_G) (cI : ClassId) (sz : Nat) (xG : Nat) (xL : Nat) (xH : Nat) (xI : Nat) (u_lo : Nat → Int32) (u_hi : Nat → Int32) (u_ri : Nat → Int32) (a1 : Int32) (a2 : Int32) (hi : vp_in a1 6) : zMi l y_G_covers (.code y_G_covers b_G_covers 3 (some .boolean) :: wd) { frames := 0, cells := 0, slots := 0, locals := 0 } D classes [(cI, .int)] [.ref xG, .int a1, .int a2] [oG xG xL xH xI, ar cI xL 6 u_lo, ar cI xH 6 u_hi, ar cI xI 6 u_ri] [oG xG xL xH xI, ar cI xL 6 u_lo, ar cI xH 6 u_hi, ar cI xI 6 u_ri] sz (s_G_covers u_lo u_hi u_ri a1 a2) := by
  refine met_i (by decide) (Nat.le_of_ble_eq_true rfl) (zz_nar (bo_G_covers u_lo u_hi u_ri a1 a2)) ?_
  intro p e s m args below meth c A Q ls hx hb hml hown hts hK hP hD hS hA hl hE
  have hl : lv_has ls 3 [(0, .ref xG), (1, .int a1), (2, .int a2)] := hl
  have hown : s.vm.findClass R_G = some m.cls := hown
  refine lv_iload_n hx hb d_G_covers_0 rfl (lv_at hl 2 rfl) ?_
  refine lv_aload_n hx hb d_G_covers_1 rfl (lv_at hl 0 rfl) ?_
  refine zz_get (C := R_G) (T := F_G) (N := 3) (v := .ref xL) hx hb hts in_G hown hK hP 0 rfl rfl 0 (by decide) mw_13 rfl d_G_covers_2 ?_
  refine lv_iload_n hx hb d_G_covers_5 rfl (lv_at hl 1 rfl) ?_
  refine va_iald hx hb hK hP 1 0 rfl rfl hi d_G_covers_6 ?_
  refine lv_icmp_lt (tgt := 24) hx hb d_G_covers_7 (by decide) (fun h1 => ?_) (fun h1 => ?_)
  ·
    refine lv_iconst (v := (0 : Int32)) hx hb d_G_covers_24 (by decide) ?_
    have hsp : s_G_covers u_lo u_hi u_ri a1 a2 = (0 : Int32) := (by unfold s_G_covers; rw [if_pos h1])
    rw [hsp] at hE
    exact hE _ _ _ _ hP hD hS d_G_covers_25
  ·
    refine lv_iload_n hx hb d_G_covers_10 rfl (lv_at hl 2 rfl) ?_
    refine lv_aload_n hx hb d_G_covers_11 rfl (lv_at hl 0 rfl) ?_
    refine zz_get (C := R_G) (T := F_G) (N := 3) (v := .ref xH) hx hb hts in_G hown hK hP 0 rfl rfl 1 (by decide) mw_14 rfl d_G_covers_12 ?_
    refine lv_iload_n hx hb d_G_covers_15 rfl (lv_at hl 1 rfl) ?_
    refine va_iald hx hb hK hP 2 0 rfl rfl hi d_G_covers_16 ?_
    refine lv_icmp_ge (tgt := 24) hx hb d_G_covers_17 (by decide) (fun h2 => ?_) (fun h2 => ?_)
    ·
      refine lv_iconst (v := (0 : Int32)) hx hb d_G_covers_24 (by decide) ?_
      have hsp : s_G_covers u_lo u_hi u_ri a1 a2 = (0 : Int32) := (by unfold s_G_covers; rw [if_neg h1, if_pos h2])
      rw [hsp] at hE
      exact hE _ _ _ _ hP hD hS d_G_covers_25
    ·
      refine lv_iconst (v := (1 : Int32)) hx hb d_G_covers_20 (by decide) ?_
      refine lv_goto (tgt := 25) hx hb d_G_covers_21 (by decide) ?_
      have hsp : s_G_covers u_lo u_hi u_ri a1 a2 = (1 : Int32) := (by unfold s_G_covers; rw [if_neg h1, if_neg h2])
      rw [hsp] at hE
      exact hE _ _ _ _ hP hD hS d_G_covers_25
set_option maxHeartbeats 4000000 in
set_option maxRecDepth 100000 in
theorem k_G_letsRun (l : Launch) (D : va_G) (cI : ClassId) (sz : Nat) (xG : Nat) (xL : Nat) (xH : Nat) (xI : Nat) (u_lo : Nat → Int32) (u_hi : Nat → Int32) (u_ri : Nat → Int32) (a1 : Int32) (a2 : Int32) (hs : a1 = 0 ∨ a1 = 1) : zMi l y_G_letsRun (.code y_G_letsRun b_G_letsRun 3 (some .boolean) :: wd) { frames := 1, cells := 0, slots := 0, locals := 22 } D classes [(cI, .int)] [.ref xG, .int a1, .int a2] [oG xG xL xH xI, ar cI xL 6 u_lo, ar cI xH 6 u_hi, ar cI xI 6 u_ri] [oG xG xL xH xI, ar cI xL 6 u_lo, ar cI xH 6 u_hi, ar cI xI 6 u_ri] sz (s_G_letsRun u_lo u_hi u_ri a1 a2) := by
  refine met_i (by decide) (Nat.le_of_ble_eq_true rfl) (zz_nar (bo_G_letsRun u_lo u_hi u_ri a1 a2)) ?_
  intro p e s m args below meth c A Q ls hx hb hml hown hts hK hP hD hS hA hl hE
  have hl : lv_has ls 3 [(0, .ref xG), (1, .int a1), (2, .int a2)] := hl
  have hown : s.vm.findClass R_G = some m.cls := hown
  refine lv_aload_n hx hb d_G_letsRun_0 rfl (lv_at hl 0 rfl) ?_
  refine lv_iload_n hx hb d_G_letsRun_1 rfl (lv_at hl 1 rfl) ?_
  refine lv_iconst (v := (3 : Int32)) hx hb d_G_letsRun_2 (by decide) ?_
  refine lv_imul hx hb d_G_letsRun_3 ?_
  refine lv_iconst (v := (2 : Int32)) hx hb d_G_letsRun_4 (by decide) ?_
  refine lv_iadd hx hb d_G_letsRun_5 ?_
  refine lv_iload_n hx hb d_G_letsRun_6 rfl (lv_at hl 2 rfl) ?_
  refine zz_rVi (rest := []) ⟨hx, hb, hml, hown, hts⟩ (k_G_covers l D cI _ xG xL xH xI u_lo u_hi u_ri ((a1 * (3 : Int32)) + (2 : Int32)) a2 (in_set2 hs)) g_G_letsRun_G_covers_21 nv_G_covers ⟨⟨rfl, rfl⟩, Nat.le_of_ble_eq_true rfl, Nat.le_of_ble_eq_true rfl⟩ hK [0] rfl hP hD hS hA [0, 1, 2, 3] rfl rfl 0 2 rfl rfl rfl rfl hl.1 (Nat.le_of_ble_eq_true rfl) d_G_letsRun_7 ⟨Nat.zero_le _, Nat.zero_le _⟩ (fun H locs hP hD hS => ?_)
  have hsp : s_G_letsRun u_lo u_hi u_ri a1 a2 = (s_G_covers u_lo u_hi u_ri ((a1 * (3 : Int32)) + (2 : Int32)) a2) := rfl
  rw [hsp] at hE
  exact hE _ _ _ _ hP hD hS d_G_letsRun_10
set_option maxHeartbeats 4000000 in
set_option maxRecDepth 100000 in
theorem k_G_letsUse (l : Launch) (D : va_G) (cI : ClassId) (sz : Nat) (xG : Nat) (xL : Nat) (xH : Nat) (xI : Nat) (u_lo : Nat → Int32) (u_hi : Nat → Int32) (u_ri : Nat → Int32) (a1 : Int32) (a2 : Int32) (a3 : Int32) (hs : a1 = 0 ∨ a1 = 1) : zMi l y_G_letsUse (.code y_G_letsUse b_G_letsUse 6 (some .boolean) :: wd) { frames := 1, cells := 0, slots := 0, locals := 22 } D classes [(cI, .int)] [.ref xG, .int a1, .int a2, .int a3] [oG xG xL xH xI, ar cI xL 6 u_lo, ar cI xH 6 u_hi, ar cI xI 6 u_ri] [oG xG xL xH xI, ar cI xL 6 u_lo, ar cI xH 6 u_hi, ar cI xI 6 u_ri] sz (s_G_letsUse u_lo u_hi u_ri a1 a2 a3) := by
  refine met_i (by decide) (Nat.le_of_ble_eq_true rfl) (zz_nar (bo_G_letsUse u_lo u_hi u_ri a1 a2 a3)) ?_
  intro p e s m args below meth c A Q ls hx hb hml hown hts hK hP hD hS hA hl hE
  have hl : lv_has ls 6 [(0, .ref xG), (1, .int a1), (2, .int a2), (3, .int a3)] := hl
  have hown : s.vm.findClass R_G = some m.cls := hown
  refine lv_iconst (v := (0 : Int32)) hx hb d_G_letsUse_0 (by decide) ?_
  refine lv_istore (lv' := [(4, .int (0 : Int32)), (0, .ref xG), (1, .int a1), (2, .int a2), (3, .int a3)]) hx hb d_G_letsUse_1 hl (by decide) rfl (fun ls hl => ?_)
  refine lv_iload hx hb d_G_letsUse_3 (lv_at hl 0 rfl) ?_
  refine lv_iconst (v := (2 : Int32)) hx hb d_G_letsUse_5 (by decide) ?_
  refine lv_icmp_ge (tgt := 47) hx hb d_G_letsUse_6 (by decide) (fun hh => absurd hh (by decide)) (fun _ => ?_)
  refine lv_iload_n hx hb d_G_letsUse_9 rfl (lv_at hl 2 rfl) ?_
  refine lv_iconst (v := (3 : Int32)) hx hb d_G_letsUse_10 (by decide) ?_
  refine lv_imul hx hb d_G_letsUse_11 ?_
  refine lv_iload hx hb d_G_letsUse_12 (lv_at hl 0 rfl) ?_
  refine lv_iadd hx hb d_G_letsUse_14 ?_
  refine lv_istore (lv' := [(5, .int ((a1 * (3 : Int32)) + (0 : Int32))), (4, .int (0 : Int32)), (0, .ref xG), (1, .int a1), (2, .int a2), (3, .int a3)]) hx hb d_G_letsUse_15 hl (by decide) rfl (fun ls hl => ?_)
  refine lv_aload_n hx hb d_G_letsUse_17 rfl (lv_at hl 2 rfl) ?_
  refine lv_iload hx hb d_G_letsUse_18 (lv_at hl 0 rfl) ?_
  refine lv_iload_n hx hb d_G_letsUse_20 rfl (lv_at hl 4 rfl) ?_
  refine zz_rVi (rest := []) ⟨hx, hb, hml, hown, hts⟩ (k_G_covers l D cI _ xG xL xH xI u_lo u_hi u_ri ((a1 * (3 : Int32)) + (0 : Int32)) a2 (in_set0 hs)) g_G_letsUse_G_covers_21 nv_G_covers ⟨⟨rfl, rfl⟩, Nat.le_of_ble_eq_true rfl, Nat.le_of_ble_eq_true rfl⟩ hK [0] rfl hP hD hS hA [0, 1, 2, 3] rfl rfl 0 2 rfl rfl rfl rfl hl.1 (Nat.le_of_ble_eq_true rfl) d_G_letsUse_21 ⟨Nat.zero_le _, Nat.zero_le _⟩ (fun H locs hP hD hS => ?_)
  refine lv_if_eq (tgt := 41) hx hb d_G_letsUse_24 (by decide) (fun h1 => ?_) (fun h1 => ?_)
  ·
    refine lv_iinc (v := (1 : Int32)) (lv' := [(4, .int (1 : Int32)), (5, .int ((a1 * (3 : Int32)) + (0 : Int32))), (0, .ref xG), (1, .int a1), (2, .int a2), (3, .int a3)]) (k := 1) hx hb d_G_letsUse_41 hl rfl (by decide) (by decide) rfl (fun ls hl => ?_)
    refine lv_goto (tgt := 3) hx hb d_G_letsUse_44 (by decide) ?_
    refine lv_iload hx hb d_G_letsUse_3 (lv_at hl 0 rfl) ?_
    refine lv_iconst (v := (2 : Int32)) hx hb d_G_letsUse_5 (by decide) ?_
    refine lv_icmp_ge (tgt := 47) hx hb d_G_letsUse_6 (by decide) (fun hh => absurd hh (by decide)) (fun _ => ?_)
    refine lv_iload_n hx hb d_G_letsUse_9 rfl (lv_at hl 3 rfl) ?_
    refine lv_iconst (v := (3 : Int32)) hx hb d_G_letsUse_10 (by decide) ?_
    refine lv_imul hx hb d_G_letsUse_11 ?_
    refine lv_iload hx hb d_G_letsUse_12 (lv_at hl 0 rfl) ?_
    refine lv_iadd hx hb d_G_letsUse_14 ?_
    refine lv_istore (lv' := [(5, .int ((a1 * (3 : Int32)) + (1 : Int32))), (4, .int (1 : Int32)), (0, .ref xG), (1, .int a1), (2, .int a2), (3, .int a3)]) hx hb d_G_letsUse_15 hl (by decide) rfl (fun ls hl => ?_)
    refine lv_aload_n hx hb d_G_letsUse_17 rfl (lv_at hl 2 rfl) ?_
    refine lv_iload hx hb d_G_letsUse_18 (lv_at hl 0 rfl) ?_
    refine lv_iload_n hx hb d_G_letsUse_20 rfl (lv_at hl 4 rfl) ?_
    refine zz_rVi (rest := []) ⟨hx, hb, hml, hown, hts⟩ (k_G_covers l D cI _ xG xL xH xI u_lo u_hi u_ri ((a1 * (3 : Int32)) + (1 : Int32)) a2 (in_set1 hs)) g_G_letsUse_G_covers_21 nv_G_covers ⟨⟨rfl, rfl⟩, Nat.le_of_ble_eq_true rfl, Nat.le_of_ble_eq_true rfl⟩ hK [0] rfl hP hD hS hA [0, 1, 2, 3] rfl rfl 0 2 rfl rfl rfl rfl hl.1 (Nat.le_of_ble_eq_true rfl) d_G_letsUse_21 ⟨Nat.zero_le _, Nat.zero_le _⟩ (fun H locs hP hD hS => ?_)
    refine lv_if_eq (tgt := 41) hx hb d_G_letsUse_24 (by decide) (fun h2 => ?_) (fun h2 => ?_)
    ·
      refine lv_iinc (v := (2 : Int32)) (lv' := [(4, .int (2 : Int32)), (5, .int ((a1 * (3 : Int32)) + (1 : Int32))), (0, .ref xG), (1, .int a1), (2, .int a2), (3, .int a3)]) (k := 1) hx hb d_G_letsUse_41 hl rfl (by decide) (by decide) rfl (fun ls hl => ?_)
      refine lv_goto (tgt := 3) hx hb d_G_letsUse_44 (by decide) ?_
      refine lv_iload hx hb d_G_letsUse_3 (lv_at hl 0 rfl) ?_
      refine lv_iconst (v := (2 : Int32)) hx hb d_G_letsUse_5 (by decide) ?_
      refine lv_icmp_ge (tgt := 47) hx hb d_G_letsUse_6 (by decide) (fun _ => ?_) (fun hh => absurd hh (by decide))
      refine lv_iconst (v := (0 : Int32)) hx hb d_G_letsUse_47 (by decide) ?_
      have hsp : s_G_letsUse u_lo u_hi u_ri a1 a2 a3 = (0 : Int32) := (by unfold s_G_letsUse; rw [if_pos h1, if_pos h2])
      rw [hsp] at hE
      exact hE _ _ _ _ hP hD hS d_G_letsUse_48
    ·
      refine lv_aload_n hx hb d_G_letsUse_27 rfl (lv_at hl 2 rfl) ?_
      refine zz_get (C := R_G) (T := F_G) (N := 3) (v := .ref xI) hx hb hts in_G hown hK hP 0 rfl rfl 2 (by decide) mw_15 rfl d_G_letsUse_28 ?_
      refine lv_iload hx hb d_G_letsUse_31 (lv_at hl 0 rfl) ?_
      refine va_iald hx hb hK hP 3 0 rfl rfl (in_set1 hs) d_G_letsUse_33 ?_
      refine lv_iload_n hx hb d_G_letsUse_34 rfl (lv_at hl 5 rfl) ?_
      refine lv_iand hx hb d_G_letsUse_35 ?_
      refine lv_if_eq (tgt := 41) hx hb d_G_letsUse_36 (by decide) (fun h3 => ?_) (fun h3 => ?_)
      ·
        refine lv_iinc (v := (2 : Int32)) (lv' := [(4, .int (2 : Int32)), (5, .int ((a1 * (3 : Int32)) + (1 : Int32))), (0, .ref xG), (1, .int a1), (2, .int a2), (3, .int a3)]) (k := 1) hx hb d_G_letsUse_41 hl rfl (by decide) (by decide) rfl (fun ls hl => ?_)
        refine lv_goto (tgt := 3) hx hb d_G_letsUse_44 (by decide) ?_
        refine lv_iload hx hb d_G_letsUse_3 (lv_at hl 0 rfl) ?_
        refine lv_iconst (v := (2 : Int32)) hx hb d_G_letsUse_5 (by decide) ?_
        refine lv_icmp_ge (tgt := 47) hx hb d_G_letsUse_6 (by decide) (fun _ => ?_) (fun hh => absurd hh (by decide))
        refine lv_iconst (v := (0 : Int32)) hx hb d_G_letsUse_47 (by decide) ?_
        have hsp : s_G_letsUse u_lo u_hi u_ri a1 a2 a3 = (0 : Int32) := (by unfold s_G_letsUse; rw [if_pos h1, if_neg h2, if_pos h3])
        rw [hsp] at hE
        exact hE _ _ _ _ hP hD hS d_G_letsUse_48
      ·
        refine lv_iconst (v := (1 : Int32)) hx hb d_G_letsUse_39 (by decide) ?_
        have hsp : s_G_letsUse u_lo u_hi u_ri a1 a2 a3 = (1 : Int32) := (by unfold s_G_letsUse; rw [if_pos h1, if_neg h2, if_neg h3])
        rw [hsp] at hE
        exact hE _ _ _ _ hP hD hS d_G_letsUse_40
  ·
    refine lv_aload_n hx hb d_G_letsUse_27 rfl (lv_at hl 2 rfl) ?_
    refine zz_get (C := R_G) (T := F_G) (N := 3) (v := .ref xI) hx hb hts in_G hown hK hP 0 rfl rfl 2 (by decide) mw_15 rfl d_G_letsUse_28 ?_
    refine lv_iload hx hb d_G_letsUse_31 (lv_at hl 0 rfl) ?_
    refine va_iald hx hb hK hP 3 0 rfl rfl (in_set0 hs) d_G_letsUse_33 ?_
    refine lv_iload_n hx hb d_G_letsUse_34 rfl (lv_at hl 5 rfl) ?_
    refine lv_iand hx hb d_G_letsUse_35 ?_
    refine lv_if_eq (tgt := 41) hx hb d_G_letsUse_36 (by decide) (fun h4 => ?_) (fun h4 => ?_)
    ·
      refine lv_iinc (v := (1 : Int32)) (lv' := [(4, .int (1 : Int32)), (5, .int ((a1 * (3 : Int32)) + (0 : Int32))), (0, .ref xG), (1, .int a1), (2, .int a2), (3, .int a3)]) (k := 1) hx hb d_G_letsUse_41 hl rfl (by decide) (by decide) rfl (fun ls hl => ?_)
      refine lv_goto (tgt := 3) hx hb d_G_letsUse_44 (by decide) ?_
      refine lv_iload hx hb d_G_letsUse_3 (lv_at hl 0 rfl) ?_
      refine lv_iconst (v := (2 : Int32)) hx hb d_G_letsUse_5 (by decide) ?_
      refine lv_icmp_ge (tgt := 47) hx hb d_G_letsUse_6 (by decide) (fun hh => absurd hh (by decide)) (fun _ => ?_)
      refine lv_iload_n hx hb d_G_letsUse_9 rfl (lv_at hl 3 rfl) ?_
      refine lv_iconst (v := (3 : Int32)) hx hb d_G_letsUse_10 (by decide) ?_
      refine lv_imul hx hb d_G_letsUse_11 ?_
      refine lv_iload hx hb d_G_letsUse_12 (lv_at hl 0 rfl) ?_
      refine lv_iadd hx hb d_G_letsUse_14 ?_
      refine lv_istore (lv' := [(5, .int ((a1 * (3 : Int32)) + (1 : Int32))), (4, .int (1 : Int32)), (0, .ref xG), (1, .int a1), (2, .int a2), (3, .int a3)]) hx hb d_G_letsUse_15 hl (by decide) rfl (fun ls hl => ?_)
      refine lv_aload_n hx hb d_G_letsUse_17 rfl (lv_at hl 2 rfl) ?_
      refine lv_iload hx hb d_G_letsUse_18 (lv_at hl 0 rfl) ?_
      refine lv_iload_n hx hb d_G_letsUse_20 rfl (lv_at hl 4 rfl) ?_
      refine zz_rVi (rest := []) ⟨hx, hb, hml, hown, hts⟩ (k_G_covers l D cI _ xG xL xH xI u_lo u_hi u_ri ((a1 * (3 : Int32)) + (1 : Int32)) a2 (in_set1 hs)) g_G_letsUse_G_covers_21 nv_G_covers ⟨⟨rfl, rfl⟩, Nat.le_of_ble_eq_true rfl, Nat.le_of_ble_eq_true rfl⟩ hK [0] rfl hP hD hS hA [0, 1, 2, 3] rfl rfl 0 2 rfl rfl rfl rfl hl.1 (Nat.le_of_ble_eq_true rfl) d_G_letsUse_21 ⟨Nat.zero_le _, Nat.zero_le _⟩ (fun H locs hP hD hS => ?_)
      refine lv_if_eq (tgt := 41) hx hb d_G_letsUse_24 (by decide) (fun h5 => ?_) (fun h5 => ?_)
      ·
        refine lv_iinc (v := (2 : Int32)) (lv' := [(4, .int (2 : Int32)), (5, .int ((a1 * (3 : Int32)) + (1 : Int32))), (0, .ref xG), (1, .int a1), (2, .int a2), (3, .int a3)]) (k := 1) hx hb d_G_letsUse_41 hl rfl (by decide) (by decide) rfl (fun ls hl => ?_)
        refine lv_goto (tgt := 3) hx hb d_G_letsUse_44 (by decide) ?_
        refine lv_iload hx hb d_G_letsUse_3 (lv_at hl 0 rfl) ?_
        refine lv_iconst (v := (2 : Int32)) hx hb d_G_letsUse_5 (by decide) ?_
        refine lv_icmp_ge (tgt := 47) hx hb d_G_letsUse_6 (by decide) (fun _ => ?_) (fun hh => absurd hh (by decide))
        refine lv_iconst (v := (0 : Int32)) hx hb d_G_letsUse_47 (by decide) ?_
        have hsp : s_G_letsUse u_lo u_hi u_ri a1 a2 a3 = (0 : Int32) := (by unfold s_G_letsUse; rw [if_neg h1, if_pos h4, if_pos h5])
        rw [hsp] at hE
        exact hE _ _ _ _ hP hD hS d_G_letsUse_48
      ·
        refine lv_aload_n hx hb d_G_letsUse_27 rfl (lv_at hl 2 rfl) ?_
        refine zz_get (C := R_G) (T := F_G) (N := 3) (v := .ref xI) hx hb hts in_G hown hK hP 0 rfl rfl 2 (by decide) mw_15 rfl d_G_letsUse_28 ?_
        refine lv_iload hx hb d_G_letsUse_31 (lv_at hl 0 rfl) ?_
        refine va_iald hx hb hK hP 3 0 rfl rfl (in_set1 hs) d_G_letsUse_33 ?_
        refine lv_iload_n hx hb d_G_letsUse_34 rfl (lv_at hl 5 rfl) ?_
        refine lv_iand hx hb d_G_letsUse_35 ?_
        refine lv_if_eq (tgt := 41) hx hb d_G_letsUse_36 (by decide) (fun h6 => ?_) (fun h6 => ?_)
        ·
          refine lv_iinc (v := (2 : Int32)) (lv' := [(4, .int (2 : Int32)), (5, .int ((a1 * (3 : Int32)) + (1 : Int32))), (0, .ref xG), (1, .int a1), (2, .int a2), (3, .int a3)]) (k := 1) hx hb d_G_letsUse_41 hl rfl (by decide) (by decide) rfl (fun ls hl => ?_)
          refine lv_goto (tgt := 3) hx hb d_G_letsUse_44 (by decide) ?_
          refine lv_iload hx hb d_G_letsUse_3 (lv_at hl 0 rfl) ?_
          refine lv_iconst (v := (2 : Int32)) hx hb d_G_letsUse_5 (by decide) ?_
          refine lv_icmp_ge (tgt := 47) hx hb d_G_letsUse_6 (by decide) (fun _ => ?_) (fun hh => absurd hh (by decide))
          refine lv_iconst (v := (0 : Int32)) hx hb d_G_letsUse_47 (by decide) ?_
          have hsp : s_G_letsUse u_lo u_hi u_ri a1 a2 a3 = (0 : Int32) := (by unfold s_G_letsUse; rw [if_neg h1, if_pos h4, if_neg h5, if_pos h6])
          rw [hsp] at hE
          exact hE _ _ _ _ hP hD hS d_G_letsUse_48
        ·
          refine lv_iconst (v := (1 : Int32)) hx hb d_G_letsUse_39 (by decide) ?_
          have hsp : s_G_letsUse u_lo u_hi u_ri a1 a2 a3 = (1 : Int32) := (by unfold s_G_letsUse; rw [if_neg h1, if_pos h4, if_neg h5, if_neg h6])
          rw [hsp] at hE
          exact hE _ _ _ _ hP hD hS d_G_letsUse_40
    ·
      refine lv_iconst (v := (1 : Int32)) hx hb d_G_letsUse_39 (by decide) ?_
      have hsp : s_G_letsUse u_lo u_hi u_ri a1 a2 a3 = (1 : Int32) := (by unfold s_G_letsUse; rw [if_neg h1, if_neg h4])
      rw [hsp] at hE
      exact hE _ _ _ _ hP hD hS d_G_letsUse_40
set_option maxHeartbeats 4000000 in
set_option maxRecDepth 100000 in
theorem k_T_has (l : Launch) (D : va_G) (cI : ClassId) (sz : Nat) (a1 : Int32) : zMi l y_T_has (.code y_T_has b_T_has 1 (some .boolean) :: wd) { frames := 0, cells := 0, slots := 0, locals := 0 } D classes [] [.int a1] [] [] sz (s_T_has a1) := by
  refine met_i (by decide) (Nat.le_of_ble_eq_true rfl) (zz_nar (bo_T_has a1)) ?_
  intro p e s m args below meth c A Q ls hx hb hml hown hts hK hP hD hS hA hl hE
  have hl : lv_has ls 1 [(0, .int a1)] := hl
  have hown : s.vm.findClass R_T = some m.cls := hown
  refine lv_iload_n hx hb d_T_has_0 rfl (lv_at hl 0 rfl) ?_
  refine lv_iconst (v := (1 : Int32)) hx hb d_T_has_1 (by decide) ?_
  refine lv_icmp_lt (tgt := 15) hx hb d_T_has_2 (by decide) (fun h1 => ?_) (fun h1 => ?_)
  ·
    refine lv_iconst (v := (0 : Int32)) hx hb d_T_has_15 (by decide) ?_
    have hsp : s_T_has a1 = (0 : Int32) := (by unfold s_T_has; rw [if_pos h1])
    rw [hsp] at hE
    exact hE _ _ _ _ hP hD hS d_T_has_16
  ·
    refine lv_iload_n hx hb d_T_has_5 rfl (lv_at hl 0 rfl) ?_
    refine lv_bipush (v := (15 : Int32)) hx hb d_T_has_6 (by decide) ?_
    refine lv_icmp_gt (tgt := 15) hx hb d_T_has_8 (by decide) (fun h2 => ?_) (fun h2 => ?_)
    ·
      refine lv_iconst (v := (0 : Int32)) hx hb d_T_has_15 (by decide) ?_
      have hsp : s_T_has a1 = (0 : Int32) := (by unfold s_T_has; rw [if_neg h1, if_pos h2])
      rw [hsp] at hE
      exact hE _ _ _ _ hP hD hS d_T_has_16
    ·
      refine lv_iconst (v := (1 : Int32)) hx hb d_T_has_11 (by decide) ?_
      refine lv_goto (tgt := 16) hx hb d_T_has_12 (by decide) ?_
      have hsp : s_T_has a1 = (1 : Int32) := (by unfold s_T_has; rw [if_neg h1, if_neg h2])
      rw [hsp] at hE
      exact hE _ _ _ _ hP hD hS d_T_has_16
set_option maxHeartbeats 4000000 in
set_option maxRecDepth 100000 in
theorem k_T_isPending (l : Launch) (D : va_G) (cI : ClassId) (sz : Nat) (xT : Nat) (u_t : Nat → Int32) (a1 : Int32) : zMi l y_T_isPending (.code y_T_isPending b_T_isPending 2 (some .boolean) :: wd) { frames := 0, cells := 0, slots := 0, locals := 0 } D classes [(cI, .int)] [.ref xT, .int a1] [oT xT u_t] [oT xT u_t] sz (s_T_isPending u_t a1) := by
  refine met_i (by decide) (Nat.le_of_ble_eq_true rfl) (zz_nar (bo_T_isPending u_t a1)) ?_
  intro p e s m args below meth c A Q ls hx hb hml hown hts hK hP hD hS hA hl hE
  have hl : lv_has ls 2 [(0, .ref xT), (1, .int a1)] := hl
  have hown : s.vm.findClass R_T = some m.cls := hown
  refine lv_aload_n hx hb d_T_isPending_0 rfl (lv_at hl 0 rfl) ?_
  refine zz_get (C := R_T) (T := F_T) (N := 5) (v := .int (u_t 3)) hx hb hts in_T hown hK hP 0 rfl rfl 3 (by decide) mw_16 rfl d_T_isPending_1 ?_
  refine lv_iload_n hx hb d_T_isPending_4 rfl (lv_at hl 1 rfl) ?_
  refine lv_ishr hx hb d_T_isPending_5 ?_
  refine lv_iconst (v := (1 : Int32)) hx hb d_T_isPending_6 (by decide) ?_
  refine lv_iand hx hb d_T_isPending_7 ?_
  refine lv_iconst (v := (1 : Int32)) hx hb d_T_isPending_8 (by decide) ?_
  refine lv_icmp_ne (tgt := 16) hx hb d_T_isPending_9 (by decide) (fun h1 => ?_) (fun h1 => ?_)
  ·
    refine lv_iconst (v := (0 : Int32)) hx hb d_T_isPending_16 (by decide) ?_
    have hsp : s_T_isPending u_t a1 = (0 : Int32) := (by unfold s_T_isPending; rw [if_neg h1])
    rw [hsp] at hE
    exact hE _ _ _ _ hP hD hS d_T_isPending_17
  ·
    refine lv_iconst (v := (1 : Int32)) hx hb d_T_isPending_12 (by decide) ?_
    refine lv_goto (tgt := 17) hx hb d_T_isPending_13 (by decide) ?_
    have hsp : s_T_isPending u_t a1 = (1 : Int32) := (by unfold s_T_isPending; rw [if_pos h1])
    rw [hsp] at hE
    exact hE _ _ _ _ hP hD hS d_T_isPending_17
set_option maxHeartbeats 4000000 in
set_option maxRecDepth 100000 in
theorem k_T_ask (l : Launch) (D : va_G) (cI : ClassId) (sz : Nat) (xT : Nat) (u_t : Nat → Int32) (a1 : Int32) : zMv l y_T_ask (.code y_T_ask b_T_ask 2 (none) :: wd) { frames := 0, cells := 0, slots := 0, locals := 0 } D classes [(cI, .int)] [.ref xT, .int a1] [oT xT u_t] [oT xT (s_T_ask u_t a1)] sz := by
  refine met_v (by decide) (Nat.le_of_ble_eq_true rfl) ?_
  intro p e s m args below meth c A Q ls hx hb hml hown hts hK hP hD hS hA hl hE
  have hl : lv_has ls 2 [(0, .ref xT), (1, .int a1)] := hl
  have hown : s.vm.findClass R_T = some m.cls := hown
  refine lv_aload_n hx hb d_T_ask_0 rfl (lv_at hl 0 rfl) ?_
  refine lv_dup hx hb d_T_ask_1 rfl ?_
  refine zz_get (C := R_T) (T := F_T) (N := 5) (v := .int (u_t 3)) hx hb hts in_T hown hK hP 0 rfl rfl 3 (by decide) mw_16 rfl d_T_ask_2 ?_
  refine lv_iconst (v := (1 : Int32)) hx hb d_T_ask_5 (by decide) ?_
  refine lv_iload_n hx hb d_T_ask_6 rfl (lv_at hl 1 rfl) ?_
  refine lv_ishl hx hb d_T_ask_7 ?_
  refine lv_ior hx hb d_T_ask_8 ?_
  refine zz_put (C := R_T) (T := F_T) (N := 5) (w' := [oT xT (upd u_t 3 ((u_t 3) ||| ((1 : Int32) <<< (a1 &&& 31))))]) hx hb hts in_T ty_T ty_T_ok n_T hown hK hP hD hS 0 rfl rfl 3 (by decide) mw_16 rfl rfl rfl (Nat.le_of_ble_eq_true rfl) d_T_ask_9 rfl (fun H locs hP hD hS => ?_)
  have hsp : s_T_ask u_t a1 = (upd u_t 3 ((u_t 3) ||| ((1 : Int32) <<< (a1 &&& 31)))) := rfl
  rw [hsp] at hE
  exact hE _ _ _ _ hP hD hS d_T_ask_12
set_option maxHeartbeats 4000000 in
set_option maxRecDepth 100000 in
theorem k_T_tick (l : Launch) (D : va_G) (cI : ClassId) (sz : Nat) (xT : Nat) (u_t : Nat → Int32) : zMv l y_T_tick (.code y_T_tick b_T_tick 1 (none) :: wd) { frames := 1, cells := 0, slots := 0, locals := 21 } D classes [(cI, .int)] [.ref xT] [oT xT u_t] [oT xT (s_T_tick u_t)] sz := by
  refine met_v (by decide) (Nat.le_of_ble_eq_true rfl) ?_
  intro p e s m args below meth c A Q ls hx hb hml hown hts hK hP hD hS hA hl hE
  have hl : lv_has ls 1 [(0, .ref xT)] := hl
  have hown : s.vm.findClass R_T = some m.cls := hown
  refine lv_aload_n hx hb d_T_tick_0 rfl (lv_at hl 0 rfl) ?_
  refine lv_dup hx hb d_T_tick_1 rfl ?_
  refine zz_get (C := R_T) (T := F_T) (N := 5) (v := .int (u_t 0)) hx hb hts in_T hown hK hP 0 rfl rfl 0 (by decide) mw_17 rfl d_T_tick_2 ?_
  refine lv_iconst (v := (1 : Int32)) hx hb d_T_tick_5 (by decide) ?_
  refine lv_iadd hx hb d_T_tick_6 ?_
  refine zz_put (C := R_T) (T := F_T) (N := 5) (w' := [oT xT (upd u_t 0 ((u_t 0) + (1 : Int32)))]) hx hb hts in_T ty_T ty_T_ok n_T hown hK hP hD hS 0 rfl rfl 0 (by decide) mw_17 rfl rfl rfl (Nat.le_of_ble_eq_true rfl) d_T_tick_7 rfl (fun H locs hP hD hS => ?_)
  refine lv_aload_n hx hb d_T_tick_10 rfl (lv_at hl 0 rfl) ?_
  refine zz_get (C := R_T) (T := F_T) (N := 5) (v := .int (u_t 1)) hx hb hts in_T hown hK hP 0 rfl rfl 1 (by decide) mw_18 rfl d_T_tick_11 ?_
  refine lv_if_le (tgt := 37) hx hb d_T_tick_14 (by decide) (fun h1 => ?_) (fun h1 => ?_)
  ·
    have hsp : s_T_tick u_t = (upd u_t 0 ((u_t 0) + (1 : Int32))) := (by unfold s_T_tick; rw [if_pos h1])
    rw [hsp] at hE
    exact hE _ _ _ _ hP hD hS d_T_tick_37
  ·
    refine lv_aload_n hx hb d_T_tick_17 rfl (lv_at hl 0 rfl) ?_
    refine zz_get (C := R_T) (T := F_T) (N := 5) (v := .int ((u_t 0) + (1 : Int32))) hx hb hts in_T hown hK hP 0 rfl rfl 0 (by decide) mw_17 rfl d_T_tick_18 ?_
    refine lv_aload_n hx hb d_T_tick_21 rfl (lv_at hl 0 rfl) ?_
    refine zz_get (C := R_T) (T := F_T) (N := 5) (v := .int (u_t 1)) hx hb hts in_T hown hK hP 0 rfl rfl 1 (by decide) mw_18 rfl d_T_tick_22 ?_
    refine lv_irem hx hb d_T_tick_25 (zz_le0 h1) ?_
    refine lv_if_ne (tgt := 37) hx hb d_T_tick_26 (by decide) (fun h2 => ?_) (fun h2 => ?_)
    ·
      have hsp : s_T_tick u_t = (upd u_t 0 ((u_t 0) + (1 : Int32))) := (by unfold s_T_tick; rw [if_neg h1, if_neg h2])
      rw [hsp] at hE
      exact hE _ _ _ _ hP hD hS d_T_tick_37
    ·
      refine lv_aload_n hx hb d_T_tick_29 rfl (lv_at hl 0 rfl) ?_
      refine lv_aload_n hx hb d_T_tick_30 rfl (lv_at hl 0 rfl) ?_
      refine zz_get (C := R_T) (T := F_T) (N := 5) (v := .int (u_t 2)) hx hb hts in_T hown hK hP 0 rfl rfl 2 (by decide) mw_19 rfl d_T_tick_31 ?_
      refine zz_cVv (rest := []) (wr := []) (w' := [oT xT (s_T_ask (upd u_t 0 ((u_t 0) + (1 : Int32))) (u_t 2))]) ⟨hx, hb, hml, hown, hts⟩ (k_T_ask l D cI _ xT (upd u_t 0 ((u_t 0) + (1 : Int32))) (u_t 2)) g_T_tick_T_ask_24 nv_T_ask ⟨⟨rfl, rfl⟩, Nat.le_of_ble_eq_true rfl, Nat.le_of_ble_eq_true rfl⟩ hK [0] rfl hP hD hS hA [0] [] [0] rfl rfl rfl rfl (by decide) rfl rfl 0 3 rfl rfl rfl rfl hl.1 (Nat.le_of_ble_eq_true rfl) d_T_tick_34 ⟨Nat.zero_le _, Nat.zero_le _⟩ (fun H locs hP hD hS => ?_)
      have hsp : s_T_tick u_t = (s_T_ask (upd u_t 0 ((u_t 0) + (1 : Int32))) (u_t 2)) := (by unfold s_T_tick; rw [if_neg h1, if_pos h2])
      rw [hsp] at hE
      exact hE _ _ _ _ hP hD hS d_T_tick_37
set_option maxHeartbeats 4000000 in
set_option maxRecDepth 100000 in
theorem k_T_take (l : Launch) (D : va_G) (cI : ClassId) (sz : Nat) (xT : Nat) (u_t : Nat → Int32) (a1 : Int32) : zMv l y_T_take (.code y_T_take b_T_take 2 (none) :: wd) { frames := 0, cells := 0, slots := 0, locals := 0 } D classes [(cI, .int)] [.ref xT, .int a1] [oT xT u_t] [oT xT (s_T_take u_t a1)] sz := by
  refine met_v (by decide) (Nat.le_of_ble_eq_true rfl) ?_
  intro p e s m args below meth c A Q ls hx hb hml hown hts hK hP hD hS hA hl hE
  have hl : lv_has ls 2 [(0, .ref xT), (1, .int a1)] := hl
  have hown : s.vm.findClass R_T = some m.cls := hown
  refine lv_aload_n hx hb d_T_take_0 rfl (lv_at hl 0 rfl) ?_
  refine lv_dup hx hb d_T_take_1 rfl ?_
  refine zz_get (C := R_T) (T := F_T) (N := 5) (v := .int (u_t 3)) hx hb hts in_T hown hK hP 0 rfl rfl 3 (by decide) mw_16 rfl d_T_take_2 ?_
  refine lv_iconst (v := (1 : Int32)) hx hb d_T_take_5 (by decide) ?_
  refine lv_iload_n hx hb d_T_take_6 rfl (lv_at hl 1 rfl) ?_
  refine lv_ishl hx hb d_T_take_7 ?_
  refine lv_iconst (v := (-1 : Int32)) hx hb d_T_take_8 (by decide) ?_
  refine lv_ixor hx hb d_T_take_9 ?_
  refine lv_iand hx hb d_T_take_10 ?_
  refine zz_put (C := R_T) (T := F_T) (N := 5) (w' := [oT xT (upd u_t 3 ((u_t 3) &&& (((1 : Int32) <<< (a1 &&& 31)) ^^^ (-1 : Int32))))]) hx hb hts in_T ty_T ty_T_ok n_T hown hK hP hD hS 0 rfl rfl 3 (by decide) mw_16 rfl rfl rfl (Nat.le_of_ble_eq_true rfl) d_T_take_11 rfl (fun H locs hP hD hS => ?_)
  refine lv_aload_n hx hb d_T_take_14 rfl (lv_at hl 0 rfl) ?_
  show W p l e _ s m args below meth c _ _ _ _ Q (F0 m 15 ls _)
  refine lv_dup hx hb d_T_take_15 rfl ?_
  refine zz_get (C := R_T) (T := F_T) (N := 5) (v := .int (u_t 4)) hx hb hts in_T hown hK hP 0 rfl rfl 4 (by decide) mw_20 rfl d_T_take_16 ?_
  refine lv_iconst (v := (1 : Int32)) hx hb d_T_take_19 (by decide) ?_
  refine lv_iadd hx hb d_T_take_20 ?_
  refine zz_put (C := R_T) (T := F_T) (N := 5) (w' := [oT xT (upd (upd u_t 3 ((u_t 3) &&& (((1 : Int32) <<< (a1 &&& 31)) ^^^ (-1 : Int32)))) 4 ((u_t 4) + (1 : Int32)))]) hx hb hts in_T ty_T ty_T_ok n_T hown hK hP hD hS 0 rfl rfl 4 (by decide) mw_20 rfl rfl rfl (Nat.le_of_ble_eq_true rfl) d_T_take_21 rfl (fun H locs hP hD hS => ?_)
  have hsp : s_T_take u_t a1 = (upd (upd u_t 3 ((u_t 3) &&& (((1 : Int32) <<< (a1 &&& 31)) ^^^ (-1 : Int32)))) 4 ((u_t 4) + (1 : Int32))) := rfl
  rw [hsp] at hE
  exact hE _ _ _ _ hP hD hS d_T_take_24
set_option maxHeartbeats 4000000 in
set_option maxRecDepth 100000 in
theorem k_T_greatest (l : Launch) (D : va_G) (cI : ClassId) (sz : Nat) (xT : Nat) (u_t : Nat → Int32) : zMi l y_T_greatest (.code y_T_greatest b_T_greatest 2 (some .int) :: wd) { frames := 1, cells := 0, slots := 0, locals := 21 } D classes [(cI, .int)] [.ref xT] [oT xT u_t] [oT xT u_t] sz (s_T_greatest u_t) := by
  refine met_i (by decide) (Nat.le_of_ble_eq_true rfl) rfl ?_
  intro p e s m args below meth c A Q ls hx hb hml hown hts hK hP hD hS hA hl hE
  have hl : lv_has ls 2 [(0, .ref xT)] := hl
  have hown : s.vm.findClass R_T = some m.cls := hown
  have LOOP : ∀ (n : Nat) (j : Nat) (ls : Array Slot) (H : Heap) (locs : List Loc), s_T_greatest u_t = s_T_greatest_loop u_t n j → j < n → j ≤ 15 → lv_has ls 2 [(1, .int (nI j)), (0, .ref xT)] → va_P D classes [oT xT u_t] H → va_D A [oT xT u_t] → va_S A s.heap H locs → W p l e { frames := 1, cells := 0, slots := 0, locals := 21 } s m args below meth c H locs 0 0 Q (F0 m 3 ls []) := by
    intro n
    induction n with
    | zero => intro j ls H locs hres hf hj hl hP hD hS; exfalso; omega
    | succ n ih =>
      intro j ls H locs hres hf hj hl hP hD hS
      refine lv_iload_n hx hb d_T_greatest_3 rfl (lv_at hl 0 rfl) ?_
      refine lv_if_le (tgt := 21) hx hb d_T_greatest_4 (by decide) (fun h1 => ?_) (fun h1 => ?_)
      ·
        refine lv_iload_n hx hb d_T_greatest_21 rfl (lv_at hl 0 rfl) ?_
        have hsp : s_T_greatest u_t = (nI j) := (hres.trans (by rw [s_T_greatest_loop]; rw [if_pos h1]))
        rw [hsp] at hE
        exact hE _ _ _ _ hP hD hS d_T_greatest_22
      ·
        refine lv_aload_n hx hb d_T_greatest_7 rfl (lv_at hl 1 rfl) ?_
        refine lv_iload_n hx hb d_T_greatest_8 rfl (lv_at hl 0 rfl) ?_
        refine zz_rVi (rest := []) ⟨hx, hb, hml, hown, hts⟩ (k_T_isPending l D cI _ xT u_t (nI j)) g_T_greatest_T_isPending_28 nv_T_isPending ⟨⟨rfl, rfl⟩, Nat.le_of_ble_eq_true rfl, Nat.le_of_ble_eq_true rfl⟩ hK [0] rfl hP hD hS hA [0] rfl rfl 0 3 rfl rfl rfl rfl hl.1 (Nat.le_of_ble_eq_true rfl) d_T_greatest_9 ⟨Nat.zero_le _, Nat.zero_le _⟩ (fun H locs hP hD hS => ?_)
        refine lv_if_ne (tgt := 21) hx hb d_T_greatest_12 (by decide) (fun h2 => ?_) (fun h2 => ?_)
        ·
          refine lv_iload_n hx hb d_T_greatest_21 rfl (lv_at hl 0 rfl) ?_
          have hsp : s_T_greatest u_t = (nI j) := (hres.trans (by rw [s_T_greatest_loop]; rw [if_neg h1, if_neg h2]))
          rw [hsp] at hE
          exact hE _ _ _ _ hP hD hS d_T_greatest_22
        ·
          refine lv_iinc (v := (nI (j - 1))) (lv' := [(1, .int (nI (j - 1))), (0, .ref xT)]) (k := 0) hx hb d_T_greatest_15 hl rfl (zz_dec h1) (by decide) rfl (fun ls hl => ?_)
          refine lv_goto (tgt := 3) hx hb d_T_greatest_18 (by decide) ?_
          have hq := zz_posj h1
          exact ih (j - 1) _ _ _ (hres.trans (by rw [s_T_greatest_loop]; rw [if_neg h1, if_pos h2])) (by omega) (by omega) (lv_sub hl [0, 1] rfl) hP hD hS
  refine lv_bipush (v := (15 : Int32)) hx hb d_T_greatest_0 (by decide) ?_
  refine lv_istore_n (lv' := [(1, .int (15 : Int32)), (0, .ref xT)]) hx hb d_T_greatest_2 rfl hl (by decide) rfl (fun ls hl => ?_)
  exact LOOP 16 15 _ _ _ rfl (by decide) (by decide) (lv_sub hl [0, 1] rfl) hP hD hS
end
