abbrev b_M_init : ByteArray := prog_3_method_1_code
def y_M_init : MethodName := ⟨R_M, "<init>", "()V"⟩
theorem nd_M_init : y_M_init.cls ≠ "java/lang/invoke/MethodHandle" ∧ y_M_init.cls ≠ "java/lang/invoke/VarHandle" ∧ (parseMethodDescriptor y_M_init.desc).map (fun d => d.parameters.length) = some 0 := by decide +kernel
abbrev b_R_init : ByteArray := prog_6_method_1_code
def y_R_init : MethodName := ⟨R_R, "<init>", "()V"⟩
theorem nd_R_init : y_R_init.cls ≠ "java/lang/invoke/MethodHandle" ∧ y_R_init.cls ≠ "java/lang/invoke/VarHandle" ∧ (parseMethodDescriptor y_R_init.desc).map (fun d => d.parameters.length) = some 0 := by decide +kernel
abbrev b_G_init : ByteArray := prog_5_method_1_code
def y_G_init : MethodName := ⟨R_G, "<init>", "()V"⟩
theorem nd_G_init : y_G_init.cls ≠ "java/lang/invoke/MethodHandle" ∧ y_G_init.cls ≠ "java/lang/invoke/VarHandle" ∧ (parseMethodDescriptor y_G_init.desc).map (fun d => d.parameters.length) = some 0 := by decide +kernel
abbrev b_T_init : ByteArray := prog_2_method_1_code
def y_T_init : MethodName := ⟨R_T, "<init>", "()V"⟩
theorem nd_T_init : y_T_init.cls ≠ "java/lang/invoke/MethodHandle" ∧ y_T_init.cls ≠ "java/lang/invoke/VarHandle" ∧ (parseMethodDescriptor y_T_init.desc).map (fun d => d.parameters.length) = some 0 := by decide +kernel
abbrev b_P_init : ByteArray := prog_4_method_1_code
def y_P_init : MethodName := ⟨R_P, "<init>", "()V"⟩
theorem nd_P_init : y_P_init.cls ≠ "java/lang/invoke/MethodHandle" ∧ y_P_init.cls ≠ "java/lang/invoke/VarHandle" ∧ (parseMethodDescriptor y_P_init.desc).map (fun d => d.parameters.length) = some 0 := by decide +kernel
abbrev b_C_init : ByteArray := prog_1_method_1_code
def y_C_init : MethodName := ⟨R_C, "<init>", "()V"⟩
theorem nd_C_init : y_C_init.cls ≠ "java/lang/invoke/MethodHandle" ∧ y_C_init.cls ≠ "java/lang/invoke/VarHandle" ∧ (parseMethodDescriptor y_C_init.desc).map (fun d => d.parameters.length) = some 0 := by decide +kernel
abbrev b_X_init : ByteArray := prog_8_method_1_code
def y_X_init : MethodName := ⟨R_X, "<init>", "()V"⟩
theorem nd_X_init : y_X_init.cls ≠ "java/lang/invoke/MethodHandle" ∧ y_X_init.cls ≠ "java/lang/invoke/VarHandle" ∧ (parseMethodDescriptor y_X_init.desc).map (fun d => d.parameters.length) = some 0 := by decide +kernel
theorem mw_arrI : Cond.arrayClass .int ∈ wd := mt_1 (List.mem_of_getElem? (i := 39) (by decide +kernel)) (by decide +kernel)
theorem mw_oi : Cond.instanceMethod Lib.objectInit ∈ wd := mt_1 (List.mem_of_getElem? (i := 21) (by decide +kernel)) (by decide +kernel)
theorem mw_oc : Cond.code Lib.objectInit ⟨#[0xb1]⟩ 1 none ∈ wd := mt_1 (List.mem_of_getElem? (i := 22) (by decide +kernel)) (by decide +kernel)
theorem mw_373 : (Cond.methodLink R_M 3 Lib.objectInit) ∈ wd := mt_1 (List.mem_of_getElem? (i := 34) (by decide +kernel)) (by decide +kernel)
theorem mw_374 : (Cond.methodLink R_R 3 Lib.objectInit) ∈ wd := mt_1 (List.mem_of_getElem? (i := 45) (by decide +kernel)) (by decide +kernel)
theorem mw_375 : (Cond.methodLink R_G 3 Lib.objectInit) ∈ wd := mt_1 (List.mem_of_getElem? (i := 106) (by decide +kernel)) (by decide +kernel)
theorem mw_376 : (Cond.methodLink R_T 3 Lib.objectInit) ∈ wd := mt_1 (List.mem_of_getElem? (i := 122) (by decide +kernel)) (by decide +kernel)
theorem mw_377 : (Cond.methodLink R_P 3 Lib.objectInit) ∈ wd := mt_1 (List.mem_of_getElem? (i := 28) (by decide +kernel)) (by decide +kernel)
theorem mw_378 : (Cond.classLink R_P 9 R_M) ∈ wd := mt_1 (List.mem_of_getElem? (i := 29) (by decide +kernel)) (by decide +kernel)
theorem mw_379 : (Cond.instantiable R_M 1) ∈ wd := mt_1 (List.mem_of_getElem? (i := 30) (by decide +kernel)) (by decide +kernel)
theorem mw_380 : (Cond.code y_M_init b_M_init 1 none) ∈ wd := mt_1 (List.mem_of_getElem? (i := 33) (by decide +kernel)) (by decide +kernel)
theorem mw_381 : (Cond.instanceMethod y_M_init) ∈ wd := mt_1 (List.mem_of_getElem? (i := 32) (by decide +kernel)) (by decide +kernel)
theorem mw_382 : (Cond.methodLink R_P 11 y_M_init) ∈ wd := mt_1 (List.mem_of_getElem? (i := 31) (by decide +kernel)) (by decide +kernel)
theorem mw_383 : (Cond.classLink R_P 18 R_R) ∈ wd := mt_1 (List.mem_of_getElem? (i := 40) (by decide +kernel)) (by decide +kernel)
theorem mw_384 : (Cond.instantiable R_R 12) ∈ wd := mt_1 (List.mem_of_getElem? (i := 41) (by decide +kernel)) (by decide +kernel)
theorem mw_385 : (Cond.code y_R_init b_R_init 1 none) ∈ wd := mt_1 (List.mem_of_getElem? (i := 44) (by decide +kernel)) (by decide +kernel)
theorem mw_386 : (Cond.instanceMethod y_R_init) ∈ wd := mt_1 (List.mem_of_getElem? (i := 43) (by decide +kernel)) (by decide +kernel)
theorem mw_387 : (Cond.methodLink R_P 20 y_R_init) ∈ wd := mt_1 (List.mem_of_getElem? (i := 42) (by decide +kernel)) (by decide +kernel)
theorem mw_388 : (Cond.classLink R_P 25 R_G) ∈ wd := mt_1 (List.mem_of_getElem? (i := 101) (by decide +kernel)) (by decide +kernel)
theorem mw_389 : (Cond.instantiable R_G 3) ∈ wd := mt_1 (List.mem_of_getElem? (i := 102) (by decide +kernel)) (by decide +kernel)
theorem mw_390 : (Cond.code y_G_init b_G_init 1 none) ∈ wd := mt_1 (List.mem_of_getElem? (i := 105) (by decide +kernel)) (by decide +kernel)
theorem mw_391 : (Cond.instanceMethod y_G_init) ∈ wd := mt_1 (List.mem_of_getElem? (i := 104) (by decide +kernel)) (by decide +kernel)
theorem mw_392 : (Cond.methodLink R_P 27 y_G_init) ∈ wd := mt_1 (List.mem_of_getElem? (i := 103) (by decide +kernel)) (by decide +kernel)
theorem mw_393 : (Cond.classLink R_P 32 R_T) ∈ wd := mt_1 (List.mem_of_getElem? (i := 117) (by decide +kernel)) (by decide +kernel)
theorem mw_394 : (Cond.instantiable R_T 5) ∈ wd := mt_1 (List.mem_of_getElem? (i := 118) (by decide +kernel)) (by decide +kernel)
theorem mw_395 : (Cond.code y_T_init b_T_init 1 none) ∈ wd := mt_1 (List.mem_of_getElem? (i := 121) (by decide +kernel)) (by decide +kernel)
theorem mw_396 : (Cond.instanceMethod y_T_init) ∈ wd := mt_1 (List.mem_of_getElem? (i := 120) (by decide +kernel)) (by decide +kernel)
theorem mw_397 : (Cond.methodLink R_C 1 Lib.objectInit) ∈ wd := mt_1 (List.mem_of_getElem? (i := 20) (by decide +kernel)) (by decide +kernel)
theorem mw_398 : (Cond.classLink R_C 7 R_P) ∈ wd := mt_1 (List.mem_of_getElem? (i := 23) (by decide +kernel)) (by decide +kernel)
theorem mw_399 : (Cond.instantiable R_P 10) ∈ wd := mt_1 (List.mem_of_getElem? (i := 24) (by decide +kernel)) (by decide +kernel)
theorem mw_400 : (Cond.code y_P_init b_P_init 1 none) ∈ wd := mt_1 (List.mem_of_getElem? (i := 27) (by decide +kernel)) (by decide +kernel)
theorem mw_401 : (Cond.instanceMethod y_P_init) ∈ wd := mt_1 (List.mem_of_getElem? (i := 26) (by decide +kernel)) (by decide +kernel)
theorem mw_402 : (Cond.methodLink R_C 9 y_P_init) ∈ wd := mt_1 (List.mem_of_getElem? (i := 25) (by decide +kernel)) (by decide +kernel)
theorem mw_403 : (Cond.methodLink R_X 1 Lib.objectInit) ∈ wd := mt_3 (List.mem_of_getElem? (i := 93) (by decide +kernel)) (by decide +kernel)
theorem d_M_init_0 : decode b_M_init 0 = .ok (.aload_n 0, 1) := by decide +kernel
theorem d_M_init_1 : decode b_M_init 1 = .ok (.invokespecial 3, 3) := by decide +kernel
theorem d_M_init_4 : decode b_M_init 4 = .ok (.aload_n 0, 1) := by decide +kernel
theorem d_M_init_5 : decode b_M_init 5 = .ok (.sipush 512, 3) := by decide +kernel
theorem d_M_init_8 : decode b_M_init 8 = .ok (.newarray .int, 2) := by decide +kernel
theorem d_M_init_10 : decode b_M_init 10 = .ok (.putfield 9, 3) := by decide +kernel
theorem d_M_init_13 : decode b_M_init 13 = .ok (.return_, 1) := by decide +kernel
theorem d_R_init_0 : decode b_R_init 0 = .ok (.aload_n 0, 1) := by decide +kernel
theorem d_R_init_1 : decode b_R_init 1 = .ok (.invokespecial 3, 3) := by decide +kernel
theorem d_R_init_4 : decode b_R_init 4 = .ok (.aload_n 0, 1) := by decide +kernel
theorem d_R_init_5 : decode b_R_init 5 = .ok (.bipush 8, 2) := by decide +kernel
theorem d_R_init_7 : decode b_R_init 7 = .ok (.newarray .int, 2) := by decide +kernel
theorem d_R_init_9 : decode b_R_init 9 = .ok (.putfield 9, 3) := by decide +kernel
theorem d_R_init_12 : decode b_R_init 12 = .ok (.aload_n 0, 1) := by decide +kernel
theorem d_R_init_13 : decode b_R_init 13 = .ok (.bipush 8, 2) := by decide +kernel
theorem d_R_init_15 : decode b_R_init 15 = .ok (.newarray .int, 2) := by decide +kernel
theorem d_R_init_17 : decode b_R_init 17 = .ok (.putfield 15, 3) := by decide +kernel
theorem d_R_init_20 : decode b_R_init 20 = .ok (.return_, 1) := by decide +kernel
theorem d_G_init_0 : decode b_G_init 0 = .ok (.aload_n 0, 1) := by decide +kernel
theorem d_G_init_1 : decode b_G_init 1 = .ok (.invokespecial 3, 3) := by decide +kernel
theorem d_G_init_4 : decode b_G_init 4 = .ok (.aload_n 0, 1) := by decide +kernel
theorem d_G_init_5 : decode b_G_init 5 = .ok (.bipush 6, 2) := by decide +kernel
theorem d_G_init_7 : decode b_G_init 7 = .ok (.newarray .int, 2) := by decide +kernel
theorem d_G_init_9 : decode b_G_init 9 = .ok (.putfield 9, 3) := by decide +kernel
theorem d_G_init_12 : decode b_G_init 12 = .ok (.aload_n 0, 1) := by decide +kernel
theorem d_G_init_13 : decode b_G_init 13 = .ok (.bipush 6, 2) := by decide +kernel
theorem d_G_init_15 : decode b_G_init 15 = .ok (.newarray .int, 2) := by decide +kernel
theorem d_G_init_17 : decode b_G_init 17 = .ok (.putfield 15, 3) := by decide +kernel
theorem d_G_init_20 : decode b_G_init 20 = .ok (.aload_n 0, 1) := by decide +kernel
theorem d_G_init_21 : decode b_G_init 21 = .ok (.bipush 6, 2) := by decide +kernel
theorem d_G_init_23 : decode b_G_init 23 = .ok (.newarray .int, 2) := by decide +kernel
theorem d_G_init_25 : decode b_G_init 25 = .ok (.putfield 18, 3) := by decide +kernel
theorem d_G_init_28 : decode b_G_init 28 = .ok (.return_, 1) := by decide +kernel
theorem d_T_init_0 : decode b_T_init 0 = .ok (.aload_n 0, 1) := by decide +kernel
theorem d_T_init_1 : decode b_T_init 1 = .ok (.invokespecial 3, 3) := by decide +kernel
theorem d_T_init_4 : decode b_T_init 4 = .ok (.return_, 1) := by decide +kernel
theorem d_P_init_0 : decode b_P_init 0 = .ok (.aload_n 0, 1) := by decide +kernel
theorem d_P_init_1 : decode b_P_init 1 = .ok (.invokespecial 3, 3) := by decide +kernel
theorem d_P_init_4 : decode b_P_init 4 = .ok (.aload_n 0, 1) := by decide +kernel
theorem d_P_init_5 : decode b_P_init 5 = .ok (.new 9, 3) := by decide +kernel
theorem d_P_init_8 : decode b_P_init 8 = .ok (.dup, 1) := by decide +kernel
theorem d_P_init_9 : decode b_P_init 9 = .ok (.invokespecial 11, 3) := by decide +kernel
theorem d_P_init_12 : decode b_P_init 12 = .ok (.putfield 12, 3) := by decide +kernel
theorem d_P_init_15 : decode b_P_init 15 = .ok (.aload_n 0, 1) := by decide +kernel
theorem d_P_init_16 : decode b_P_init 16 = .ok (.new 18, 3) := by decide +kernel
theorem d_P_init_19 : decode b_P_init 19 = .ok (.dup, 1) := by decide +kernel
theorem d_P_init_20 : decode b_P_init 20 = .ok (.invokespecial 20, 3) := by decide +kernel
theorem d_P_init_23 : decode b_P_init 23 = .ok (.putfield 21, 3) := by decide +kernel
theorem d_P_init_26 : decode b_P_init 26 = .ok (.aload_n 0, 1) := by decide +kernel
theorem d_P_init_27 : decode b_P_init 27 = .ok (.new 25, 3) := by decide +kernel
theorem d_P_init_30 : decode b_P_init 30 = .ok (.dup, 1) := by decide +kernel
theorem d_P_init_31 : decode b_P_init 31 = .ok (.invokespecial 27, 3) := by decide +kernel
theorem d_P_init_34 : decode b_P_init 34 = .ok (.putfield 28, 3) := by decide +kernel
theorem d_P_init_37 : decode b_P_init 37 = .ok (.aload_n 0, 1) := by decide +kernel
theorem d_P_init_38 : decode b_P_init 38 = .ok (.new 32, 3) := by decide +kernel
theorem d_P_init_41 : decode b_P_init 41 = .ok (.dup, 1) := by decide +kernel
theorem d_P_init_42 : decode b_P_init 42 = .ok (.invokespecial 34, 3) := by decide +kernel
theorem d_P_init_45 : decode b_P_init 45 = .ok (.putfield 35, 3) := by decide +kernel
theorem d_P_init_48 : decode b_P_init 48 = .ok (.aload_n 0, 1) := by decide +kernel
theorem d_P_init_49 : decode b_P_init 49 = .ok (.iconst (-1), 1) := by decide +kernel
theorem d_P_init_50 : decode b_P_init 50 = .ok (.putfield 39, 3) := by decide +kernel
theorem d_P_init_53 : decode b_P_init 53 = .ok (.return_, 1) := by decide +kernel
theorem d_C_init_0 : decode b_C_init 0 = .ok (.aload_n 0, 1) := by decide +kernel
theorem d_C_init_1 : decode b_C_init 1 = .ok (.invokespecial 1, 3) := by decide +kernel
theorem d_C_init_4 : decode b_C_init 4 = .ok (.aload_n 0, 1) := by decide +kernel
theorem d_C_init_5 : decode b_C_init 5 = .ok (.new 7, 3) := by decide +kernel
theorem d_C_init_8 : decode b_C_init 8 = .ok (.dup, 1) := by decide +kernel
theorem d_C_init_9 : decode b_C_init 9 = .ok (.invokespecial 9, 3) := by decide +kernel
theorem d_C_init_12 : decode b_C_init 12 = .ok (.putfield 10, 3) := by decide +kernel
theorem d_C_init_15 : decode b_C_init 15 = .ok (.return_, 1) := by decide +kernel
theorem d_X_init_0 : decode b_X_init 0 = .ok (.aload_n 0, 1) := by decide +kernel
theorem d_X_init_1 : decode b_X_init 1 = .ok (.invokespecial 1, 3) := by decide +kernel
theorem d_X_init_4 : decode b_X_init 4 = .ok (.aload_n 0, 1) := by decide +kernel
theorem d_X_init_5 : decode b_X_init 5 = .ok (.sipush 512, 3) := by decide +kernel
theorem d_X_init_8 : decode b_X_init 8 = .ok (.newarray .int, 2) := by decide +kernel
theorem d_X_init_10 : decode b_X_init 10 = .ok (.putfield 7, 3) := by decide +kernel
theorem d_X_init_13 : decode b_X_init 13 = .ok (.aload_n 0, 1) := by decide +kernel
theorem d_X_init_14 : decode b_X_init 14 = .ok (.bipush 8, 2) := by decide +kernel
theorem d_X_init_16 : decode b_X_init 16 = .ok (.newarray .int, 2) := by decide +kernel
theorem d_X_init_18 : decode b_X_init 18 = .ok (.putfield 13, 3) := by decide +kernel
theorem d_X_init_21 : decode b_X_init 21 = .ok (.aload_n 0, 1) := by decide +kernel
theorem d_X_init_22 : decode b_X_init 22 = .ok (.bipush 8, 2) := by decide +kernel
theorem d_X_init_24 : decode b_X_init 24 = .ok (.newarray .int, 2) := by decide +kernel
theorem d_X_init_26 : decode b_X_init 26 = .ok (.putfield 16, 3) := by decide +kernel
theorem d_X_init_29 : decode b_X_init 29 = .ok (.aload_n 0, 1) := by decide +kernel
theorem d_X_init_30 : decode b_X_init 30 = .ok (.iconst 4, 1) := by decide +kernel
theorem d_X_init_31 : decode b_X_init 31 = .ok (.newarray .int, 2) := by decide +kernel
theorem d_X_init_33 : decode b_X_init 33 = .ok (.putfield 19, 3) := by decide +kernel
theorem d_X_init_36 : decode b_X_init 36 = .ok (.aload_n 0, 1) := by decide +kernel
theorem d_X_init_37 : decode b_X_init 37 = .ok (.iconst 1, 1) := by decide +kernel
theorem d_X_init_38 : decode b_X_init 38 = .ok (.putfield 22, 3) := by decide +kernel
theorem d_X_init_41 : decode b_X_init 41 = .ok (.aload_n 0, 1) := by decide +kernel
theorem d_X_init_42 : decode b_X_init 42 = .ok (.bipush 6, 2) := by decide +kernel
theorem d_X_init_44 : decode b_X_init 44 = .ok (.newarray .int, 2) := by decide +kernel
theorem d_X_init_46 : decode b_X_init 46 = .ok (.putfield 26, 3) := by decide +kernel
theorem d_X_init_49 : decode b_X_init 49 = .ok (.aload_n 0, 1) := by decide +kernel
theorem d_X_init_50 : decode b_X_init 50 = .ok (.bipush 6, 2) := by decide +kernel
theorem d_X_init_52 : decode b_X_init 52 = .ok (.newarray .int, 2) := by decide +kernel
theorem d_X_init_54 : decode b_X_init 54 = .ok (.putfield 29, 3) := by decide +kernel
theorem d_X_init_57 : decode b_X_init 57 = .ok (.aload_n 0, 1) := by decide +kernel
theorem d_X_init_58 : decode b_X_init 58 = .ok (.bipush 6, 2) := by decide +kernel
theorem d_X_init_60 : decode b_X_init 60 = .ok (.newarray .int, 2) := by decide +kernel
theorem d_X_init_62 : decode b_X_init 62 = .ok (.putfield 32, 3) := by decide +kernel
theorem d_X_init_65 : decode b_X_init 65 = .ok (.aload_n 0, 1) := by decide +kernel
theorem d_X_init_66 : decode b_X_init 66 = .ok (.iconst (-1), 1) := by decide +kernel
theorem d_X_init_67 : decode b_X_init 67 = .ok (.putfield 35, 3) := by decide +kernel
theorem d_X_init_70 : decode b_X_init 70 = .ok (.return_, 1) := by decide +kernel
set_option maxHeartbeats 4000000 in
set_option maxRecDepth 100000 in
theorem k_M_init (l : Launch) (D : va_G) (cI : ClassId) (sz : Nat) (xM : Nat) : zMn l y_M_init (.code y_M_init b_M_init 1 none :: wd) { frames := 1, cells := 1, slots := 512, locals := 20 } D classes [(cI, .int)] [.ref xM] [(xM, .inr (0, [.null]))] (fun q => [oM xM (q 0), ar cI (q 0) 512 (fun _ => 0)]) sz 1 512 := by
  refine met_n (by decide) (Nat.le_of_ble_eq_true rfl) ?_
  intro p e s m args below meth c A Q ls hx hb hml hown hnam hts hK hP hD hS hA hl hE
  have hl : lv_has ls 1 [(0, .ref xM)] := hl
  have hown : s.vm.findClass R_M = some m.cls := hown
  refine lv_aload_n hx hb d_M_init_0 rfl (lv_at hl 0 rfl) ?_
  refine W.objInit hx hb hown (hts _ mw_373) (hts _ mw_oi) (hts _ mw_oc) rfl (by rw [hml]; exact hl.1) rfl d_M_init_1 (Nat.le_of_ble_eq_true rfl) (Nat.le_of_ble_eq_true rfl) ?_
  refine W.eq (g2 := F0 m 4 ls []) rfl ?_
  refine lv_aload_n hx hb d_M_init_4 rfl (lv_at hl 0 rfl) ?_
  refine lv_sipush (v := (512 : Int32)) hx hb d_M_init_5 (by decide) ?_
  refine zz_newI (N := 512) hx hb mw_arrI hts hK hP hD hS hA (by decide) (by decide) (by decide) (Nat.le_of_ble_eq_true rfl) (Nat.le_of_ble_eq_true rfl) d_M_init_8 (fun _ => rfl) (fun q0 H hP hD hS => ?_)
  have hP : va_P D classes [(xM, .inr (0, [.null])), ar cI q0 512 (fun _ => 0)] H := hP
  have hD : va_D A [(xM, .inr (0, [.null])), ar cI q0 512 (fun _ => 0)] := hD
  refine zz_putF (C := R_M) (T := F_M) (N := 1) (w' := [(xM, .inr (0, [.ref q0])), ar cI q0 512 (fun _ => 0)]) hx hb hts in_M ty_M ty_M_ok n_M hown hnam hK hP hD hS 0 rfl rfl 0 (by decide) mw_0 rfl rfl rfl rfl (Nat.le_of_ble_eq_true rfl) d_M_init_10 rfl (fun H locs hP hD hS => ?_)
  have hP9 := hP.sub (ws' := [oM xM q0, ar cI q0 512 (fun _ => 0)]) [0, 1] rfl
  have hD9 := hD.sub (ws' := [oM xM q0, ar cI q0 512 (fun _ => 0)]) [0, 1] (by decide) rfl
  exact hE (fun i => ([q0] : List Nat).getD i 0) _ _ _ _ hP9 hD9 hS d_M_init_13
set_option maxHeartbeats 4000000 in
set_option maxRecDepth 100000 in
theorem k_R_init (l : Launch) (D : va_G) (cI : ClassId) (sz : Nat) (xR : Nat) : zMn l y_R_init (.code y_R_init b_R_init 1 none :: wd) { frames := 1, cells := 2, slots := 16, locals := 20 } D classes [(cI, .int)] [.ref xR] [(xR, .inr (1, [.null, .null, .int 0, .int 0, .int 0, .int 0, .int 0, .int 0, .int 0, .int 0, .int 0, .int 0]))] (fun q => [oR xR (q 0) (q 1) (fun _ => 0), ar cI (q 0) 8 (fun _ => 0), ar cI (q 1) 8 (fun _ => 0)]) sz 2 16 := by
  refine met_n (by decide) (Nat.le_of_ble_eq_true rfl) ?_
  intro p e s m args below meth c A Q ls hx hb hml hown hnam hts hK hP hD hS hA hl hE
  have hl : lv_has ls 1 [(0, .ref xR)] := hl
  have hown : s.vm.findClass R_R = some m.cls := hown
  refine lv_aload_n hx hb d_R_init_0 rfl (lv_at hl 0 rfl) ?_
  refine W.objInit hx hb hown (hts _ mw_374) (hts _ mw_oi) (hts _ mw_oc) rfl (by rw [hml]; exact hl.1) rfl d_R_init_1 (Nat.le_of_ble_eq_true rfl) (Nat.le_of_ble_eq_true rfl) ?_
  refine W.eq (g2 := F0 m 4 ls []) rfl ?_
  refine lv_aload_n hx hb d_R_init_4 rfl (lv_at hl 0 rfl) ?_
  refine lv_bipush (v := (8 : Int32)) hx hb d_R_init_5 (by decide) ?_
  refine zz_newI (N := 8) hx hb mw_arrI hts hK hP hD hS hA (by decide) (by decide) (by decide) (Nat.le_of_ble_eq_true rfl) (Nat.le_of_ble_eq_true rfl) d_R_init_7 (fun _ => rfl) (fun q0 H hP hD hS => ?_)
  have hP : va_P D classes [(xR, .inr (1, [.null, .null, .int 0, .int 0, .int 0, .int 0, .int 0, .int 0, .int 0, .int 0, .int 0, .int 0])), ar cI q0 8 (fun _ => 0)] H := hP
  have hD : va_D A [(xR, .inr (1, [.null, .null, .int 0, .int 0, .int 0, .int 0, .int 0, .int 0, .int 0, .int 0, .int 0, .int 0])), ar cI q0 8 (fun _ => 0)] := hD
  refine zz_putF (C := R_R) (T := F_R) (N := 12) (w' := [(xR, .inr (1, [.ref q0, .null, .int 0, .int 0, .int 0, .int 0, .int 0, .int 0, .int 0, .int 0, .int 0, .int 0])), ar cI q0 8 (fun _ => 0)]) hx hb hts in_R ty_R ty_R_ok n_R hown hnam hK hP hD hS 0 rfl rfl 0 (by decide) mw_10 rfl rfl rfl rfl (Nat.le_of_ble_eq_true rfl) d_R_init_9 rfl (fun H locs hP hD hS => ?_)
  refine lv_aload_n hx hb d_R_init_12 rfl (lv_at hl 0 rfl) ?_
  refine lv_bipush (v := (8 : Int32)) hx hb d_R_init_13 (by decide) ?_
  refine zz_newI (N := 8) hx hb mw_arrI hts hK hP hD hS hA (by decide) (by decide) (by decide) (Nat.le_of_ble_eq_true rfl) (Nat.le_of_ble_eq_true rfl) d_R_init_15 (fun _ => rfl) (fun q1 H hP hD hS => ?_)
  have hP : va_P D classes [(xR, .inr (1, [.ref q0, .null, .int 0, .int 0, .int 0, .int 0, .int 0, .int 0, .int 0, .int 0, .int 0, .int 0])), ar cI q0 8 (fun _ => 0), ar cI q1 8 (fun _ => 0)] H := hP
  have hD : va_D A [(xR, .inr (1, [.ref q0, .null, .int 0, .int 0, .int 0, .int 0, .int 0, .int 0, .int 0, .int 0, .int 0, .int 0])), ar cI q0 8 (fun _ => 0), ar cI q1 8 (fun _ => 0)] := hD
  refine zz_putF (C := R_R) (T := F_R) (N := 12) (w' := [(xR, .inr (1, [.ref q0, .ref q1, .int 0, .int 0, .int 0, .int 0, .int 0, .int 0, .int 0, .int 0, .int 0, .int 0])), ar cI q0 8 (fun _ => 0), ar cI q1 8 (fun _ => 0)]) hx hb hts in_R ty_R ty_R_ok n_R hown hnam hK hP hD hS 0 rfl rfl 1 (by decide) mw_7 rfl rfl rfl rfl (Nat.le_of_ble_eq_true rfl) d_R_init_17 rfl (fun H locs hP hD hS => ?_)
  have hP9 := hP.sub (ws' := [oR xR q0 q1 (fun _ => 0), ar cI q0 8 (fun _ => 0), ar cI q1 8 (fun _ => 0)]) [0, 1, 2] rfl
  have hD9 := hD.sub (ws' := [oR xR q0 q1 (fun _ => 0), ar cI q0 8 (fun _ => 0), ar cI q1 8 (fun _ => 0)]) [0, 1, 2] (by decide) rfl
  exact hE (fun i => ([q0, q1] : List Nat).getD i 0) _ _ _ _ hP9 hD9 hS d_R_init_20
set_option maxHeartbeats 4000000 in
set_option maxRecDepth 100000 in
theorem k_G_init (l : Launch) (D : va_G) (cI : ClassId) (sz : Nat) (xG : Nat) : zMn l y_G_init (.code y_G_init b_G_init 1 none :: wd) { frames := 1, cells := 3, slots := 18, locals := 20 } D classes [(cI, .int)] [.ref xG] [(xG, .inr (2, [.null, .null, .null]))] (fun q => [oG xG (q 0) (q 1) (q 2), ar cI (q 0) 6 (fun _ => 0), ar cI (q 1) 6 (fun _ => 0), ar cI (q 2) 6 (fun _ => 0)]) sz 3 18 := by
  refine met_n (by decide) (Nat.le_of_ble_eq_true rfl) ?_
  intro p e s m args below meth c A Q ls hx hb hml hown hnam hts hK hP hD hS hA hl hE
  have hl : lv_has ls 1 [(0, .ref xG)] := hl
  have hown : s.vm.findClass R_G = some m.cls := hown
  refine lv_aload_n hx hb d_G_init_0 rfl (lv_at hl 0 rfl) ?_
  refine W.objInit hx hb hown (hts _ mw_375) (hts _ mw_oi) (hts _ mw_oc) rfl (by rw [hml]; exact hl.1) rfl d_G_init_1 (Nat.le_of_ble_eq_true rfl) (Nat.le_of_ble_eq_true rfl) ?_
  refine W.eq (g2 := F0 m 4 ls []) rfl ?_
  refine lv_aload_n hx hb d_G_init_4 rfl (lv_at hl 0 rfl) ?_
  refine lv_bipush (v := (6 : Int32)) hx hb d_G_init_5 (by decide) ?_
  refine zz_newI (N := 6) hx hb mw_arrI hts hK hP hD hS hA (by decide) (by decide) (by decide) (Nat.le_of_ble_eq_true rfl) (Nat.le_of_ble_eq_true rfl) d_G_init_7 (fun _ => rfl) (fun q0 H hP hD hS => ?_)
  have hP : va_P D classes [(xG, .inr (2, [.null, .null, .null])), ar cI q0 6 (fun _ => 0)] H := hP
  have hD : va_D A [(xG, .inr (2, [.null, .null, .null])), ar cI q0 6 (fun _ => 0)] := hD
  refine zz_putF (C := R_G) (T := F_G) (N := 3) (w' := [(xG, .inr (2, [.ref q0, .null, .null])), ar cI q0 6 (fun _ => 0)]) hx hb hts in_G ty_G ty_G_ok n_G hown hnam hK hP hD hS 0 rfl rfl 0 (by decide) mw_13 rfl rfl rfl rfl (Nat.le_of_ble_eq_true rfl) d_G_init_9 rfl (fun H locs hP hD hS => ?_)
  refine lv_aload_n hx hb d_G_init_12 rfl (lv_at hl 0 rfl) ?_
  refine lv_bipush (v := (6 : Int32)) hx hb d_G_init_13 (by decide) ?_
  refine zz_newI (N := 6) hx hb mw_arrI hts hK hP hD hS hA (by decide) (by decide) (by decide) (Nat.le_of_ble_eq_true rfl) (Nat.le_of_ble_eq_true rfl) d_G_init_15 (fun _ => rfl) (fun q1 H hP hD hS => ?_)
  have hP : va_P D classes [(xG, .inr (2, [.ref q0, .null, .null])), ar cI q0 6 (fun _ => 0), ar cI q1 6 (fun _ => 0)] H := hP
  have hD : va_D A [(xG, .inr (2, [.ref q0, .null, .null])), ar cI q0 6 (fun _ => 0), ar cI q1 6 (fun _ => 0)] := hD
  refine zz_putF (C := R_G) (T := F_G) (N := 3) (w' := [(xG, .inr (2, [.ref q0, .ref q1, .null])), ar cI q0 6 (fun _ => 0), ar cI q1 6 (fun _ => 0)]) hx hb hts in_G ty_G ty_G_ok n_G hown hnam hK hP hD hS 0 rfl rfl 1 (by decide) mw_14 rfl rfl rfl rfl (Nat.le_of_ble_eq_true rfl) d_G_init_17 rfl (fun H locs hP hD hS => ?_)
  refine lv_aload_n hx hb d_G_init_20 rfl (lv_at hl 0 rfl) ?_
  refine lv_bipush (v := (6 : Int32)) hx hb d_G_init_21 (by decide) ?_
  refine zz_newI (N := 6) hx hb mw_arrI hts hK hP hD hS hA (by decide) (by decide) (by decide) (Nat.le_of_ble_eq_true rfl) (Nat.le_of_ble_eq_true rfl) d_G_init_23 (fun _ => rfl) (fun q2 H hP hD hS => ?_)
  have hP : va_P D classes [(xG, .inr (2, [.ref q0, .ref q1, .null])), ar cI q0 6 (fun _ => 0), ar cI q1 6 (fun _ => 0), ar cI q2 6 (fun _ => 0)] H := hP
  have hD : va_D A [(xG, .inr (2, [.ref q0, .ref q1, .null])), ar cI q0 6 (fun _ => 0), ar cI q1 6 (fun _ => 0), ar cI q2 6 (fun _ => 0)] := hD
  refine zz_putF (C := R_G) (T := F_G) (N := 3) (w' := [(xG, .inr (2, [.ref q0, .ref q1, .ref q2])), ar cI q0 6 (fun _ => 0), ar cI q1 6 (fun _ => 0), ar cI q2 6 (fun _ => 0)]) hx hb hts in_G ty_G ty_G_ok n_G hown hnam hK hP hD hS 0 rfl rfl 2 (by decide) mw_15 rfl rfl rfl rfl (Nat.le_of_ble_eq_true rfl) d_G_init_25 rfl (fun H locs hP hD hS => ?_)
  have hP9 := hP.sub (ws' := [oG xG q0 q1 q2, ar cI q0 6 (fun _ => 0), ar cI q1 6 (fun _ => 0), ar cI q2 6 (fun _ => 0)]) [0, 1, 2, 3] rfl
  have hD9 := hD.sub (ws' := [oG xG q0 q1 q2, ar cI q0 6 (fun _ => 0), ar cI q1 6 (fun _ => 0), ar cI q2 6 (fun _ => 0)]) [0, 1, 2, 3] (by decide) rfl
  exact hE (fun i => ([q0, q1, q2] : List Nat).getD i 0) _ _ _ _ hP9 hD9 hS d_G_init_28
set_option maxHeartbeats 4000000 in
set_option maxRecDepth 100000 in
theorem k_T_init (l : Launch) (D : va_G) (cI : ClassId) (sz : Nat) (xT : Nat) : zMn l y_T_init (.code y_T_init b_T_init 1 none :: wd) { frames := 1, cells := 0, slots := 0, locals := 20 } D classes [(cI, .int)] [.ref xT] [(xT, .inr (3, [.int 0, .int 0, .int 0, .int 0, .int 0]))] (fun q => [oT xT (fun _ => 0)]) sz 0 0 := by
  refine met_n (by decide) (Nat.le_of_ble_eq_true rfl) ?_
  intro p e s m args below meth c A Q ls hx hb hml hown hnam hts hK hP hD hS hA hl hE
  have hl : lv_has ls 1 [(0, .ref xT)] := hl
  have hown : s.vm.findClass R_T = some m.cls := hown
  refine lv_aload_n hx hb d_T_init_0 rfl (lv_at hl 0 rfl) ?_
  refine W.objInit hx hb hown (hts _ mw_376) (hts _ mw_oi) (hts _ mw_oc) rfl (by rw [hml]; exact hl.1) rfl d_T_init_1 (Nat.le_of_ble_eq_true rfl) (Nat.le_of_ble_eq_true rfl) ?_
  refine W.eq (g2 := F0 m 4 ls []) rfl ?_
  have hP9 := hP.sub (ws' := [oT xT (fun _ => 0)]) [0] rfl
  have hD9 := hD.sub (ws' := [oT xT (fun _ => 0)]) [0] (by decide) rfl
  exact hE (fun i => i) _ _ _ _ hP9 hD9 hS d_T_init_4
set_option maxHeartbeats 4000000 in
set_option maxRecDepth 100000 in
theorem k_P_init (l : Launch) (D : va_G) (cI : ClassId) (sz : Nat) (xP : Nat) : zMnN l y_P_init (.code y_P_init b_P_init 1 none :: wd) { frames := 2, cells := 10, slots := 567, locals := 40 } D classes [(cI, .int)] [.ref xP] [(xP, .inr (4, [.null, .null, .null, .null, .int 0, .int 0, .int 0, .int 0, .int 0, .int 0]))] (fun q => [oP xP (q 0) (q 2) (q 5) (q 9) (upd (fun _ => 0) 5 (-1 : Int32)), oM (q 0) (q 1), ar cI (q 1) 512 (fun _ => 0), oR (q 2) (q 3) (q 4) (fun _ => 0), ar cI (q 3) 8 (fun _ => 0), ar cI (q 4) 8 (fun _ => 0), oG (q 5) (q 6) (q 7) (q 8), ar cI (q 6) 6 (fun _ => 0), ar cI (q 7) 6 (fun _ => 0), ar cI (q 8) 6 (fun _ => 0), oT (q 9) (fun _ => 0)]) sz 10 567 (.methodLinkNest R_P 34 y_T_init "AreaCore") := by
  refine met_nN (by decide) (Nat.le_of_ble_eq_true rfl) ?_
  intro p e s m args below meth c A Q ls hx hb hml hown hnam hts hNw hK hP hD hS hA hl hE
  have hl : lv_has ls 1 [(0, .ref xP)] := hl
  have hown : s.vm.findClass R_P = some m.cls := hown
  refine lv_aload_n hx hb d_P_init_0 rfl (lv_at hl 0 rfl) ?_
  refine W.objInit hx hb hown (hts _ mw_377) (hts _ mw_oi) (hts _ mw_oc) rfl (by rw [hml]; exact hl.1) rfl d_P_init_1 (Nat.le_of_ble_eq_true rfl) (Nat.le_of_ble_eq_true rfl) ?_
  refine W.eq (g2 := F0 m 4 ls []) rfl ?_
  refine lv_aload_n hx hb d_P_init_4 rfl (lv_at hl 0 rfl) ?_
  refine zz_new (ci := 0) (fs := [.null]) (C := R_M) (T := F_M) (N := 1) hx hb hts in_M ty_M ty_M_ok hown mw_378 mw_379 mw_108 hK hP hD hS hA rfl (fun j hj => by rcases (show j = 0 by omega) with rfl <;> rfl) (Nat.le_of_ble_eq_true rfl) (Nat.le_of_ble_eq_true rfl) d_P_init_5 (fun q0 H hP hD hS => ?_)
  have hP : va_P D classes [(xP, .inr (4, [.null, .null, .null, .null, .int 0, .int 0, .int 0, .int 0, .int 0, .int 0])), (q0, .inr (0, [.null]))] H := hP
  have hD : va_D A [(xP, .inr (4, [.null, .null, .null, .null, .int 0, .int 0, .int 0, .int 0, .int 0, .int 0])), (q0, .inr (0, [.null]))] := hD
  refine lv_dup hx hb d_P_init_8 rfl ?_
  refine zz_cIn (As := []) (rest := [.ref q0, .ref xP]) (wr := [(xP, .inr (4, [.null, .null, .null, .null, .int 0, .int 0, .int 0, .int 0, .int 0, .int 0]))]) ⟨hx, hb, hml, hown, hts⟩ (k_M_init l D cI _ q0) (zz_goodI wd_good mw_380) mw_382 mw_108 mw_381 rfl nd_M_init ⟨⟨rfl, rfl⟩, Nat.le_of_ble_eq_true rfl, Nat.le_of_ble_eq_true rfl⟩ hK hP hD hS hA [1] [0] rfl rfl rfl rfl (by decide) rfl rfl hl.1 (Nat.le_of_ble_eq_true rfl) d_P_init_9 ⟨Nat.le_of_ble_eq_true rfl, Nat.le_of_ble_eq_true rfl⟩ (fun q1 H locs hP hD hS => ?_)
  have hP : va_P D classes [(xP, .inr (4, [.null, .null, .null, .null, .int 0, .int 0, .int 0, .int 0, .int 0, .int 0])), oM q0 (q1 0), ar cI (q1 0) 512 (fun _ => 0)] H := hP
  have hD : va_D A [(xP, .inr (4, [.null, .null, .null, .null, .int 0, .int 0, .int 0, .int 0, .int 0, .int 0])), oM q0 (q1 0), ar cI (q1 0) 512 (fun _ => 0)] := hD
  refine zz_putF (C := R_P) (T := F_P) (N := 10) (w' := [(xP, .inr (4, [.ref q0, .null, .null, .null, .int 0, .int 0, .int 0, .int 0, .int 0, .int 0])), oM q0 (q1 0), ar cI (q1 0) 512 (fun _ => 0)]) hx hb hts in_P ty_P ty_P_ok n_P hown hnam hK hP hD hS 0 rfl rfl 0 (by decide) mw_24 rfl rfl rfl rfl (Nat.le_of_ble_eq_true rfl) d_P_init_12 rfl (fun H locs hP hD hS => ?_)
  refine lv_aload_n hx hb d_P_init_15 rfl (lv_at hl 0 rfl) ?_
  refine zz_new (ci := 1) (fs := [.null, .null, .int 0, .int 0, .int 0, .int 0, .int 0, .int 0, .int 0, .int 0, .int 0, .int 0]) (C := R_R) (T := F_R) (N := 12) hx hb hts in_R ty_R ty_R_ok hown mw_383 mw_384 mw_125 hK hP hD hS hA rfl (fun j hj => by rcases (show j = 0 ∨ j = 1 ∨ j = 2 ∨ j = 3 ∨ j = 4 ∨ j = 5 ∨ j = 6 ∨ j = 7 ∨ j = 8 ∨ j = 9 ∨ j = 10 ∨ j = 11 by omega) with rfl | rfl | rfl | rfl | rfl | rfl | rfl | rfl | rfl | rfl | rfl | rfl <;> rfl) (Nat.le_of_ble_eq_true rfl) (Nat.le_of_ble_eq_true rfl) d_P_init_16 (fun q2 H hP hD hS => ?_)
  have hP : va_P D classes [(xP, .inr (4, [.ref q0, .null, .null, .null, .int 0, .int 0, .int 0, .int 0, .int 0, .int 0])), oM q0 (q1 0), ar cI (q1 0) 512 (fun _ => 0), (q2, .inr (1, [.null, .null, .int 0, .int 0, .int 0, .int 0, .int 0, .int 0, .int 0, .int 0, .int 0, .int 0]))] H := hP
  have hD : va_D A [(xP, .inr (4, [.ref q0, .null, .null, .null, .int 0, .int 0, .int 0, .int 0, .int 0, .int 0])), oM q0 (q1 0), ar cI (q1 0) 512 (fun _ => 0), (q2, .inr (1, [.null, .null, .int 0, .int 0, .int 0, .int 0, .int 0, .int 0, .int 0, .int 0, .int 0, .int 0]))] := hD
  refine lv_dup hx hb d_P_init_19 rfl ?_
  refine zz_cIn (As := []) (rest := [.ref q2, .ref xP]) (wr := [(xP, .inr (4, [.ref q0, .null, .null, .null, .int 0, .int 0, .int 0, .int 0, .int 0, .int 0])), oM q0 (q1 0), ar cI (q1 0) 512 (fun _ => 0)]) ⟨hx, hb, hml, hown, hts⟩ (k_R_init l D cI _ q2) (zz_goodI wd_good mw_385) mw_387 mw_125 mw_386 rfl nd_R_init ⟨⟨rfl, rfl⟩, Nat.le_of_ble_eq_true rfl, Nat.le_of_ble_eq_true rfl⟩ hK hP hD hS hA [3] [0, 1, 2] rfl rfl rfl rfl (by decide) rfl rfl hl.1 (Nat.le_of_ble_eq_true rfl) d_P_init_20 ⟨Nat.le_of_ble_eq_true rfl, Nat.le_of_ble_eq_true rfl⟩ (fun q3 H locs hP hD hS => ?_)
  have hP : va_P D classes [(xP, .inr (4, [.ref q0, .null, .null, .null, .int 0, .int 0, .int 0, .int 0, .int 0, .int 0])), oM q0 (q1 0), ar cI (q1 0) 512 (fun _ => 0), oR q2 (q3 0) (q3 1) (fun _ => 0), ar cI (q3 0) 8 (fun _ => 0), ar cI (q3 1) 8 (fun _ => 0)] H := hP
  have hD : va_D A [(xP, .inr (4, [.ref q0, .null, .null, .null, .int 0, .int 0, .int 0, .int 0, .int 0, .int 0])), oM q0 (q1 0), ar cI (q1 0) 512 (fun _ => 0), oR q2 (q3 0) (q3 1) (fun _ => 0), ar cI (q3 0) 8 (fun _ => 0), ar cI (q3 1) 8 (fun _ => 0)] := hD
  refine zz_putF (C := R_P) (T := F_P) (N := 10) (w' := [(xP, .inr (4, [.ref q0, .ref q2, .null, .null, .int 0, .int 0, .int 0, .int 0, .int 0, .int 0])), oM q0 (q1 0), ar cI (q1 0) 512 (fun _ => 0), oR q2 (q3 0) (q3 1) (fun _ => 0), ar cI (q3 0) 8 (fun _ => 0), ar cI (q3 1) 8 (fun _ => 0)]) hx hb hts in_P ty_P ty_P_ok n_P hown hnam hK hP hD hS 0 rfl rfl 1 (by decide) mw_22 rfl rfl rfl rfl (Nat.le_of_ble_eq_true rfl) d_P_init_23 rfl (fun H locs hP hD hS => ?_)
  refine lv_aload_n hx hb d_P_init_26 rfl (lv_at hl 0 rfl) ?_
  refine zz_new (ci := 2) (fs := [.null, .null, .null]) (C := R_G) (T := F_G) (N := 3) hx hb hts in_G ty_G ty_G_ok hown mw_388 mw_389 mw_134 hK hP hD hS hA rfl (fun j hj => by rcases (show j = 0 ∨ j = 1 ∨ j = 2 by omega) with rfl | rfl | rfl <;> rfl) (Nat.le_of_ble_eq_true rfl) (Nat.le_of_ble_eq_true rfl) d_P_init_27 (fun q4 H hP hD hS => ?_)
  have hP : va_P D classes [(xP, .inr (4, [.ref q0, .ref q2, .null, .null, .int 0, .int 0, .int 0, .int 0, .int 0, .int 0])), oM q0 (q1 0), ar cI (q1 0) 512 (fun _ => 0), oR q2 (q3 0) (q3 1) (fun _ => 0), ar cI (q3 0) 8 (fun _ => 0), ar cI (q3 1) 8 (fun _ => 0), (q4, .inr (2, [.null, .null, .null]))] H := hP
  have hD : va_D A [(xP, .inr (4, [.ref q0, .ref q2, .null, .null, .int 0, .int 0, .int 0, .int 0, .int 0, .int 0])), oM q0 (q1 0), ar cI (q1 0) 512 (fun _ => 0), oR q2 (q3 0) (q3 1) (fun _ => 0), ar cI (q3 0) 8 (fun _ => 0), ar cI (q3 1) 8 (fun _ => 0), (q4, .inr (2, [.null, .null, .null]))] := hD
  refine lv_dup hx hb d_P_init_30 rfl ?_
  refine zz_cIn (As := []) (rest := [.ref q4, .ref xP]) (wr := [(xP, .inr (4, [.ref q0, .ref q2, .null, .null, .int 0, .int 0, .int 0, .int 0, .int 0, .int 0])), oM q0 (q1 0), ar cI (q1 0) 512 (fun _ => 0), oR q2 (q3 0) (q3 1) (fun _ => 0), ar cI (q3 0) 8 (fun _ => 0), ar cI (q3 1) 8 (fun _ => 0)]) ⟨hx, hb, hml, hown, hts⟩ (k_G_init l D cI _ q4) (zz_goodI wd_good mw_390) mw_392 mw_134 mw_391 rfl nd_G_init ⟨⟨rfl, rfl⟩, Nat.le_of_ble_eq_true rfl, Nat.le_of_ble_eq_true rfl⟩ hK hP hD hS hA [6] [0, 1, 2, 3, 4, 5] rfl rfl rfl rfl (by decide) rfl rfl hl.1 (Nat.le_of_ble_eq_true rfl) d_P_init_31 ⟨Nat.le_of_ble_eq_true rfl, Nat.le_of_ble_eq_true rfl⟩ (fun q5 H locs hP hD hS => ?_)
  have hP : va_P D classes [(xP, .inr (4, [.ref q0, .ref q2, .null, .null, .int 0, .int 0, .int 0, .int 0, .int 0, .int 0])), oM q0 (q1 0), ar cI (q1 0) 512 (fun _ => 0), oR q2 (q3 0) (q3 1) (fun _ => 0), ar cI (q3 0) 8 (fun _ => 0), ar cI (q3 1) 8 (fun _ => 0), oG q4 (q5 0) (q5 1) (q5 2), ar cI (q5 0) 6 (fun _ => 0), ar cI (q5 1) 6 (fun _ => 0), ar cI (q5 2) 6 (fun _ => 0)] H := hP
  have hD : va_D A [(xP, .inr (4, [.ref q0, .ref q2, .null, .null, .int 0, .int 0, .int 0, .int 0, .int 0, .int 0])), oM q0 (q1 0), ar cI (q1 0) 512 (fun _ => 0), oR q2 (q3 0) (q3 1) (fun _ => 0), ar cI (q3 0) 8 (fun _ => 0), ar cI (q3 1) 8 (fun _ => 0), oG q4 (q5 0) (q5 1) (q5 2), ar cI (q5 0) 6 (fun _ => 0), ar cI (q5 1) 6 (fun _ => 0), ar cI (q5 2) 6 (fun _ => 0)] := hD
  refine zz_putF (C := R_P) (T := F_P) (N := 10) (w' := [(xP, .inr (4, [.ref q0, .ref q2, .ref q4, .null, .int 0, .int 0, .int 0, .int 0, .int 0, .int 0])), oM q0 (q1 0), ar cI (q1 0) 512 (fun _ => 0), oR q2 (q3 0) (q3 1) (fun _ => 0), ar cI (q3 0) 8 (fun _ => 0), ar cI (q3 1) 8 (fun _ => 0), oG q4 (q5 0) (q5 1) (q5 2), ar cI (q5 0) 6 (fun _ => 0), ar cI (q5 1) 6 (fun _ => 0), ar cI (q5 2) 6 (fun _ => 0)]) hx hb hts in_P ty_P ty_P_ok n_P hown hnam hK hP hD hS 0 rfl rfl 2 (by decide) mw_35 rfl rfl rfl rfl (Nat.le_of_ble_eq_true rfl) d_P_init_34 rfl (fun H locs hP hD hS => ?_)
  refine lv_aload_n hx hb d_P_init_37 rfl (lv_at hl 0 rfl) ?_
  refine zz_new (ci := 3) (fs := [.int 0, .int 0, .int 0, .int 0, .int 0]) (C := R_T) (T := F_T) (N := 5) hx hb hts in_T ty_T ty_T_ok hown mw_393 mw_394 mw_139 hK hP hD hS hA rfl (fun j hj => by rcases (show j = 0 ∨ j = 1 ∨ j = 2 ∨ j = 3 ∨ j = 4 by omega) with rfl | rfl | rfl | rfl | rfl <;> rfl) (Nat.le_of_ble_eq_true rfl) (Nat.le_of_ble_eq_true rfl) d_P_init_38 (fun q6 H hP hD hS => ?_)
  have hP : va_P D classes [(xP, .inr (4, [.ref q0, .ref q2, .ref q4, .null, .int 0, .int 0, .int 0, .int 0, .int 0, .int 0])), oM q0 (q1 0), ar cI (q1 0) 512 (fun _ => 0), oR q2 (q3 0) (q3 1) (fun _ => 0), ar cI (q3 0) 8 (fun _ => 0), ar cI (q3 1) 8 (fun _ => 0), oG q4 (q5 0) (q5 1) (q5 2), ar cI (q5 0) 6 (fun _ => 0), ar cI (q5 1) 6 (fun _ => 0), ar cI (q5 2) 6 (fun _ => 0), (q6, .inr (3, [.int 0, .int 0, .int 0, .int 0, .int 0]))] H := hP
  have hD : va_D A [(xP, .inr (4, [.ref q0, .ref q2, .ref q4, .null, .int 0, .int 0, .int 0, .int 0, .int 0, .int 0])), oM q0 (q1 0), ar cI (q1 0) 512 (fun _ => 0), oR q2 (q3 0) (q3 1) (fun _ => 0), ar cI (q3 0) 8 (fun _ => 0), ar cI (q3 1) 8 (fun _ => 0), oG q4 (q5 0) (q5 1) (q5 2), ar cI (q5 0) 6 (fun _ => 0), ar cI (q5 1) 6 (fun _ => 0), ar cI (q5 2) 6 (fun _ => 0), (q6, .inr (3, [.int 0, .int 0, .int 0, .int 0, .int 0]))] := hD
  refine lv_dup hx hb d_P_init_41 rfl ?_
  refine zz_cInN (As := []) (rest := [.ref q6, .ref xP]) (wr := [(xP, .inr (4, [.ref q0, .ref q2, .ref q4, .null, .int 0, .int 0, .int 0, .int 0, .int 0, .int 0])), oM q0 (q1 0), ar cI (q1 0) 512 (fun _ => 0), oR q2 (q3 0) (q3 1) (fun _ => 0), ar cI (q3 0) 8 (fun _ => 0), ar cI (q3 1) 8 (fun _ => 0), oG q4 (q5 0) (q5 1) (q5 2), ar cI (q5 0) 6 (fun _ => 0), ar cI (q5 1) 6 (fun _ => 0), ar cI (q5 2) 6 (fun _ => 0)]) ⟨hx, hb, hml, hown, hts⟩ (k_T_init l D cI _ q6) (zz_goodI wd_good mw_395) hNw mw_139 mw_396 rfl nd_T_init ⟨⟨rfl, rfl⟩, Nat.le_of_ble_eq_true rfl, Nat.le_of_ble_eq_true rfl⟩ hK hP hD hS hA [10] [0, 1, 2, 3, 4, 5, 6, 7, 8, 9] rfl rfl rfl rfl (by decide) rfl rfl hl.1 (Nat.le_of_ble_eq_true rfl) d_P_init_42 ⟨Nat.le_of_ble_eq_true rfl, Nat.le_of_ble_eq_true rfl⟩ (fun q7 H locs hP hD hS => ?_)
  have hP : va_P D classes [(xP, .inr (4, [.ref q0, .ref q2, .ref q4, .null, .int 0, .int 0, .int 0, .int 0, .int 0, .int 0])), oM q0 (q1 0), ar cI (q1 0) 512 (fun _ => 0), oR q2 (q3 0) (q3 1) (fun _ => 0), ar cI (q3 0) 8 (fun _ => 0), ar cI (q3 1) 8 (fun _ => 0), oG q4 (q5 0) (q5 1) (q5 2), ar cI (q5 0) 6 (fun _ => 0), ar cI (q5 1) 6 (fun _ => 0), ar cI (q5 2) 6 (fun _ => 0), oT q6 (fun _ => 0)] H := hP
  have hD : va_D A [(xP, .inr (4, [.ref q0, .ref q2, .ref q4, .null, .int 0, .int 0, .int 0, .int 0, .int 0, .int 0])), oM q0 (q1 0), ar cI (q1 0) 512 (fun _ => 0), oR q2 (q3 0) (q3 1) (fun _ => 0), ar cI (q3 0) 8 (fun _ => 0), ar cI (q3 1) 8 (fun _ => 0), oG q4 (q5 0) (q5 1) (q5 2), ar cI (q5 0) 6 (fun _ => 0), ar cI (q5 1) 6 (fun _ => 0), ar cI (q5 2) 6 (fun _ => 0), oT q6 (fun _ => 0)] := hD
  refine zz_putF (C := R_P) (T := F_P) (N := 10) (w' := [(xP, .inr (4, [.ref q0, .ref q2, .ref q4, .ref q6, .int 0, .int 0, .int 0, .int 0, .int 0, .int 0])), oM q0 (q1 0), ar cI (q1 0) 512 (fun _ => 0), oR q2 (q3 0) (q3 1) (fun _ => 0), ar cI (q3 0) 8 (fun _ => 0), ar cI (q3 1) 8 (fun _ => 0), oG q4 (q5 0) (q5 1) (q5 2), ar cI (q5 0) 6 (fun _ => 0), ar cI (q5 1) 6 (fun _ => 0), ar cI (q5 2) 6 (fun _ => 0), oT q6 (fun _ => 0)]) hx hb hts in_P ty_P ty_P_ok n_P hown hnam hK hP hD hS 0 rfl rfl 3 (by decide) mw_25 rfl rfl rfl rfl (Nat.le_of_ble_eq_true rfl) d_P_init_45 rfl (fun H locs hP hD hS => ?_)
  refine lv_aload_n hx hb d_P_init_48 rfl (lv_at hl 0 rfl) ?_
  refine lv_iconst (v := (-1 : Int32)) hx hb d_P_init_49 (by decide) ?_
  refine zz_put (C := R_P) (T := F_P) (N := 10) (w' := [(xP, .inr (4, [.ref q0, .ref q2, .ref q4, .ref q6, .int 0, .int 0, .int 0, .int 0, .int 0, .int (-1 : Int32)])), oM q0 (q1 0), ar cI (q1 0) 512 (fun _ => 0), oR q2 (q3 0) (q3 1) (fun _ => 0), ar cI (q3 0) 8 (fun _ => 0), ar cI (q3 1) 8 (fun _ => 0), oG q4 (q5 0) (q5 1) (q5 2), ar cI (q5 0) 6 (fun _ => 0), ar cI (q5 1) 6 (fun _ => 0), ar cI (q5 2) 6 (fun _ => 0), oT q6 (fun _ => 0)]) hx hb hts in_P ty_P ty_P_ok n_P hown hK hP hD hS 0 rfl rfl 9 (by decide) mw_33 rfl rfl rfl (Nat.le_of_ble_eq_true rfl) d_P_init_50 rfl (fun H locs hP hD hS => ?_)
  have hP9 := hP.sub (ws' := [oP xP q0 q2 q4 q6 (upd (fun _ => 0) 5 (-1 : Int32)), oM q0 (q1 0), ar cI (q1 0) 512 (fun _ => 0), oR q2 (q3 0) (q3 1) (fun _ => 0), ar cI (q3 0) 8 (fun _ => 0), ar cI (q3 1) 8 (fun _ => 0), oG q4 (q5 0) (q5 1) (q5 2), ar cI (q5 0) 6 (fun _ => 0), ar cI (q5 1) 6 (fun _ => 0), ar cI (q5 2) 6 (fun _ => 0), oT q6 (fun _ => 0)]) [0, 1, 2, 3, 4, 5, 6, 7, 8, 9, 10] rfl
  have hD9 := hD.sub (ws' := [oP xP q0 q2 q4 q6 (upd (fun _ => 0) 5 (-1 : Int32)), oM q0 (q1 0), ar cI (q1 0) 512 (fun _ => 0), oR q2 (q3 0) (q3 1) (fun _ => 0), ar cI (q3 0) 8 (fun _ => 0), ar cI (q3 1) 8 (fun _ => 0), oG q4 (q5 0) (q5 1) (q5 2), ar cI (q5 0) 6 (fun _ => 0), ar cI (q5 1) 6 (fun _ => 0), ar cI (q5 2) 6 (fun _ => 0), oT q6 (fun _ => 0)]) [0, 1, 2, 3, 4, 5, 6, 7, 8, 9, 10] (by decide) rfl
  exact hE (fun i => ([q0, (q1 0), q2, (q3 0), (q3 1), q4, (q5 0), (q5 1), (q5 2), q6] : List Nat).getD i 0) _ _ _ _ hP9 hD9 hS d_P_init_53
set_option maxHeartbeats 4000000 in
set_option maxRecDepth 100000 in
theorem k_C_init (l : Launch) (D : va_G) (cI : ClassId) (sz : Nat) (xC : Nat) : zMnN l y_C_init (.code y_C_init b_C_init 1 none :: wd) { frames := 3, cells := 11, slots := 577, locals := 60 } D classes [(cI, .int)] [.ref xC] [(xC, .inr (5, [.null]))] (fun q => [oC xC (q 0), oP (q 0) (q 1) (q 3) (q 6) (q 10) (upd (fun _ => 0) 5 (-1 : Int32)), oM (q 1) (q 2), ar cI (q 2) 512 (fun _ => 0), oR (q 3) (q 4) (q 5) (fun _ => 0), ar cI (q 4) 8 (fun _ => 0), ar cI (q 5) 8 (fun _ => 0), oG (q 6) (q 7) (q 8) (q 9), ar cI (q 7) 6 (fun _ => 0), ar cI (q 8) 6 (fun _ => 0), ar cI (q 9) 6 (fun _ => 0), oT (q 10) (fun _ => 0)]) sz 11 577 (.methodLinkNest R_P 34 y_T_init "AreaCore") := by
  refine met_nN (by decide) (Nat.le_of_ble_eq_true rfl) ?_
  intro p e s m args below meth c A Q ls hx hb hml hown hnam hts hNw hK hP hD hS hA hl hE
  have hl : lv_has ls 1 [(0, .ref xC)] := hl
  have hown : s.vm.findClass R_C = some m.cls := hown
  refine lv_aload_n hx hb d_C_init_0 rfl (lv_at hl 0 rfl) ?_
  refine W.objInit hx hb hown (hts _ mw_397) (hts _ mw_oi) (hts _ mw_oc) rfl (by rw [hml]; exact hl.1) rfl d_C_init_1 (Nat.le_of_ble_eq_true rfl) (Nat.le_of_ble_eq_true rfl) ?_
  refine W.eq (g2 := F0 m 4 ls []) rfl ?_
  refine lv_aload_n hx hb d_C_init_4 rfl (lv_at hl 0 rfl) ?_
  refine zz_new (ci := 4) (fs := [.null, .null, .null, .null, .int 0, .int 0, .int 0, .int 0, .int 0, .int 0]) (C := R_P) (T := F_P) (N := 10) hx hb hts in_P ty_P ty_P_ok hown mw_398 mw_399 mw_160 hK hP hD hS hA rfl (fun j hj => by rcases (show j = 0 ∨ j = 1 ∨ j = 2 ∨ j = 3 ∨ j = 4 ∨ j = 5 ∨ j = 6 ∨ j = 7 ∨ j = 8 ∨ j = 9 by omega) with rfl | rfl | rfl | rfl | rfl | rfl | rfl | rfl | rfl | rfl <;> rfl) (Nat.le_of_ble_eq_true rfl) (Nat.le_of_ble_eq_true rfl) d_C_init_5 (fun q0 H hP hD hS => ?_)
  have hP : va_P D classes [(xC, .inr (5, [.null])), (q0, .inr (4, [.null, .null, .null, .null, .int 0, .int 0, .int 0, .int 0, .int 0, .int 0]))] H := hP
  have hD : va_D A [(xC, .inr (5, [.null])), (q0, .inr (4, [.null, .null, .null, .null, .int 0, .int 0, .int 0, .int 0, .int 0, .int 0]))] := hD
  refine lv_dup hx hb d_C_init_8 rfl ?_
  refine zz_cInW (As := []) (rest := [.ref q0, .ref xC]) (wr := [(xC, .inr (5, [.null]))]) ⟨hx, hb, hml, hown, hts⟩ (k_P_init l D cI _ q0) hNw (zz_goodI wd_good mw_400) mw_402 mw_160 mw_401 rfl nd_P_init ⟨⟨rfl, rfl⟩, Nat.le_of_ble_eq_true rfl, Nat.le_of_ble_eq_true rfl⟩ hK hP hD hS hA [1] [0] rfl rfl rfl rfl (by decide) rfl rfl hl.1 (Nat.le_of_ble_eq_true rfl) d_C_init_9 ⟨Nat.le_of_ble_eq_true rfl, Nat.le_of_ble_eq_true rfl⟩ (fun q1 H locs hP hD hS => ?_)
  have hP : va_P D classes [(xC, .inr (5, [.null])), oP q0 (q1 0) (q1 2) (q1 5) (q1 9) (upd (fun _ => 0) 5 (-1 : Int32)), oM (q1 0) (q1 1), ar cI (q1 1) 512 (fun _ => 0), oR (q1 2) (q1 3) (q1 4) (fun _ => 0), ar cI (q1 3) 8 (fun _ => 0), ar cI (q1 4) 8 (fun _ => 0), oG (q1 5) (q1 6) (q1 7) (q1 8), ar cI (q1 6) 6 (fun _ => 0), ar cI (q1 7) 6 (fun _ => 0), ar cI (q1 8) 6 (fun _ => 0), oT (q1 9) (fun _ => 0)] H := hP
  have hD : va_D A [(xC, .inr (5, [.null])), oP q0 (q1 0) (q1 2) (q1 5) (q1 9) (upd (fun _ => 0) 5 (-1 : Int32)), oM (q1 0) (q1 1), ar cI (q1 1) 512 (fun _ => 0), oR (q1 2) (q1 3) (q1 4) (fun _ => 0), ar cI (q1 3) 8 (fun _ => 0), ar cI (q1 4) 8 (fun _ => 0), oG (q1 5) (q1 6) (q1 7) (q1 8), ar cI (q1 6) 6 (fun _ => 0), ar cI (q1 7) 6 (fun _ => 0), ar cI (q1 8) 6 (fun _ => 0), oT (q1 9) (fun _ => 0)] := hD
  refine zz_putF (C := R_C) (T := F_C) (N := 1) (w' := [(xC, .inr (5, [.ref q0])), oP q0 (q1 0) (q1 2) (q1 5) (q1 9) (upd (fun _ => 0) 5 (-1 : Int32)), oM (q1 0) (q1 1), ar cI (q1 1) 512 (fun _ => 0), oR (q1 2) (q1 3) (q1 4) (fun _ => 0), ar cI (q1 3) 8 (fun _ => 0), ar cI (q1 4) 8 (fun _ => 0), oG (q1 5) (q1 6) (q1 7) (q1 8), ar cI (q1 6) 6 (fun _ => 0), ar cI (q1 7) 6 (fun _ => 0), ar cI (q1 8) 6 (fun _ => 0), oT (q1 9) (fun _ => 0)]) hx hb hts in_C ty_C ty_C_ok n_C hown hnam hK hP hD hS 0 rfl rfl 0 (by decide) mw_43 rfl rfl rfl rfl (Nat.le_of_ble_eq_true rfl) d_C_init_12 rfl (fun H locs hP hD hS => ?_)
  have hP9 := hP.sub (ws' := [oC xC q0, oP q0 (q1 0) (q1 2) (q1 5) (q1 9) (upd (fun _ => 0) 5 (-1 : Int32)), oM (q1 0) (q1 1), ar cI (q1 1) 512 (fun _ => 0), oR (q1 2) (q1 3) (q1 4) (fun _ => 0), ar cI (q1 3) 8 (fun _ => 0), ar cI (q1 4) 8 (fun _ => 0), oG (q1 5) (q1 6) (q1 7) (q1 8), ar cI (q1 6) 6 (fun _ => 0), ar cI (q1 7) 6 (fun _ => 0), ar cI (q1 8) 6 (fun _ => 0), oT (q1 9) (fun _ => 0)]) [0, 1, 2, 3, 4, 5, 6, 7, 8, 9, 10, 11] rfl
  have hD9 := hD.sub (ws' := [oC xC q0, oP q0 (q1 0) (q1 2) (q1 5) (q1 9) (upd (fun _ => 0) 5 (-1 : Int32)), oM (q1 0) (q1 1), ar cI (q1 1) 512 (fun _ => 0), oR (q1 2) (q1 3) (q1 4) (fun _ => 0), ar cI (q1 3) 8 (fun _ => 0), ar cI (q1 4) 8 (fun _ => 0), oG (q1 5) (q1 6) (q1 7) (q1 8), ar cI (q1 6) 6 (fun _ => 0), ar cI (q1 7) 6 (fun _ => 0), ar cI (q1 8) 6 (fun _ => 0), oT (q1 9) (fun _ => 0)]) [0, 1, 2, 3, 4, 5, 6, 7, 8, 9, 10, 11] (by decide) rfl
  exact hE (fun i => ([q0, (q1 0), (q1 1), (q1 2), (q1 3), (q1 4), (q1 5), (q1 6), (q1 7), (q1 8), (q1 9)] : List Nat).getD i 0) _ _ _ _ hP9 hD9 hS d_C_init_15
set_option maxHeartbeats 4000000 in
set_option maxRecDepth 100000 in
theorem k_X_init (l : Launch) (D : va_G) (cI : ClassId) (sz : Nat) (yX : Nat) : zMn l y_X_init (.code y_X_init b_X_init 1 none :: wd) { frames := 1, cells := 7, slots := 550, locals := 20 } D classes [(cI, .int)] [.ref yX] [(yX, .inr (6, [.int 0, .null, .null, .null, .null, .int 0, .int 0, .int 0, .int 0, .int 0, .int 0, .int 0, .int 0, .int 0, .int 0, .int 0, .int 0, .int 0, .null, .null, .null, .int 0, .int 0, .int 0, .int 0, .int 0, .int 0]))] (fun q => [oX yX (q 0) (q 1) (q 2) (q 3) (q 4) (q 5) (q 6) (upd (upd (fun _ => 0) 10 (1 : Int32)) 15 (-1 : Int32)), ar cI (q 0) 512 (fun _ => 0), ar cI (q 1) 8 (fun _ => 0), ar cI (q 2) 8 (fun _ => 0), ar cI (q 3) 4 (fun _ => 0), ar cI (q 4) 6 (fun _ => 0), ar cI (q 5) 6 (fun _ => 0), ar cI (q 6) 6 (fun _ => 0)]) sz 7 550 := by
  refine met_n (by decide) (Nat.le_of_ble_eq_true rfl) ?_
  intro p e s m args below meth c A Q ls hx hb hml hown hnam hts hK hP hD hS hA hl hE
  have hl : lv_has ls 1 [(0, .ref yX)] := hl
  have hown : s.vm.findClass R_X = some m.cls := hown
  refine lv_aload_n hx hb d_X_init_0 rfl (lv_at hl 0 rfl) ?_
  refine W.objInit hx hb hown (hts _ mw_403) (hts _ mw_oi) (hts _ mw_oc) rfl (by rw [hml]; exact hl.1) rfl d_X_init_1 (Nat.le_of_ble_eq_true rfl) (Nat.le_of_ble_eq_true rfl) ?_
  refine W.eq (g2 := F0 m 4 ls []) rfl ?_
  refine lv_aload_n hx hb d_X_init_4 rfl (lv_at hl 0 rfl) ?_
  refine lv_sipush (v := (512 : Int32)) hx hb d_X_init_5 (by decide) ?_
  refine zz_newI (N := 512) hx hb mw_arrI hts hK hP hD hS hA (by decide) (by decide) (by decide) (Nat.le_of_ble_eq_true rfl) (Nat.le_of_ble_eq_true rfl) d_X_init_8 (fun _ => rfl) (fun q0 H hP hD hS => ?_)
  have hP : va_P D classes [(yX, .inr (6, [.int 0, .null, .null, .null, .null, .int 0, .int 0, .int 0, .int 0, .int 0, .int 0, .int 0, .int 0, .int 0, .int 0, .int 0, .int 0, .int 0, .null, .null, .null, .int 0, .int 0, .int 0, .int 0, .int 0, .int 0])), ar cI q0 512 (fun _ => 0)] H := hP
  have hD : va_D A [(yX, .inr (6, [.int 0, .null, .null, .null, .null, .int 0, .int 0, .int 0, .int 0, .int 0, .int 0, .int 0, .int 0, .int 0, .int 0, .int 0, .int 0, .int 0, .null, .null, .null, .int 0, .int 0, .int 0, .int 0, .int 0, .int 0])), ar cI q0 512 (fun _ => 0)] := hD
  refine zz_putF (C := R_X) (T := F_X) (N := 27) (w' := [(yX, .inr (6, [.int 0, .ref q0, .null, .null, .null, .int 0, .int 0, .int 0, .int 0, .int 0, .int 0, .int 0, .int 0, .int 0, .int 0, .int 0, .int 0, .int 0, .null, .null, .null, .int 0, .int 0, .int 0, .int 0, .int 0, .int 0])), ar cI q0 512 (fun _ => 0)]) hx hb hts in_X ty_X ty_X_ok n_X hown hnam hK hP hD hS 0 rfl rfl 1 (by decide) mw_69 rfl rfl rfl rfl (Nat.le_of_ble_eq_true rfl) d_X_init_10 rfl (fun H locs hP hD hS => ?_)
  refine lv_aload_n hx hb d_X_init_13 rfl (lv_at hl 0 rfl) ?_
  refine lv_bipush (v := (8 : Int32)) hx hb d_X_init_14 (by decide) ?_
  refine zz_newI (N := 8) hx hb mw_arrI hts hK hP hD hS hA (by decide) (by decide) (by decide) (Nat.le_of_ble_eq_true rfl) (Nat.le_of_ble_eq_true rfl) d_X_init_16 (fun _ => rfl) (fun q1 H hP hD hS => ?_)
  have hP : va_P D classes [(yX, .inr (6, [.int 0, .ref q0, .null, .null, .null, .int 0, .int 0, .int 0, .int 0, .int 0, .int 0, .int 0, .int 0, .int 0, .int 0, .int 0, .int 0, .int 0, .null, .null, .null, .int 0, .int 0, .int 0, .int 0, .int 0, .int 0])), ar cI q0 512 (fun _ => 0), ar cI q1 8 (fun _ => 0)] H := hP
  have hD : va_D A [(yX, .inr (6, [.int 0, .ref q0, .null, .null, .null, .int 0, .int 0, .int 0, .int 0, .int 0, .int 0, .int 0, .int 0, .int 0, .int 0, .int 0, .int 0, .int 0, .null, .null, .null, .int 0, .int 0, .int 0, .int 0, .int 0, .int 0])), ar cI q0 512 (fun _ => 0), ar cI q1 8 (fun _ => 0)] := hD
  refine zz_putF (C := R_X) (T := F_X) (N := 27) (w' := [(yX, .inr (6, [.int 0, .ref q0, .ref q1, .null, .null, .int 0, .int 0, .int 0, .int 0, .int 0, .int 0, .int 0, .int 0, .int 0, .int 0, .int 0, .int 0, .int 0, .null, .null, .null, .int 0, .int 0, .int 0, .int 0, .int 0, .int 0])), ar cI q0 512 (fun _ => 0), ar cI q1 8 (fun _ => 0)]) hx hb hts in_X ty_X ty_X_ok n_X hown hnam hK hP hD hS 0 rfl rfl 2 (by decide) mw_74 rfl rfl rfl rfl (Nat.le_of_ble_eq_true rfl) d_X_init_18 rfl (fun H locs hP hD hS => ?_)
  refine lv_aload_n hx hb d_X_init_21 rfl (lv_at hl 0 rfl) ?_
  refine lv_bipush (v := (8 : Int32)) hx hb d_X_init_22 (by decide) ?_
  refine zz_newI (N := 8) hx hb mw_arrI hts hK hP hD hS hA (by decide) (by decide) (by decide) (Nat.le_of_ble_eq_true rfl) (Nat.le_of_ble_eq_true rfl) d_X_init_24 (fun _ => rfl) (fun q2 H hP hD hS => ?_)
  have hP : va_P D classes [(yX, .inr (6, [.int 0, .ref q0, .ref q1, .null, .null, .int 0, .int 0, .int 0, .int 0, .int 0, .int 0, .int 0, .int 0, .int 0, .int 0, .int 0, .int 0, .int 0, .null, .null, .null, .int 0, .int 0, .int 0, .int 0, .int 0, .int 0])), ar cI q0 512 (fun _ => 0), ar cI q1 8 (fun _ => 0), ar cI q2 8 (fun _ => 0)] H := hP
  have hD : va_D A [(yX, .inr (6, [.int 0, .ref q0, .ref q1, .null, .null, .int 0, .int 0, .int 0, .int 0, .int 0, .int 0, .int 0, .int 0, .int 0, .int 0, .int 0, .int 0, .int 0, .null, .null, .null, .int 0, .int 0, .int 0, .int 0, .int 0, .int 0])), ar cI q0 512 (fun _ => 0), ar cI q1 8 (fun _ => 0), ar cI q2 8 (fun _ => 0)] := hD
  refine zz_putF (C := R_X) (T := F_X) (N := 27) (w' := [(yX, .inr (6, [.int 0, .ref q0, .ref q1, .ref q2, .null, .int 0, .int 0, .int 0, .int 0, .int 0, .int 0, .int 0, .int 0, .int 0, .int 0, .int 0, .int 0, .int 0, .null, .null, .null, .int 0, .int 0, .int 0, .int 0, .int 0, .int 0])), ar cI q0 512 (fun _ => 0), ar cI q1 8 (fun _ => 0), ar cI q2 8 (fun _ => 0)]) hx hb hts in_X ty_X ty_X_ok n_X hown hnam hK hP hD hS 0 rfl rfl 3 (by decide) mw_73 rfl rfl rfl rfl (Nat.le_of_ble_eq_true rfl) d_X_init_26 rfl (fun H locs hP hD hS => ?_)
  refine lv_aload_n hx hb d_X_init_29 rfl (lv_at hl 0 rfl) ?_
  refine lv_iconst (v := (4 : Int32)) hx hb d_X_init_30 (by decide) ?_
  refine zz_newI (N := 4) hx hb mw_arrI hts hK hP hD hS hA (by decide) (by decide) (by decide) (Nat.le_of_ble_eq_true rfl) (Nat.le_of_ble_eq_true rfl) d_X_init_31 (fun _ => rfl) (fun q3 H hP hD hS => ?_)
  have hP : va_P D classes [(yX, .inr (6, [.int 0, .ref q0, .ref q1, .ref q2, .null, .int 0, .int 0, .int 0, .int 0, .int 0, .int 0, .int 0, .int 0, .int 0, .int 0, .int 0, .int 0, .int 0, .null, .null, .null, .int 0, .int 0, .int 0, .int 0, .int 0, .int 0])), ar cI q0 512 (fun _ => 0), ar cI q1 8 (fun _ => 0), ar cI q2 8 (fun _ => 0), ar cI q3 4 (fun _ => 0)] H := hP
  have hD : va_D A [(yX, .inr (6, [.int 0, .ref q0, .ref q1, .ref q2, .null, .int 0, .int 0, .int 0, .int 0, .int 0, .int 0, .int 0, .int 0, .int 0, .int 0, .int 0, .int 0, .int 0, .null, .null, .null, .int 0, .int 0, .int 0, .int 0, .int 0, .int 0])), ar cI q0 512 (fun _ => 0), ar cI q1 8 (fun _ => 0), ar cI q2 8 (fun _ => 0), ar cI q3 4 (fun _ => 0)] := hD
  refine zz_putF (C := R_X) (T := F_X) (N := 27) (w' := [(yX, .inr (6, [.int 0, .ref q0, .ref q1, .ref q2, .ref q3, .int 0, .int 0, .int 0, .int 0, .int 0, .int 0, .int 0, .int 0, .int 0, .int 0, .int 0, .int 0, .int 0, .null, .null, .null, .int 0, .int 0, .int 0, .int 0, .int 0, .int 0])), ar cI q0 512 (fun _ => 0), ar cI q1 8 (fun _ => 0), ar cI q2 8 (fun _ => 0), ar cI q3 4 (fun _ => 0)]) hx hb hts in_X ty_X ty_X_ok n_X hown hnam hK hP hD hS 0 rfl rfl 4 (by decide) mw_68 rfl rfl rfl rfl (Nat.le_of_ble_eq_true rfl) d_X_init_33 rfl (fun H locs hP hD hS => ?_)
  refine lv_aload_n hx hb d_X_init_36 rfl (lv_at hl 0 rfl) ?_
  refine lv_iconst (v := (1 : Int32)) hx hb d_X_init_37 (by decide) ?_
  refine zz_put (C := R_X) (T := F_X) (N := 27) (w' := [(yX, .inr (6, [.int 0, .ref q0, .ref q1, .ref q2, .ref q3, .int 0, .int 0, .int 0, .int 0, .int 0, .int 0, .int 0, .int 0, .int 0, .int (1 : Int32), .int 0, .int 0, .int 0, .null, .null, .null, .int 0, .int 0, .int 0, .int 0, .int 0, .int 0])), ar cI q0 512 (fun _ => 0), ar cI q1 8 (fun _ => 0), ar cI q2 8 (fun _ => 0), ar cI q3 4 (fun _ => 0)]) hx hb hts in_X ty_X ty_X_ok n_X hown hK hP hD hS 0 rfl rfl 14 (by decide) mw_93 rfl rfl rfl (Nat.le_of_ble_eq_true rfl) d_X_init_38 rfl (fun H locs hP hD hS => ?_)
  refine lv_aload_n hx hb d_X_init_41 rfl (lv_at hl 0 rfl) ?_
  refine lv_bipush (v := (6 : Int32)) hx hb d_X_init_42 (by decide) ?_
  refine zz_newI (N := 6) hx hb mw_arrI hts hK hP hD hS hA (by decide) (by decide) (by decide) (Nat.le_of_ble_eq_true rfl) (Nat.le_of_ble_eq_true rfl) d_X_init_44 (fun _ => rfl) (fun q4 H hP hD hS => ?_)
  have hP : va_P D classes [(yX, .inr (6, [.int 0, .ref q0, .ref q1, .ref q2, .ref q3, .int 0, .int 0, .int 0, .int 0, .int 0, .int 0, .int 0, .int 0, .int 0, .int (1 : Int32), .int 0, .int 0, .int 0, .null, .null, .null, .int 0, .int 0, .int 0, .int 0, .int 0, .int 0])), ar cI q0 512 (fun _ => 0), ar cI q1 8 (fun _ => 0), ar cI q2 8 (fun _ => 0), ar cI q3 4 (fun _ => 0), ar cI q4 6 (fun _ => 0)] H := hP
  have hD : va_D A [(yX, .inr (6, [.int 0, .ref q0, .ref q1, .ref q2, .ref q3, .int 0, .int 0, .int 0, .int 0, .int 0, .int 0, .int 0, .int 0, .int 0, .int (1 : Int32), .int 0, .int 0, .int 0, .null, .null, .null, .int 0, .int 0, .int 0, .int 0, .int 0, .int 0])), ar cI q0 512 (fun _ => 0), ar cI q1 8 (fun _ => 0), ar cI q2 8 (fun _ => 0), ar cI q3 4 (fun _ => 0), ar cI q4 6 (fun _ => 0)] := hD
  refine zz_putF (C := R_X) (T := F_X) (N := 27) (w' := [(yX, .inr (6, [.int 0, .ref q0, .ref q1, .ref q2, .ref q3, .int 0, .int 0, .int 0, .int 0, .int 0, .int 0, .int 0, .int 0, .int 0, .int (1 : Int32), .int 0, .int 0, .int 0, .ref q4, .null, .null, .int 0, .int 0, .int 0, .int 0, .int 0, .int 0])), ar cI q0 512 (fun _ => 0), ar cI q1 8 (fun _ => 0), ar cI q2 8 (fun _ => 0), ar cI q3 4 (fun _ => 0), ar cI q4 6 (fun _ => 0)]) hx hb hts in_X ty_X ty_X_ok n_X hown hnam hK hP hD hS 0 rfl rfl 18 (by decide) mw_85 rfl rfl rfl rfl (Nat.le_of_ble_eq_true rfl) d_X_init_46 rfl (fun H locs hP hD hS => ?_)
  refine lv_aload_n hx hb d_X_init_49 rfl (lv_at hl 0 rfl) ?_
  refine lv_bipush (v := (6 : Int32)) hx hb d_X_init_50 (by decide) ?_
  refine zz_newI (N := 6) hx hb mw_arrI hts hK hP hD hS hA (by decide) (by decide) (by decide) (Nat.le_of_ble_eq_true rfl) (Nat.le_of_ble_eq_true rfl) d_X_init_52 (fun _ => rfl) (fun q5 H hP hD hS => ?_)
  have hP : va_P D classes [(yX, .inr (6, [.int 0, .ref q0, .ref q1, .ref q2, .ref q3, .int 0, .int 0, .int 0, .int 0, .int 0, .int 0, .int 0, .int 0, .int 0, .int (1 : Int32), .int 0, .int 0, .int 0, .ref q4, .null, .null, .int 0, .int 0, .int 0, .int 0, .int 0, .int 0])), ar cI q0 512 (fun _ => 0), ar cI q1 8 (fun _ => 0), ar cI q2 8 (fun _ => 0), ar cI q3 4 (fun _ => 0), ar cI q4 6 (fun _ => 0), ar cI q5 6 (fun _ => 0)] H := hP
  have hD : va_D A [(yX, .inr (6, [.int 0, .ref q0, .ref q1, .ref q2, .ref q3, .int 0, .int 0, .int 0, .int 0, .int 0, .int 0, .int 0, .int 0, .int 0, .int (1 : Int32), .int 0, .int 0, .int 0, .ref q4, .null, .null, .int 0, .int 0, .int 0, .int 0, .int 0, .int 0])), ar cI q0 512 (fun _ => 0), ar cI q1 8 (fun _ => 0), ar cI q2 8 (fun _ => 0), ar cI q3 4 (fun _ => 0), ar cI q4 6 (fun _ => 0), ar cI q5 6 (fun _ => 0)] := hD
  refine zz_putF (C := R_X) (T := F_X) (N := 27) (w' := [(yX, .inr (6, [.int 0, .ref q0, .ref q1, .ref q2, .ref q3, .int 0, .int 0, .int 0, .int 0, .int 0, .int 0, .int 0, .int 0, .int 0, .int (1 : Int32), .int 0, .int 0, .int 0, .ref q4, .ref q5, .null, .int 0, .int 0, .int 0, .int 0, .int 0, .int 0])), ar cI q0 512 (fun _ => 0), ar cI q1 8 (fun _ => 0), ar cI q2 8 (fun _ => 0), ar cI q3 4 (fun _ => 0), ar cI q4 6 (fun _ => 0), ar cI q5 6 (fun _ => 0)]) hx hb hts in_X ty_X ty_X_ok n_X hown hnam hK hP hD hS 0 rfl rfl 19 (by decide) mw_86 rfl rfl rfl rfl (Nat.le_of_ble_eq_true rfl) d_X_init_54 rfl (fun H locs hP hD hS => ?_)
  refine lv_aload_n hx hb d_X_init_57 rfl (lv_at hl 0 rfl) ?_
  refine lv_bipush (v := (6 : Int32)) hx hb d_X_init_58 (by decide) ?_
  refine zz_newI (N := 6) hx hb mw_arrI hts hK hP hD hS hA (by decide) (by decide) (by decide) (Nat.le_of_ble_eq_true rfl) (Nat.le_of_ble_eq_true rfl) d_X_init_60 (fun _ => rfl) (fun q6 H hP hD hS => ?_)
  have hP : va_P D classes [(yX, .inr (6, [.int 0, .ref q0, .ref q1, .ref q2, .ref q3, .int 0, .int 0, .int 0, .int 0, .int 0, .int 0, .int 0, .int 0, .int 0, .int (1 : Int32), .int 0, .int 0, .int 0, .ref q4, .ref q5, .null, .int 0, .int 0, .int 0, .int 0, .int 0, .int 0])), ar cI q0 512 (fun _ => 0), ar cI q1 8 (fun _ => 0), ar cI q2 8 (fun _ => 0), ar cI q3 4 (fun _ => 0), ar cI q4 6 (fun _ => 0), ar cI q5 6 (fun _ => 0), ar cI q6 6 (fun _ => 0)] H := hP
  have hD : va_D A [(yX, .inr (6, [.int 0, .ref q0, .ref q1, .ref q2, .ref q3, .int 0, .int 0, .int 0, .int 0, .int 0, .int 0, .int 0, .int 0, .int 0, .int (1 : Int32), .int 0, .int 0, .int 0, .ref q4, .ref q5, .null, .int 0, .int 0, .int 0, .int 0, .int 0, .int 0])), ar cI q0 512 (fun _ => 0), ar cI q1 8 (fun _ => 0), ar cI q2 8 (fun _ => 0), ar cI q3 4 (fun _ => 0), ar cI q4 6 (fun _ => 0), ar cI q5 6 (fun _ => 0), ar cI q6 6 (fun _ => 0)] := hD
  refine zz_putF (C := R_X) (T := F_X) (N := 27) (w' := [(yX, .inr (6, [.int 0, .ref q0, .ref q1, .ref q2, .ref q3, .int 0, .int 0, .int 0, .int 0, .int 0, .int 0, .int 0, .int 0, .int 0, .int (1 : Int32), .int 0, .int 0, .int 0, .ref q4, .ref q5, .ref q6, .int 0, .int 0, .int 0, .int 0, .int 0, .int 0])), ar cI q0 512 (fun _ => 0), ar cI q1 8 (fun _ => 0), ar cI q2 8 (fun _ => 0), ar cI q3 4 (fun _ => 0), ar cI q4 6 (fun _ => 0), ar cI q5 6 (fun _ => 0), ar cI q6 6 (fun _ => 0)]) hx hb hts in_X ty_X ty_X_ok n_X hown hnam hK hP hD hS 0 rfl rfl 20 (by decide) mw_87 rfl rfl rfl rfl (Nat.le_of_ble_eq_true rfl) d_X_init_62 rfl (fun H locs hP hD hS => ?_)
  refine lv_aload_n hx hb d_X_init_65 rfl (lv_at hl 0 rfl) ?_
  refine lv_iconst (v := (-1 : Int32)) hx hb d_X_init_66 (by decide) ?_
  refine zz_put (C := R_X) (T := F_X) (N := 27) (w' := [(yX, .inr (6, [.int 0, .ref q0, .ref q1, .ref q2, .ref q3, .int 0, .int 0, .int 0, .int 0, .int 0, .int 0, .int 0, .int 0, .int 0, .int (1 : Int32), .int 0, .int 0, .int 0, .ref q4, .ref q5, .ref q6, .int 0, .int (-1 : Int32), .int 0, .int 0, .int 0, .int 0])), ar cI q0 512 (fun _ => 0), ar cI q1 8 (fun _ => 0), ar cI q2 8 (fun _ => 0), ar cI q3 4 (fun _ => 0), ar cI q4 6 (fun _ => 0), ar cI q5 6 (fun _ => 0), ar cI q6 6 (fun _ => 0)]) hx hb hts in_X ty_X ty_X_ok n_X hown hK hP hD hS 0 rfl rfl 22 (by decide) mw_83 rfl rfl rfl (Nat.le_of_ble_eq_true rfl) d_X_init_67 rfl (fun H locs hP hD hS => ?_)
  have hP9 := hP.sub (ws' := [oX yX q0 q1 q2 q3 q4 q5 q6 (upd (upd (fun _ => 0) 10 (1 : Int32)) 15 (-1 : Int32)), ar cI q0 512 (fun _ => 0), ar cI q1 8 (fun _ => 0), ar cI q2 8 (fun _ => 0), ar cI q3 4 (fun _ => 0), ar cI q4 6 (fun _ => 0), ar cI q5 6 (fun _ => 0), ar cI q6 6 (fun _ => 0)]) [0, 1, 2, 3, 4, 5, 6, 7] rfl
  have hD9 := hD.sub (ws' := [oX yX q0 q1 q2 q3 q4 q5 q6 (upd (upd (fun _ => 0) 10 (1 : Int32)) 15 (-1 : Int32)), ar cI q0 512 (fun _ => 0), ar cI q1 8 (fun _ => 0), ar cI q2 8 (fun _ => 0), ar cI q3 4 (fun _ => 0), ar cI q4 6 (fun _ => 0), ar cI q5 6 (fun _ => 0), ar cI q6 6 (fun _ => 0)]) [0, 1, 2, 3, 4, 5, 6, 7] (by decide) rfl
  exact hE (fun i => ([q0, q1, q2, q3, q4, q5, q6] : List Nat).getD i 0) _ _ _ _ hP9 hD9 hS d_X_init_70
