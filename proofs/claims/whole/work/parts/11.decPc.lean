theorem d_P_step_113 : decode b_P_step 113 = .ok (.getfield 21, 3) := by decide +kernel
theorem d_P_step_116 : decode b_P_step 116 = .ok (.getfield 67, 3) := by decide +kernel
theorem d_P_step_119 : decode b_P_step 119 = .ok (.invokevirtual 83, 3) := by decide +kernel
theorem d_P_step_122 : decode b_P_step 122 = .ok (.return_, 1) := by decide +kernel
theorem d_P_takeInterrupt_0 : decode b_P_takeInterrupt 0 = .ok (.aload_n 0, 1) := by decide +kernel
theorem d_P_takeInterrupt_1 : decode b_P_takeInterrupt 1 = .ok (.getfield 21, 3) := by decide +kernel
theorem d_P_takeInterrupt_4 : decode b_P_takeInterrupt 4 = .ok (.aload_n 0, 1) := by decide +kernel
theorem d_P_takeInterrupt_5 : decode b_P_takeInterrupt 5 = .ok (.getfield 12, 3) := by decide +kernel
theorem d_P_takeInterrupt_8 : decode b_P_takeInterrupt 8 = .ok (.iconst 1, 1) := by decide +kernel
theorem d_P_takeInterrupt_9 : decode b_P_takeInterrupt 9 = .ok (.invokevirtual 87, 3) := by decide +kernel
theorem d_P_takeInterrupt_12 : decode b_P_takeInterrupt 12 = .ok (.ifCond .ne 9, 3) := by decide +kernel
theorem d_P_takeInterrupt_15 : decode b_P_takeInterrupt 15 = .ok (.aload_n 0, 1) := by decide +kernel
theorem d_P_takeInterrupt_16 : decode b_P_takeInterrupt 16 = .ok (.iconst 0, 1) := by decide +kernel
theorem d_P_takeInterrupt_17 : decode b_P_takeInterrupt 17 = .ok (.putfield 80, 3) := by decide +kernel
theorem d_P_takeInterrupt_20 : decode b_P_takeInterrupt 20 = .ok (.return_, 1) := by decide +kernel
theorem d_P_takeInterrupt_21 : decode b_P_takeInterrupt 21 = .ok (.aload_n 0, 1) := by decide +kernel
theorem d_P_takeInterrupt_22 : decode b_P_takeInterrupt 22 = .ok (.getfield 35, 3) := by decide +kernel
theorem d_P_takeInterrupt_25 : decode b_P_takeInterrupt 25 = .ok (.iload_n 1, 1) := by decide +kernel
theorem d_P_takeInterrupt_26 : decode b_P_takeInterrupt 26 = .ok (.invokevirtual 91, 3) := by decide +kernel
theorem d_P_takeInterrupt_29 : decode b_P_takeInterrupt 29 = .ok (.aload_n 0, 1) := by decide +kernel
theorem d_P_takeInterrupt_30 : decode b_P_takeInterrupt 30 = .ok (.getfield 21, 3) := by decide +kernel
theorem d_P_takeInterrupt_33 : decode b_P_takeInterrupt 33 = .ok (.iload_n 1, 1) := by decide +kernel
theorem d_P_takeInterrupt_34 : decode b_P_takeInterrupt 34 = .ok (.putfield 57, 3) := by decide +kernel
theorem d_P_takeInterrupt_37 : decode b_P_takeInterrupt 37 = .ok (.aload_n 0, 1) := by decide +kernel
theorem d_P_takeInterrupt_38 : decode b_P_takeInterrupt 38 = .ok (.getfield 21, 3) := by decide +kernel
theorem d_P_takeInterrupt_41 : decode b_P_takeInterrupt 41 = .ok (.aload_n 0, 1) := by decide +kernel
theorem d_P_takeInterrupt_42 : decode b_P_takeInterrupt 42 = .ok (.getfield 94, 3) := by decide +kernel
theorem d_P_takeInterrupt_45 : decode b_P_takeInterrupt 45 = .ok (.iconst 4, 1) := by decide +kernel
theorem d_P_takeInterrupt_46 : decode b_P_takeInterrupt 46 = .ok (.iload_n 1, 1) := by decide +kernel
theorem d_P_takeInterrupt_47 : decode b_P_takeInterrupt 47 = .ok (.imul, 1) := by decide +kernel
theorem d_P_takeInterrupt_48 : decode b_P_takeInterrupt 48 = .ok (.iadd, 1) := by decide +kernel
theorem d_P_takeInterrupt_49 : decode b_P_takeInterrupt 49 = .ok (.aload_n 0, 1) := by decide +kernel
theorem d_P_takeInterrupt_50 : decode b_P_takeInterrupt 50 = .ok (.getfield 21, 3) := by decide +kernel
theorem d_P_takeInterrupt_53 : decode b_P_takeInterrupt 53 = .ok (.getfield 67, 3) := by decide +kernel
theorem d_P_takeInterrupt_56 : decode b_P_takeInterrupt 56 = .ok (.invokevirtual 97, 3) := by decide +kernel
theorem d_P_takeInterrupt_59 : decode b_P_takeInterrupt 59 = .ok (.return_, 1) := by decide +kernel
theorem d_P_takeTrap_0 : decode b_P_takeTrap 0 = .ok (.aload_n 0, 1) := by decide +kernel
theorem d_P_takeTrap_1 : decode b_P_takeTrap 1 = .ok (.getfield 21, 3) := by decide +kernel
theorem d_P_takeTrap_4 : decode b_P_takeTrap 4 = .ok (.aload_n 0, 1) := by decide +kernel
theorem d_P_takeTrap_5 : decode b_P_takeTrap 5 = .ok (.getfield 12, 3) := by decide +kernel
theorem d_P_takeTrap_8 : decode b_P_takeTrap 8 = .ok (.iconst 1, 1) := by decide +kernel
theorem d_P_takeTrap_9 : decode b_P_takeTrap 9 = .ok (.invokevirtual 87, 3) := by decide +kernel
theorem d_P_takeTrap_12 : decode b_P_takeTrap 12 = .ok (.ifCond .ne 9, 3) := by decide +kernel
theorem d_P_takeTrap_15 : decode b_P_takeTrap 15 = .ok (.aload_n 0, 1) := by decide +kernel
theorem d_P_takeTrap_16 : decode b_P_takeTrap 16 = .ok (.iconst 0, 1) := by decide +kernel
theorem d_P_takeTrap_17 : decode b_P_takeTrap 17 = .ok (.putfield 80, 3) := by decide +kernel
theorem d_P_takeTrap_20 : decode b_P_takeTrap 20 = .ok (.return_, 1) := by decide +kernel
theorem d_P_takeTrap_21 : decode b_P_takeTrap 21 = .ok (.iload_n 1, 1) := by decide +kernel
theorem d_P_takeTrap_22 : decode b_P_takeTrap 22 = .ok (.bipush 8, 2) := by decide +kernel
theorem d_P_takeTrap_24 : decode b_P_takeTrap 24 = .ok (.ishr, 1) := by decide +kernel
theorem d_P_takeTrap_25 : decode b_P_takeTrap 25 = .ok (.istore_n 3, 1) := by decide +kernel
theorem d_P_takeTrap_26 : decode b_P_takeTrap 26 = .ok (.iload_n 1, 1) := by decide +kernel
theorem d_P_takeTrap_27 : decode b_P_takeTrap 27 = .ok (.sipush 255, 3) := by decide +kernel
theorem d_P_takeTrap_30 : decode b_P_takeTrap 30 = .ok (.iand, 1) := by decide +kernel
theorem d_P_takeTrap_31 : decode b_P_takeTrap 31 = .ok (.istore 4, 2) := by decide +kernel
theorem d_P_takeTrap_33 : decode b_P_takeTrap 33 = .ok (.aload_n 0, 1) := by decide +kernel
theorem d_P_takeTrap_34 : decode b_P_takeTrap 34 = .ok (.getfield 21, 3) := by decide +kernel
theorem d_P_takeTrap_37 : decode b_P_takeTrap 37 = .ok (.aload_n 0, 1) := by decide +kernel
theorem d_P_takeTrap_38 : decode b_P_takeTrap 38 = .ok (.getfield 100, 3) := by decide +kernel
theorem d_P_takeTrap_41 : decode b_P_takeTrap 41 = .ok (.iconst 4, 1) := by decide +kernel
theorem d_P_takeTrap_42 : decode b_P_takeTrap 42 = .ok (.iload_n 3, 1) := by decide +kernel
theorem d_P_takeTrap_43 : decode b_P_takeTrap 43 = .ok (.imul, 1) := by decide +kernel
theorem d_P_takeTrap_44 : decode b_P_takeTrap 44 = .ok (.iadd, 1) := by decide +kernel
theorem d_P_takeTrap_45 : decode b_P_takeTrap 45 = .ok (.iload_n 2, 1) := by decide +kernel
theorem d_P_takeTrap_46 : decode b_P_takeTrap 46 = .ok (.invokevirtual 97, 3) := by decide +kernel
theorem d_P_takeTrap_49 : decode b_P_takeTrap 49 = .ok (.aload_n 0, 1) := by decide +kernel
theorem d_P_takeTrap_50 : decode b_P_takeTrap 50 = .ok (.getfield 21, 3) := by decide +kernel
theorem d_P_takeTrap_53 : decode b_P_takeTrap 53 = .ok (.getfield 103, 3) := by decide +kernel
theorem d_P_takeTrap_56 : decode b_P_takeTrap 56 = .ok (.bipush 7, 2) := by decide +kernel
theorem d_P_takeTrap_58 : decode b_P_takeTrap 58 = .ok (.iload 4, 2) := by decide +kernel
theorem d_P_takeTrap_60 : decode b_P_takeTrap 60 = .ok (.iastore, 1) := by decide +kernel
theorem d_P_takeTrap_61 : decode b_P_takeTrap 61 = .ok (.aload_n 0, 1) := by decide +kernel
theorem d_P_takeTrap_62 : decode b_P_takeTrap 62 = .ok (.dup, 1) := by decide +kernel
theorem d_P_takeTrap_63 : decode b_P_takeTrap 63 = .ok (.getfield 107, 3) := by decide +kernel
theorem d_P_takeTrap_66 : decode b_P_takeTrap 66 = .ok (.iconst 1, 1) := by decide +kernel
theorem d_P_takeTrap_67 : decode b_P_takeTrap 67 = .ok (.iadd, 1) := by decide +kernel
theorem d_P_takeTrap_68 : decode b_P_takeTrap 68 = .ok (.putfield 107, 3) := by decide +kernel
theorem d_P_takeTrap_71 : decode b_P_takeTrap 71 = .ok (.aload_n 0, 1) := by decide +kernel
theorem d_P_takeTrap_72 : decode b_P_takeTrap 72 = .ok (.bipush 16, 2) := by decide +kernel
theorem d_P_takeTrap_74 : decode b_P_takeTrap 74 = .ok (.iload_n 3, 1) := by decide +kernel
theorem d_P_takeTrap_75 : decode b_P_takeTrap 75 = .ok (.imul, 1) := by decide +kernel
theorem d_P_takeTrap_76 : decode b_P_takeTrap 76 = .ok (.iload 4, 2) := by decide +kernel
theorem d_P_takeTrap_78 : decode b_P_takeTrap 78 = .ok (.bipush 15, 2) := by decide +kernel
theorem d_P_takeTrap_80 : decode b_P_takeTrap 80 = .ok (.iand, 1) := by decide +kernel
theorem d_P_takeTrap_81 : decode b_P_takeTrap 81 = .ok (.iadd, 1) := by decide +kernel
theorem d_P_takeTrap_82 : decode b_P_takeTrap 82 = .ok (.putfield 39, 3) := by decide +kernel
theorem d_P_takeTrap_85 : decode b_P_takeTrap 85 = .ok (.iload_n 3, 1) := by decide +kernel
theorem d_P_takeTrap_86 : decode b_P_takeTrap 86 = .ok (.iconst 3, 1) := by decide +kernel
theorem d_P_takeTrap_87 : decode b_P_takeTrap 87 = .ok (.if_icmp .ne 11, 3) := by decide +kernel
theorem d_P_takeTrap_90 : decode b_P_takeTrap 90 = .ok (.aload_n 0, 1) := by decide +kernel
theorem d_P_takeTrap_91 : decode b_P_takeTrap 91 = .ok (.getfield 21, 3) := by decide +kernel
theorem d_P_takeTrap_94 : decode b_P_takeTrap 94 = .ok (.iconst 0, 1) := by decide +kernel
theorem d_P_takeTrap_95 : decode b_P_takeTrap 95 = .ok (.putfield 46, 3) := by decide +kernel
theorem d_P_takeTrap_98 : decode b_P_takeTrap 98 = .ok (.return_, 1) := by decide +kernel
theorem d_Z_floorMod_0 : decode b_Z_floorMod 0 = .ok (.iload_n 0, 1) := by decide +kernel
theorem d_Z_floorMod_1 : decode b_Z_floorMod 1 = .ok (.iload_n 1, 1) := by decide +kernel
theorem d_Z_floorMod_2 : decode b_Z_floorMod 2 = .ok (.irem, 1) := by decide +kernel
theorem d_Z_floorMod_3 : decode b_Z_floorMod 3 = .ok (.istore_n 2, 1) := by decide +kernel
theorem d_Z_floorMod_4 : decode b_Z_floorMod 4 = .ok (.iload_n 0, 1) := by decide +kernel
theorem d_Z_floorMod_5 : decode b_Z_floorMod 5 = .ok (.iload_n 1, 1) := by decide +kernel
theorem d_Z_floorMod_6 : decode b_Z_floorMod 6 = .ok (.ixor, 1) := by decide +kernel
theorem d_Z_floorMod_7 : decode b_Z_floorMod 7 = .ok (.ifCond .ge 11, 3) := by decide +kernel
theorem d_Z_floorMod_10 : decode b_Z_floorMod 10 = .ok (.iload_n 2, 1) := by decide +kernel
theorem d_Z_floorMod_11 : decode b_Z_floorMod 11 = .ok (.ifCond .eq 7, 3) := by decide +kernel
theorem d_Z_floorMod_14 : decode b_Z_floorMod 14 = .ok (.iload_n 2, 1) := by decide +kernel
theorem d_Z_floorMod_15 : decode b_Z_floorMod 15 = .ok (.iload_n 1, 1) := by decide +kernel
theorem d_Z_floorMod_16 : decode b_Z_floorMod 16 = .ok (.iadd, 1) := by decide +kernel
theorem d_Z_floorMod_17 : decode b_Z_floorMod 17 = .ok (.ireturn, 1) := by decide +kernel
theorem d_Z_floorMod_18 : decode b_Z_floorMod 18 = .ok (.iload_n 2, 1) := by decide +kernel
theorem d_Z_floorMod_19 : decode b_Z_floorMod 19 = .ok (.ireturn, 1) := by decide +kernel
