theorem d_G_change_0 : decode b_G_change 0 = .ok (.aload_n 0, 1) := by decide +kernel
theorem d_G_change_1 : decode b_G_change 1 = .ok (.getfield 9, 3) := by decide +kernel
theorem d_G_change_4 : decode b_G_change 4 = .ok (.iload_n 1, 1) := by decide +kernel
theorem d_G_change_5 : decode b_G_change 5 = .ok (.iload_n 2, 1) := by decide +kernel
theorem d_G_change_6 : decode b_G_change 6 = .ok (.iastore, 1) := by decide +kernel
theorem d_G_change_7 : decode b_G_change 7 = .ok (.aload_n 0, 1) := by decide +kernel
theorem d_G_change_8 : decode b_G_change 8 = .ok (.getfield 15, 3) := by decide +kernel
theorem d_G_change_11 : decode b_G_change 11 = .ok (.iload_n 1, 1) := by decide +kernel
theorem d_G_change_12 : decode b_G_change 12 = .ok (.iload_n 3, 1) := by decide +kernel
theorem d_G_change_13 : decode b_G_change 13 = .ok (.iastore, 1) := by decide +kernel
theorem d_G_change_14 : decode b_G_change 14 = .ok (.aload_n 0, 1) := by decide +kernel
theorem d_G_change_15 : decode b_G_change 15 = .ok (.getfield 18, 3) := by decide +kernel
theorem d_G_change_18 : decode b_G_change 18 = .ok (.iload_n 1, 1) := by decide +kernel
theorem d_G_change_19 : decode b_G_change 19 = .ok (.iload 4, 2) := by decide +kernel
theorem d_G_change_21 : decode b_G_change 21 = .ok (.iastore, 1) := by decide +kernel
theorem d_G_change_22 : decode b_G_change 22 = .ok (.return_, 1) := by decide +kernel
theorem d_G_covers_0 : decode b_G_covers 0 = .ok (.iload_n 2, 1) := by decide +kernel
theorem d_G_covers_1 : decode b_G_covers 1 = .ok (.aload_n 0, 1) := by decide +kernel
theorem d_G_covers_2 : decode b_G_covers 2 = .ok (.getfield 9, 3) := by decide +kernel
theorem d_G_covers_5 : decode b_G_covers 5 = .ok (.iload_n 1, 1) := by decide +kernel
theorem d_G_covers_6 : decode b_G_covers 6 = .ok (.iaload, 1) := by decide +kernel
theorem d_G_covers_7 : decode b_G_covers 7 = .ok (.if_icmp .lt 17, 3) := by decide +kernel
theorem d_G_covers_10 : decode b_G_covers 10 = .ok (.iload_n 2, 1) := by decide +kernel
theorem d_G_covers_11 : decode b_G_covers 11 = .ok (.aload_n 0, 1) := by decide +kernel
theorem d_G_covers_12 : decode b_G_covers 12 = .ok (.getfield 15, 3) := by decide +kernel
theorem d_G_covers_15 : decode b_G_covers 15 = .ok (.iload_n 1, 1) := by decide +kernel
theorem d_G_covers_16 : decode b_G_covers 16 = .ok (.iaload, 1) := by decide +kernel
theorem d_G_covers_17 : decode b_G_covers 17 = .ok (.if_icmp .ge 7, 3) := by decide +kernel
theorem d_G_covers_20 : decode b_G_covers 20 = .ok (.iconst 1, 1) := by decide +kernel
theorem d_G_covers_21 : decode b_G_covers 21 = .ok (.goto 4, 3) := by decide +kernel
theorem d_G_covers_24 : decode b_G_covers 24 = .ok (.iconst 0, 1) := by decide +kernel
theorem d_G_covers_25 : decode b_G_covers 25 = .ok (.ireturn, 1) := by decide +kernel
theorem d_G_letsRun_0 : decode b_G_letsRun 0 = .ok (.aload_n 0, 1) := by decide +kernel
theorem d_G_letsRun_1 : decode b_G_letsRun 1 = .ok (.iload_n 1, 1) := by decide +kernel
theorem d_G_letsRun_2 : decode b_G_letsRun 2 = .ok (.iconst 3, 1) := by decide +kernel
theorem d_G_letsRun_3 : decode b_G_letsRun 3 = .ok (.imul, 1) := by decide +kernel
theorem d_G_letsRun_4 : decode b_G_letsRun 4 = .ok (.iconst 2, 1) := by decide +kernel
theorem d_G_letsRun_5 : decode b_G_letsRun 5 = .ok (.iadd, 1) := by decide +kernel
theorem d_G_letsRun_6 : decode b_G_letsRun 6 = .ok (.iload_n 2, 1) := by decide +kernel
theorem d_G_letsRun_7 : decode b_G_letsRun 7 = .ok (.invokevirtual 21, 3) := by decide +kernel
theorem d_G_letsRun_10 : decode b_G_letsRun 10 = .ok (.ireturn, 1) := by decide +kernel
theorem d_G_letsUse_0 : decode b_G_letsUse 0 = .ok (.iconst 0, 1) := by decide +kernel
theorem d_G_letsUse_1 : decode b_G_letsUse 1 = .ok (.istore 4, 2) := by decide +kernel
theorem d_G_letsUse_3 : decode b_G_letsUse 3 = .ok (.iload 4, 2) := by decide +kernel
theorem d_G_letsUse_5 : decode b_G_letsUse 5 = .ok (.iconst 2, 1) := by decide +kernel
theorem d_G_letsUse_6 : decode b_G_letsUse 6 = .ok (.if_icmp .ge 41, 3) := by decide +kernel
theorem d_G_letsUse_9 : decode b_G_letsUse 9 = .ok (.iload_n 1, 1) := by decide +kernel
theorem d_G_letsUse_10 : decode b_G_letsUse 10 = .ok (.iconst 3, 1) := by decide +kernel
theorem d_G_letsUse_11 : decode b_G_letsUse 11 = .ok (.imul, 1) := by decide +kernel
theorem d_G_letsUse_12 : decode b_G_letsUse 12 = .ok (.iload 4, 2) := by decide +kernel
theorem d_G_letsUse_14 : decode b_G_letsUse 14 = .ok (.iadd, 1) := by decide +kernel
theorem d_G_letsUse_15 : decode b_G_letsUse 15 = .ok (.istore 5, 2) := by decide +kernel
theorem d_G_letsUse_17 : decode b_G_letsUse 17 = .ok (.aload_n 0, 1) := by decide +kernel
theorem d_G_letsUse_18 : decode b_G_letsUse 18 = .ok (.iload 5, 2) := by decide +kernel
theorem d_G_letsUse_20 : decode b_G_letsUse 20 = .ok (.iload_n 2, 1) := by decide +kernel
theorem d_G_letsUse_21 : decode b_G_letsUse 21 = .ok (.invokevirtual 21, 3) := by decide +kernel
theorem d_G_letsUse_24 : decode b_G_letsUse 24 = .ok (.ifCond .eq 17, 3) := by decide +kernel
theorem d_G_letsUse_27 : decode b_G_letsUse 27 = .ok (.aload_n 0, 1) := by decide +kernel
theorem d_G_letsUse_28 : decode b_G_letsUse 28 = .ok (.getfield 18, 3) := by decide +kernel
theorem d_G_letsUse_31 : decode b_G_letsUse 31 = .ok (.iload 5, 2) := by decide +kernel
theorem d_G_letsUse_33 : decode b_G_letsUse 33 = .ok (.iaload, 1) := by decide +kernel
theorem d_G_letsUse_34 : decode b_G_letsUse 34 = .ok (.iload_n 3, 1) := by decide +kernel
theorem d_G_letsUse_35 : decode b_G_letsUse 35 = .ok (.iand, 1) := by decide +kernel
theorem d_G_letsUse_36 : decode b_G_letsUse 36 = .ok (.ifCond .eq 5, 3) := by decide +kernel
theorem d_G_letsUse_39 : decode b_G_letsUse 39 = .ok (.iconst 1, 1) := by decide +kernel
theorem d_G_letsUse_40 : decode b_G_letsUse 40 = .ok (.ireturn, 1) := by decide +kernel
theorem d_G_letsUse_41 : decode b_G_letsUse 41 = .ok (.iinc 4 1, 3) := by decide +kernel
theorem d_G_letsUse_44 : decode b_G_letsUse 44 = .ok (.goto (-41), 3) := by decide +kernel
theorem d_G_letsUse_47 : decode b_G_letsUse 47 = .ok (.iconst 0, 1) := by decide +kernel
theorem d_G_letsUse_48 : decode b_G_letsUse 48 = .ok (.ireturn, 1) := by decide +kernel
theorem d_M_areaStart_0 : decode b_M_areaStart 0 = .ok (.sipush 256, 3) := by decide +kernel
theorem d_M_areaStart_3 : decode b_M_areaStart 3 = .ok (.bipush 8, 2) := by decide +kernel
theorem d_M_areaStart_5 : decode b_M_areaStart 5 = .ok (.iload_n 0, 1) := by decide +kernel
theorem d_M_areaStart_6 : decode b_M_areaStart 6 = .ok (.iconst 1, 1) := by decide +kernel
theorem d_M_areaStart_7 : decode b_M_areaStart 7 = .ok (.isub, 1) := by decide +kernel
theorem d_M_areaStart_8 : decode b_M_areaStart 8 = .ok (.imul, 1) := by decide +kernel
theorem d_M_areaStart_9 : decode b_M_areaStart 9 = .ok (.iadd, 1) := by decide +kernel
theorem d_M_areaStart_10 : decode b_M_areaStart 10 = .ok (.ireturn, 1) := by decide +kernel
theorem d_M_chainAreas_0 : decode b_M_chainAreas 0 = .ok (.iconst 1, 1) := by decide +kernel
theorem d_M_chainAreas_1 : decode b_M_chainAreas 1 = .ok (.istore_n 2, 1) := by decide +kernel
theorem d_M_chainAreas_2 : decode b_M_chainAreas 2 = .ok (.iload_n 2, 1) := by decide +kernel
theorem d_M_chainAreas_3 : decode b_M_chainAreas 3 = .ok (.iload_n 1, 1) := by decide +kernel
theorem d_M_chainAreas_4 : decode b_M_chainAreas 4 = .ok (.if_icmp .gt 29, 3) := by decide +kernel
theorem d_M_chainAreas_7 : decode b_M_chainAreas 7 = .ok (.aload_n 0, 1) := by decide +kernel
theorem d_M_chainAreas_8 : decode b_M_chainAreas 8 = .ok (.iload_n 2, 1) := by decide +kernel
theorem d_M_chainAreas_9 : decode b_M_chainAreas 9 = .ok (.invokestatic 19, 3) := by decide +kernel
theorem d_M_chainAreas_12 : decode b_M_chainAreas 12 = .ok (.iload_n 2, 1) := by decide +kernel
theorem d_M_chainAreas_13 : decode b_M_chainAreas 13 = .ok (.iload_n 1, 1) := by decide +kernel
theorem d_M_chainAreas_14 : decode b_M_chainAreas 14 = .ok (.if_icmp .ne 7, 3) := by decide +kernel
theorem d_M_chainAreas_17 : decode b_M_chainAreas 17 = .ok (.iconst 0, 1) := by decide +kernel
theorem d_M_chainAreas_18 : decode b_M_chainAreas 18 = .ok (.goto 6, 3) := by decide +kernel
theorem d_M_chainAreas_21 : decode b_M_chainAreas 21 = .ok (.iload_n 2, 1) := by decide +kernel
theorem d_M_chainAreas_22 : decode b_M_chainAreas 22 = .ok (.iconst 1, 1) := by decide +kernel
theorem d_M_chainAreas_23 : decode b_M_chainAreas 23 = .ok (.iadd, 1) := by decide +kernel
theorem d_M_chainAreas_24 : decode b_M_chainAreas 24 = .ok (.invokevirtual 23, 3) := by decide +kernel
theorem d_M_chainAreas_27 : decode b_M_chainAreas 27 = .ok (.iinc 2 1, 3) := by decide +kernel
theorem d_M_chainAreas_30 : decode b_M_chainAreas 30 = .ok (.goto (-28), 3) := by decide +kernel
theorem d_M_chainAreas_33 : decode b_M_chainAreas 33 = .ok (.return_, 1) := by decide +kernel
theorem d_M_countAreas_0 : decode b_M_countAreas 0 = .ok (.iload_n 1, 1) := by decide +kernel
theorem d_M_countAreas_1 : decode b_M_countAreas 1 = .ok (.bipush 31, 2) := by decide +kernel
theorem d_M_countAreas_3 : decode b_M_countAreas 3 = .ok (.iand, 1) := by decide +kernel
theorem d_M_countAreas_4 : decode b_M_countAreas 4 = .ok (.istore_n 2, 1) := by decide +kernel
theorem d_M_countAreas_5 : decode b_M_countAreas 5 = .ok (.iconst 0, 1) := by decide +kernel
theorem d_M_countAreas_6 : decode b_M_countAreas 6 = .ok (.istore_n 3, 1) := by decide +kernel
theorem d_M_countAreas_7 : decode b_M_countAreas 7 = .ok (.iload_n 3, 1) := by decide +kernel
theorem d_M_countAreas_8 : decode b_M_countAreas 8 = .ok (.bipush 32, 2) := by decide +kernel
theorem d_M_countAreas_10 : decode b_M_countAreas 10 = .ok (.if_icmp .ge 28, 3) := by decide +kernel
theorem d_M_countAreas_13 : decode b_M_countAreas 13 = .ok (.iload_n 2, 1) := by decide +kernel
theorem d_M_countAreas_14 : decode b_M_countAreas 14 = .ok (.invokestatic 27, 3) := by decide +kernel
theorem d_M_countAreas_17 : decode b_M_countAreas 17 = .ok (.ifCond .eq 21, 3) := by decide +kernel
theorem d_M_countAreas_20 : decode b_M_countAreas 20 = .ok (.iinc 3 1, 3) := by decide +kernel
theorem d_M_countAreas_23 : decode b_M_countAreas 23 = .ok (.aload_n 0, 1) := by decide +kernel
theorem d_M_countAreas_24 : decode b_M_countAreas 24 = .ok (.iload_n 2, 1) := by decide +kernel
theorem d_M_countAreas_25 : decode b_M_countAreas 25 = .ok (.invokestatic 19, 3) := by decide +kernel
theorem d_M_countAreas_28 : decode b_M_countAreas 28 = .ok (.invokevirtual 30, 3) := by decide +kernel
theorem d_M_countAreas_31 : decode b_M_countAreas 31 = .ok (.bipush 31, 2) := by decide +kernel
theorem d_M_countAreas_33 : decode b_M_countAreas 33 = .ok (.iand, 1) := by decide +kernel
theorem d_M_countAreas_34 : decode b_M_countAreas 34 = .ok (.istore_n 2, 1) := by decide +kernel
theorem d_M_countAreas_35 : decode b_M_countAreas 35 = .ok (.goto (-28), 3) := by decide +kernel
theorem d_M_countAreas_38 : decode b_M_countAreas 38 = .ok (.iload_n 3, 1) := by decide +kernel
theorem d_M_countAreas_39 : decode b_M_countAreas 39 = .ok (.ireturn, 1) := by decide +kernel
theorem d_M_has_0 : decode b_M_has 0 = .ok (.iload_n 0, 1) := by decide +kernel
theorem d_M_has_1 : decode b_M_has 1 = .ok (.ifCond .lt 14, 3) := by decide +kernel
theorem d_M_has_4 : decode b_M_has 4 = .ok (.iload_n 0, 1) := by decide +kernel
theorem d_M_has_5 : decode b_M_has 5 = .ok (.sipush 512, 3) := by decide +kernel
theorem d_M_has_8 : decode b_M_has 8 = .ok (.if_icmp .ge 7, 3) := by decide +kernel
theorem d_M_has_11 : decode b_M_has 11 = .ok (.iconst 1, 1) := by decide +kernel
theorem d_M_has_12 : decode b_M_has 12 = .ok (.goto 4, 3) := by decide +kernel
theorem d_M_has_15 : decode b_M_has 15 = .ok (.iconst 0, 1) := by decide +kernel
theorem d_M_has_16 : decode b_M_has 16 = .ok (.ireturn, 1) := by decide +kernel
theorem d_M_isArea_0 : decode b_M_isArea 0 = .ok (.iload_n 0, 1) := by decide +kernel
theorem d_M_isArea_1 : decode b_M_isArea 1 = .ok (.iconst 1, 1) := by decide +kernel
theorem d_M_isArea_2 : decode b_M_isArea 2 = .ok (.if_icmp .lt 13, 3) := by decide +kernel
theorem d_M_isArea_5 : decode b_M_isArea 5 = .ok (.iload_n 0, 1) := by decide +kernel
theorem d_M_isArea_6 : decode b_M_isArea 6 = .ok (.bipush 24, 2) := by decide +kernel
theorem d_M_isArea_8 : decode b_M_isArea 8 = .ok (.if_icmp .gt 7, 3) := by decide +kernel
theorem d_M_isArea_11 : decode b_M_isArea 11 = .ok (.iconst 1, 1) := by decide +kernel
theorem d_M_isArea_12 : decode b_M_isArea 12 = .ok (.goto 4, 3) := by decide +kernel
theorem d_M_isArea_15 : decode b_M_isArea 15 = .ok (.iconst 0, 1) := by decide +kernel
theorem d_M_isArea_16 : decode b_M_isArea 16 = .ok (.ireturn, 1) := by decide +kernel
theorem d_M_read_0 : decode b_M_read 0 = .ok (.iload_n 1, 1) := by decide +kernel
theorem d_M_read_1 : decode b_M_read 1 = .ok (.invokestatic 15, 3) := by decide +kernel
theorem d_M_read_4 : decode b_M_read 4 = .ok (.ifCond .eq 12, 3) := by decide +kernel
theorem d_M_read_7 : decode b_M_read 7 = .ok (.aload_n 0, 1) := by decide +kernel
theorem d_M_read_8 : decode b_M_read 8 = .ok (.getfield 9, 3) := by decide +kernel
theorem d_M_read_11 : decode b_M_read 11 = .ok (.iload_n 1, 1) := by decide +kernel
theorem d_M_read_12 : decode b_M_read 12 = .ok (.iaload, 1) := by decide +kernel
theorem d_M_read_13 : decode b_M_read 13 = .ok (.goto 4, 3) := by decide +kernel
theorem d_M_read_16 : decode b_M_read 16 = .ok (.iconst 0, 1) := by decide +kernel
theorem d_M_read_17 : decode b_M_read 17 = .ok (.ireturn, 1) := by decide +kernel
theorem d_M_write_0 : decode b_M_write 0 = .ok (.iload_n 1, 1) := by decide +kernel
theorem d_M_write_1 : decode b_M_write 1 = .ok (.invokestatic 15, 3) := by decide +kernel
theorem d_M_write_4 : decode b_M_write 4 = .ok (.ifCond .eq 10, 3) := by decide +kernel
theorem d_M_write_7 : decode b_M_write 7 = .ok (.aload_n 0, 1) := by decide +kernel
theorem d_M_write_8 : decode b_M_write 8 = .ok (.getfield 9, 3) := by decide +kernel
theorem d_M_write_11 : decode b_M_write 11 = .ok (.iload_n 1, 1) := by decide +kernel
theorem d_M_write_12 : decode b_M_write 12 = .ok (.iload_n 2, 1) := by decide +kernel
theorem d_M_write_13 : decode b_M_write 13 = .ok (.iastore, 1) := by decide +kernel
theorem d_M_write_14 : decode b_M_write 14 = .ok (.return_, 1) := by decide +kernel
theorem d_R_begin_0 : decode b_R_begin 0 = .ok (.aload_n 0, 1) := by decide +kernel
theorem d_R_begin_1 : decode b_R_begin 1 = .ok (.iload_n 1, 1) := by decide +kernel
theorem d_R_begin_2 : decode b_R_begin 2 = .ok (.putfield 28, 3) := by decide +kernel
theorem d_R_begin_5 : decode b_R_begin 5 = .ok (.aload_n 0, 1) := by decide +kernel
theorem d_R_begin_6 : decode b_R_begin 6 = .ok (.iload_n 2, 1) := by decide +kernel
theorem d_R_begin_7 : decode b_R_begin 7 = .ok (.putfield 18, 3) := by decide +kernel
theorem d_R_begin_10 : decode b_R_begin 10 = .ok (.aload_n 0, 1) := by decide +kernel
theorem d_R_begin_11 : decode b_R_begin 11 = .ok (.iconst 0, 1) := by decide +kernel
theorem d_R_begin_12 : decode b_R_begin 12 = .ok (.putfield 22, 3) := by decide +kernel
theorem d_R_begin_15 : decode b_R_begin 15 = .ok (.aload_n 0, 1) := by decide +kernel
theorem d_R_begin_16 : decode b_R_begin 16 = .ok (.iconst 0, 1) := by decide +kernel
theorem d_R_begin_17 : decode b_R_begin 17 = .ok (.putfield 25, 3) := by decide +kernel
theorem d_R_begin_20 : decode b_R_begin 20 = .ok (.aload_n 0, 1) := by decide +kernel
theorem d_R_begin_21 : decode b_R_begin 21 = .ok (.iconst 0, 1) := by decide +kernel
theorem d_R_begin_22 : decode b_R_begin 22 = .ok (.putfield 31, 3) := by decide +kernel
theorem d_R_begin_25 : decode b_R_begin 25 = .ok (.aload_n 0, 1) := by decide +kernel
theorem d_R_begin_26 : decode b_R_begin 26 = .ok (.iload_n 3, 1) := by decide +kernel
theorem d_R_begin_27 : decode b_R_begin 27 = .ok (.putfield 34, 3) := by decide +kernel
theorem d_R_begin_30 : decode b_R_begin 30 = .ok (.return_, 1) := by decide +kernel
theorem d_R_bringBack_0 : decode b_R_bringBack 0 = .ok (.aload_n 0, 1) := by decide +kernel
theorem d_R_bringBack_1 : decode b_R_bringBack 1 = .ok (.getfield 54, 3) := by decide +kernel
theorem d_R_bringBack_4 : decode b_R_bringBack 4 = .ok (.bipush 31, 2) := by decide +kernel
theorem d_R_bringBack_6 : decode b_R_bringBack 6 = .ok (.iand, 1) := by decide +kernel
theorem d_R_bringBack_7 : decode b_R_bringBack 7 = .ok (.istore_n 3, 1) := by decide +kernel
theorem d_R_bringBack_8 : decode b_R_bringBack 8 = .ok (.iload_n 3, 1) := by decide +kernel
theorem d_R_bringBack_9 : decode b_R_bringBack 9 = .ok (.invokestatic 47, 3) := by decide +kernel
theorem d_R_bringBack_12 : decode b_R_bringBack 12 = .ok (.istore 4, 2) := by decide +kernel
theorem d_R_bringBack_14 : decode b_R_bringBack 14 = .ok (.aload_n 0, 1) := by decide +kernel
theorem d_R_bringBack_15 : decode b_R_bringBack 15 = .ok (.aload_n 1, 1) := by decide +kernel
theorem d_R_bringBack_16 : decode b_R_bringBack 16 = .ok (.iload 4, 2) := by decide +kernel
theorem d_R_bringBack_18 : decode b_R_bringBack 18 = .ok (.invokevirtual 51, 3) := by decide +kernel
theorem d_R_bringBack_21 : decode b_R_bringBack 21 = .ok (.putfield 54, 3) := by decide +kernel
theorem d_R_bringBack_24 : decode b_R_bringBack 24 = .ok (.iload_n 2, 1) := by decide +kernel
theorem d_R_bringBack_25 : decode b_R_bringBack 25 = .ok (.ifCond .eq 48, 3) := by decide +kernel
theorem d_R_bringBack_28 : decode b_R_bringBack 28 = .ok (.aload_n 0, 1) := by decide +kernel
theorem d_R_bringBack_29 : decode b_R_bringBack 29 = .ok (.aload_n 1, 1) := by decide +kernel
theorem d_R_bringBack_30 : decode b_R_bringBack 30 = .ok (.iload 4, 2) := by decide +kernel
theorem d_R_bringBack_32 : decode b_R_bringBack 32 = .ok (.iconst 1, 1) := by decide +kernel
theorem d_R_bringBack_33 : decode b_R_bringBack 33 = .ok (.iadd, 1) := by decide +kernel
theorem d_R_bringBack_34 : decode b_R_bringBack 34 = .ok (.invokevirtual 51, 3) := by decide +kernel
theorem d_R_bringBack_37 : decode b_R_bringBack 37 = .ok (.invokevirtual 71, 3) := by decide +kernel
theorem d_R_bringBack_40 : decode b_R_bringBack 40 = .ok (.aload_n 0, 1) := by decide +kernel
theorem d_R_bringBack_41 : decode b_R_bringBack 41 = .ok (.getfield 15, 3) := by decide +kernel
theorem d_R_bringBack_44 : decode b_R_bringBack 44 = .ok (.bipush 6, 2) := by decide +kernel
theorem d_R_bringBack_46 : decode b_R_bringBack 46 = .ok (.aload_n 1, 1) := by decide +kernel
theorem d_R_bringBack_47 : decode b_R_bringBack 47 = .ok (.iload 4, 2) := by decide +kernel
theorem d_R_bringBack_49 : decode b_R_bringBack 49 = .ok (.iconst 2, 1) := by decide +kernel
theorem d_R_bringBack_50 : decode b_R_bringBack 50 = .ok (.iadd, 1) := by decide +kernel
theorem d_R_bringBack_51 : decode b_R_bringBack 51 = .ok (.invokevirtual 51, 3) := by decide +kernel
theorem d_R_bringBack_54 : decode b_R_bringBack 54 = .ok (.iastore, 1) := by decide +kernel
theorem d_R_bringBack_55 : decode b_R_bringBack 55 = .ok (.aload_n 0, 1) := by decide +kernel
theorem d_R_bringBack_56 : decode b_R_bringBack 56 = .ok (.getfield 15, 3) := by decide +kernel
theorem d_R_bringBack_59 : decode b_R_bringBack 59 = .ok (.bipush 7, 2) := by decide +kernel
theorem d_R_bringBack_61 : decode b_R_bringBack 61 = .ok (.aload_n 1, 1) := by decide +kernel
theorem d_R_bringBack_62 : decode b_R_bringBack 62 = .ok (.iload 4, 2) := by decide +kernel
theorem d_R_bringBack_64 : decode b_R_bringBack 64 = .ok (.iconst 3, 1) := by decide +kernel
theorem d_R_bringBack_65 : decode b_R_bringBack 65 = .ok (.iadd, 1) := by decide +kernel
theorem d_R_bringBack_66 : decode b_R_bringBack 66 = .ok (.invokevirtual 51, 3) := by decide +kernel
theorem d_R_bringBack_69 : decode b_R_bringBack 69 = .ok (.iastore, 1) := by decide +kernel
theorem d_R_bringBack_70 : decode b_R_bringBack 70 = .ok (.goto 46, 3) := by decide +kernel
theorem d_R_bringBack_73 : decode b_R_bringBack 73 = .ok (.aload_n 0, 1) := by decide +kernel
theorem d_R_bringBack_74 : decode b_R_bringBack 74 = .ok (.getfield 15, 3) := by decide +kernel
theorem d_R_bringBack_77 : decode b_R_bringBack 77 = .ok (.bipush 7, 2) := by decide +kernel
theorem d_R_bringBack_79 : decode b_R_bringBack 79 = .ok (.aload_n 1, 1) := by decide +kernel
theorem d_R_bringBack_80 : decode b_R_bringBack 80 = .ok (.iload 4, 2) := by decide +kernel
theorem d_R_bringBack_82 : decode b_R_bringBack 82 = .ok (.iconst 1, 1) := by decide +kernel
theorem d_R_bringBack_83 : decode b_R_bringBack 83 = .ok (.iadd, 1) := by decide +kernel
theorem d_R_bringBack_84 : decode b_R_bringBack 84 = .ok (.invokevirtual 51, 3) := by decide +kernel
theorem d_R_bringBack_87 : decode b_R_bringBack 87 = .ok (.iastore, 1) := by decide +kernel
theorem d_R_bringBack_88 : decode b_R_bringBack 88 = .ok (.aload_n 0, 1) := by decide +kernel
theorem d_R_bringBack_89 : decode b_R_bringBack 89 = .ok (.getfield 15, 3) := by decide +kernel
theorem d_R_bringBack_92 : decode b_R_bringBack 92 = .ok (.iconst 2, 1) := by decide +kernel
theorem d_R_bringBack_93 : decode b_R_bringBack 93 = .ok (.aload_n 1, 1) := by decide +kernel
theorem d_R_bringBack_94 : decode b_R_bringBack 94 = .ok (.iload 4, 2) := by decide +kernel
theorem d_R_bringBack_96 : decode b_R_bringBack 96 = .ok (.iconst 2, 1) := by decide +kernel
theorem d_R_bringBack_97 : decode b_R_bringBack 97 = .ok (.iadd, 1) := by decide +kernel
theorem d_R_bringBack_98 : decode b_R_bringBack 98 = .ok (.invokevirtual 51, 3) := by decide +kernel
theorem d_R_bringBack_101 : decode b_R_bringBack 101 = .ok (.iastore, 1) := by decide +kernel
theorem d_R_bringBack_102 : decode b_R_bringBack 102 = .ok (.aload_n 0, 1) := by decide +kernel
theorem d_R_bringBack_103 : decode b_R_bringBack 103 = .ok (.getfield 15, 3) := by decide +kernel
theorem d_R_bringBack_106 : decode b_R_bringBack 106 = .ok (.iconst 3, 1) := by decide +kernel
theorem d_R_bringBack_107 : decode b_R_bringBack 107 = .ok (.aload_n 1, 1) := by decide +kernel
theorem d_R_bringBack_108 : decode b_R_bringBack 108 = .ok (.iload 4, 2) := by decide +kernel
theorem d_R_bringBack_110 : decode b_R_bringBack 110 = .ok (.iconst 3, 1) := by decide +kernel
theorem d_R_bringBack_111 : decode b_R_bringBack 111 = .ok (.iadd, 1) := by decide +kernel
theorem d_R_bringBack_112 : decode b_R_bringBack 112 = .ok (.invokevirtual 51, 3) := by decide +kernel
theorem d_R_bringBack_115 : decode b_R_bringBack 115 = .ok (.iastore, 1) := by decide +kernel
theorem d_R_bringBack_116 : decode b_R_bringBack 116 = .ok (.iload_n 2, 1) := by decide +kernel
theorem d_R_bringBack_117 : decode b_R_bringBack 117 = .ok (.ifCond .eq 7, 3) := by decide +kernel
theorem d_R_bringBack_120 : decode b_R_bringBack 120 = .ok (.iconst 4, 1) := by decide +kernel
theorem d_R_bringBack_121 : decode b_R_bringBack 121 = .ok (.goto 4, 3) := by decide +kernel
theorem d_R_bringBack_124 : decode b_R_bringBack 124 = .ok (.iconst 0, 1) := by decide +kernel
theorem d_R_bringBack_125 : decode b_R_bringBack 125 = .ok (.istore 5, 2) := by decide +kernel
theorem d_R_bringBack_127 : decode b_R_bringBack 127 = .ok (.iconst 0, 1) := by decide +kernel
theorem d_R_bringBack_128 : decode b_R_bringBack 128 = .ok (.istore 6, 2) := by decide +kernel
theorem d_R_bringBack_130 : decode b_R_bringBack 130 = .ok (.iload 6, 2) := by decide +kernel
theorem d_R_bringBack_132 : decode b_R_bringBack 132 = .ok (.iconst 4, 1) := by decide +kernel
theorem d_R_bringBack_133 : decode b_R_bringBack 133 = .ok (.if_icmp .ge 30, 3) := by decide +kernel
theorem d_R_bringBack_136 : decode b_R_bringBack 136 = .ok (.aload_n 0, 1) := by decide +kernel
theorem d_R_bringBack_137 : decode b_R_bringBack 137 = .ok (.getfield 9, 3) := by decide +kernel
theorem d_R_bringBack_140 : decode b_R_bringBack 140 = .ok (.iload 5, 2) := by decide +kernel
theorem d_R_bringBack_142 : decode b_R_bringBack 142 = .ok (.iload 6, 2) := by decide +kernel
theorem d_R_bringBack_144 : decode b_R_bringBack 144 = .ok (.iadd, 1) := by decide +kernel
theorem d_R_bringBack_145 : decode b_R_bringBack 145 = .ok (.aload_n 1, 1) := by decide +kernel
theorem d_R_bringBack_146 : decode b_R_bringBack 146 = .ok (.iload 4, 2) := by decide +kernel
theorem d_R_bringBack_148 : decode b_R_bringBack 148 = .ok (.iconst 4, 1) := by decide +kernel
theorem d_R_bringBack_149 : decode b_R_bringBack 149 = .ok (.iadd, 1) := by decide +kernel
theorem d_R_bringBack_150 : decode b_R_bringBack 150 = .ok (.iload 6, 2) := by decide +kernel
theorem d_R_bringBack_152 : decode b_R_bringBack 152 = .ok (.iadd, 1) := by decide +kernel
theorem d_R_bringBack_153 : decode b_R_bringBack 153 = .ok (.invokevirtual 51, 3) := by decide +kernel
theorem d_R_bringBack_156 : decode b_R_bringBack 156 = .ok (.iastore, 1) := by decide +kernel
theorem d_R_bringBack_157 : decode b_R_bringBack 157 = .ok (.iinc 6 1, 3) := by decide +kernel
theorem d_R_bringBack_160 : decode b_R_bringBack 160 = .ok (.goto (-30), 3) := by decide +kernel
theorem d_R_bringBack_163 : decode b_R_bringBack 163 = .ok (.aload_n 1, 1) := by decide +kernel
theorem d_R_bringBack_164 : decode b_R_bringBack 164 = .ok (.iload 4, 2) := by decide +kernel
theorem d_R_bringBack_166 : decode b_R_bringBack 166 = .ok (.aload_n 0, 1) := by decide +kernel
theorem d_R_bringBack_167 : decode b_R_bringBack 167 = .ok (.getfield 38, 3) := by decide +kernel
theorem d_R_bringBack_170 : decode b_R_bringBack 170 = .ok (.invokevirtual 57, 3) := by decide +kernel
theorem d_R_bringBack_173 : decode b_R_bringBack 173 = .ok (.aload_n 0, 1) := by decide +kernel
theorem d_R_bringBack_174 : decode b_R_bringBack 174 = .ok (.iload_n 3, 1) := by decide +kernel
theorem d_R_bringBack_175 : decode b_R_bringBack 175 = .ok (.putfield 38, 3) := by decide +kernel
theorem d_R_bringBack_178 : decode b_R_bringBack 178 = .ok (.return_, 1) := by decide +kernel
theorem d_R_enterHandler_0 : decode b_R_enterHandler 0 = .ok (.aload_n 0, 1) := by decide +kernel
theorem d_R_enterHandler_1 : decode b_R_enterHandler 1 = .ok (.getfield 15, 3) := by decide +kernel
theorem d_R_enterHandler_4 : decode b_R_enterHandler 4 = .ok (.bipush 7, 2) := by decide +kernel
theorem d_R_enterHandler_6 : decode b_R_enterHandler 6 = .ok (.iload_n 2, 1) := by decide +kernel
theorem d_R_enterHandler_7 : decode b_R_enterHandler 7 = .ok (.iastore, 1) := by decide +kernel
theorem d_R_enterHandler_8 : decode b_R_enterHandler 8 = .ok (.aload_n 0, 1) := by decide +kernel
theorem d_R_enterHandler_9 : decode b_R_enterHandler 9 = .ok (.iconst 2, 1) := by decide +kernel
theorem d_R_enterHandler_10 : decode b_R_enterHandler 10 = .ok (.putfield 18, 3) := by decide +kernel
theorem d_R_enterHandler_13 : decode b_R_enterHandler 13 = .ok (.aload_n 0, 1) := by decide +kernel
theorem d_R_enterHandler_14 : decode b_R_enterHandler 14 = .ok (.iconst 0, 1) := by decide +kernel
theorem d_R_enterHandler_15 : decode b_R_enterHandler 15 = .ok (.putfield 22, 3) := by decide +kernel
theorem d_R_enterHandler_18 : decode b_R_enterHandler 18 = .ok (.aload_n 0, 1) := by decide +kernel
theorem d_R_enterHandler_19 : decode b_R_enterHandler 19 = .ok (.iconst 0, 1) := by decide +kernel
theorem d_R_enterHandler_20 : decode b_R_enterHandler 20 = .ok (.putfield 25, 3) := by decide +kernel
theorem d_R_enterHandler_23 : decode b_R_enterHandler 23 = .ok (.aload_n 0, 1) := by decide +kernel
theorem d_R_enterHandler_24 : decode b_R_enterHandler 24 = .ok (.iconst 0, 1) := by decide +kernel
theorem d_R_enterHandler_25 : decode b_R_enterHandler 25 = .ok (.putfield 34, 3) := by decide +kernel
theorem d_R_enterHandler_28 : decode b_R_enterHandler 28 = .ok (.aload_n 0, 1) := by decide +kernel
theorem d_R_enterHandler_29 : decode b_R_enterHandler 29 = .ok (.iload_n 1, 1) := by decide +kernel
theorem d_R_enterHandler_30 : decode b_R_enterHandler 30 = .ok (.putfield 28, 3) := by decide +kernel
theorem d_R_enterHandler_33 : decode b_R_enterHandler 33 = .ok (.return_, 1) := by decide +kernel
theorem d_R_keep_0 : decode b_R_keep 0 = .ok (.aload_n 0, 1) := by decide +kernel
theorem d_R_keep_1 : decode b_R_keep 1 = .ok (.getfield 38, 3) := by decide +kernel
theorem d_R_keep_4 : decode b_R_keep 4 = .ok (.bipush 31, 2) := by decide +kernel
theorem d_R_keep_6 : decode b_R_keep 6 = .ok (.iand, 1) := by decide +kernel
theorem d_R_keep_7 : decode b_R_keep 7 = .ok (.istore_n 3, 1) := by decide +kernel
theorem d_R_keep_8 : decode b_R_keep 8 = .ok (.iload_n 3, 1) := by decide +kernel
theorem d_R_keep_9 : decode b_R_keep 9 = .ok (.invokestatic 41, 3) := by decide +kernel
theorem d_R_keep_12 : decode b_R_keep 12 = .ok (.ifCond .ne 5, 3) := by decide +kernel
theorem d_R_keep_15 : decode b_R_keep 15 = .ok (.iconst 0, 1) := by decide +kernel
theorem d_R_keep_16 : decode b_R_keep 16 = .ok (.ireturn, 1) := by decide +kernel
theorem d_R_keep_17 : decode b_R_keep 17 = .ok (.iload_n 3, 1) := by decide +kernel
theorem d_R_keep_18 : decode b_R_keep 18 = .ok (.invokestatic 47, 3) := by decide +kernel
theorem d_R_keep_21 : decode b_R_keep 21 = .ok (.istore 4, 2) := by decide +kernel
theorem d_R_keep_23 : decode b_R_keep 23 = .ok (.aload_n 0, 1) := by decide +kernel
theorem d_R_keep_24 : decode b_R_keep 24 = .ok (.aload_n 1, 1) := by decide +kernel
theorem d_R_keep_25 : decode b_R_keep 25 = .ok (.iload 4, 2) := by decide +kernel
theorem d_R_keep_27 : decode b_R_keep 27 = .ok (.invokevirtual 51, 3) := by decide +kernel
theorem d_R_keep_30 : decode b_R_keep 30 = .ok (.putfield 38, 3) := by decide +kernel
theorem d_R_keep_33 : decode b_R_keep 33 = .ok (.aload_n 1, 1) := by decide +kernel
theorem d_R_keep_34 : decode b_R_keep 34 = .ok (.iload 4, 2) := by decide +kernel
theorem d_R_keep_36 : decode b_R_keep 36 = .ok (.aload_n 0, 1) := by decide +kernel
theorem d_R_keep_37 : decode b_R_keep 37 = .ok (.getfield 54, 3) := by decide +kernel
theorem d_R_keep_40 : decode b_R_keep 40 = .ok (.invokevirtual 57, 3) := by decide +kernel
theorem d_R_keep_43 : decode b_R_keep 43 = .ok (.aload_n 1, 1) := by decide +kernel
theorem d_R_keep_44 : decode b_R_keep 44 = .ok (.iload 4, 2) := by decide +kernel
theorem d_R_keep_46 : decode b_R_keep 46 = .ok (.iconst 1, 1) := by decide +kernel
theorem d_R_keep_47 : decode b_R_keep 47 = .ok (.iadd, 1) := by decide +kernel
theorem d_R_keep_48 : decode b_R_keep 48 = .ok (.iload_n 2, 1) := by decide +kernel
theorem d_R_keep_49 : decode b_R_keep 49 = .ok (.ifCond .eq 10, 3) := by decide +kernel
theorem d_R_keep_52 : decode b_R_keep 52 = .ok (.aload_n 0, 1) := by decide +kernel
theorem d_R_keep_53 : decode b_R_keep 53 = .ok (.invokevirtual 61, 3) := by decide +kernel
theorem d_R_keep_56 : decode b_R_keep 56 = .ok (.goto 10, 3) := by decide +kernel
theorem d_R_keep_59 : decode b_R_keep 59 = .ok (.aload_n 0, 1) := by decide +kernel
theorem d_R_keep_60 : decode b_R_keep 60 = .ok (.getfield 15, 3) := by decide +kernel
theorem d_R_keep_63 : decode b_R_keep 63 = .ok (.bipush 7, 2) := by decide +kernel
theorem d_R_keep_65 : decode b_R_keep 65 = .ok (.iaload, 1) := by decide +kernel
theorem d_R_keep_66 : decode b_R_keep 66 = .ok (.invokevirtual 57, 3) := by decide +kernel
theorem d_R_keep_69 : decode b_R_keep 69 = .ok (.aload_n 1, 1) := by decide +kernel
theorem d_R_keep_70 : decode b_R_keep 70 = .ok (.iload 4, 2) := by decide +kernel
theorem d_R_keep_72 : decode b_R_keep 72 = .ok (.iconst 2, 1) := by decide +kernel
theorem d_R_keep_73 : decode b_R_keep 73 = .ok (.iadd, 1) := by decide +kernel
theorem d_R_keep_74 : decode b_R_keep 74 = .ok (.iload_n 2, 1) := by decide +kernel
theorem d_R_keep_75 : decode b_R_keep 75 = .ok (.ifCond .eq 13, 3) := by decide +kernel
theorem d_R_keep_78 : decode b_R_keep 78 = .ok (.aload_n 0, 1) := by decide +kernel
theorem d_R_keep_79 : decode b_R_keep 79 = .ok (.getfield 15, 3) := by decide +kernel
theorem d_R_keep_82 : decode b_R_keep 82 = .ok (.bipush 6, 2) := by decide +kernel
theorem d_R_keep_84 : decode b_R_keep 84 = .ok (.iaload, 1) := by decide +kernel
theorem d_R_keep_85 : decode b_R_keep 85 = .ok (.goto 9, 3) := by decide +kernel
theorem d_R_keep_88 : decode b_R_keep 88 = .ok (.aload_n 0, 1) := by decide +kernel
theorem d_R_keep_89 : decode b_R_keep 89 = .ok (.getfield 15, 3) := by decide +kernel
theorem d_R_keep_92 : decode b_R_keep 92 = .ok (.iconst 2, 1) := by decide +kernel
theorem d_R_keep_93 : decode b_R_keep 93 = .ok (.iaload, 1) := by decide +kernel
theorem d_R_keep_94 : decode b_R_keep 94 = .ok (.invokevirtual 57, 3) := by decide +kernel
theorem d_R_keep_97 : decode b_R_keep 97 = .ok (.aload_n 1, 1) := by decide +kernel
theorem d_R_keep_98 : decode b_R_keep 98 = .ok (.iload 4, 2) := by decide +kernel
theorem d_R_keep_100 : decode b_R_keep 100 = .ok (.iconst 3, 1) := by decide +kernel
theorem d_R_keep_101 : decode b_R_keep 101 = .ok (.iadd, 1) := by decide +kernel
theorem d_R_keep_102 : decode b_R_keep 102 = .ok (.iload_n 2, 1) := by decide +kernel
theorem d_R_keep_103 : decode b_R_keep 103 = .ok (.ifCond .eq 13, 3) := by decide +kernel
theorem d_R_keep_106 : decode b_R_keep 106 = .ok (.aload_n 0, 1) := by decide +kernel
theorem d_R_keep_107 : decode b_R_keep 107 = .ok (.getfield 15, 3) := by decide +kernel
theorem d_R_keep_110 : decode b_R_keep 110 = .ok (.bipush 7, 2) := by decide +kernel
theorem d_R_keep_112 : decode b_R_keep 112 = .ok (.iaload, 1) := by decide +kernel
theorem d_R_keep_113 : decode b_R_keep 113 = .ok (.goto 9, 3) := by decide +kernel
theorem d_R_keep_116 : decode b_R_keep 116 = .ok (.aload_n 0, 1) := by decide +kernel
theorem d_R_keep_117 : decode b_R_keep 117 = .ok (.getfield 15, 3) := by decide +kernel
theorem d_R_keep_120 : decode b_R_keep 120 = .ok (.iconst 3, 1) := by decide +kernel
theorem d_R_keep_121 : decode b_R_keep 121 = .ok (.iaload, 1) := by decide +kernel
theorem d_R_keep_122 : decode b_R_keep 122 = .ok (.invokevirtual 57, 3) := by decide +kernel
theorem d_R_keep_125 : decode b_R_keep 125 = .ok (.iload_n 2, 1) := by decide +kernel
theorem d_R_keep_126 : decode b_R_keep 126 = .ok (.ifCond .eq 7, 3) := by decide +kernel
theorem d_R_keep_129 : decode b_R_keep 129 = .ok (.iconst 4, 1) := by decide +kernel
theorem d_R_keep_130 : decode b_R_keep 130 = .ok (.goto 4, 3) := by decide +kernel
theorem d_R_keep_133 : decode b_R_keep 133 = .ok (.iconst 0, 1) := by decide +kernel
theorem d_R_keep_134 : decode b_R_keep 134 = .ok (.istore 5, 2) := by decide +kernel
theorem d_R_keep_136 : decode b_R_keep 136 = .ok (.iconst 0, 1) := by decide +kernel
theorem d_R_keep_137 : decode b_R_keep 137 = .ok (.istore 6, 2) := by decide +kernel
theorem d_R_keep_139 : decode b_R_keep 139 = .ok (.iload 6, 2) := by decide +kernel
theorem d_R_keep_141 : decode b_R_keep 141 = .ok (.iconst 4, 1) := by decide +kernel
theorem d_R_keep_142 : decode b_R_keep 142 = .ok (.if_icmp .ge 30, 3) := by decide +kernel
theorem d_R_keep_145 : decode b_R_keep 145 = .ok (.aload_n 1, 1) := by decide +kernel
theorem d_R_keep_146 : decode b_R_keep 146 = .ok (.iload 4, 2) := by decide +kernel
theorem d_R_keep_148 : decode b_R_keep 148 = .ok (.iconst 4, 1) := by decide +kernel
theorem d_R_keep_149 : decode b_R_keep 149 = .ok (.iadd, 1) := by decide +kernel
theorem d_R_keep_150 : decode b_R_keep 150 = .ok (.iload 6, 2) := by decide +kernel
theorem d_R_keep_152 : decode b_R_keep 152 = .ok (.iadd, 1) := by decide +kernel
theorem d_R_keep_153 : decode b_R_keep 153 = .ok (.aload_n 0, 1) := by decide +kernel
theorem d_R_keep_154 : decode b_R_keep 154 = .ok (.getfield 9, 3) := by decide +kernel
theorem d_R_keep_157 : decode b_R_keep 157 = .ok (.iload 5, 2) := by decide +kernel
theorem d_R_keep_159 : decode b_R_keep 159 = .ok (.iload 6, 2) := by decide +kernel
theorem d_R_keep_161 : decode b_R_keep 161 = .ok (.iadd, 1) := by decide +kernel
theorem d_R_keep_162 : decode b_R_keep 162 = .ok (.iaload, 1) := by decide +kernel
theorem d_R_keep_163 : decode b_R_keep 163 = .ok (.invokevirtual 57, 3) := by decide +kernel
theorem d_R_keep_166 : decode b_R_keep 166 = .ok (.iinc 6 1, 3) := by decide +kernel
theorem d_R_keep_169 : decode b_R_keep 169 = .ok (.goto (-30), 3) := by decide +kernel
theorem d_R_keep_172 : decode b_R_keep 172 = .ok (.aload_n 0, 1) := by decide +kernel
theorem d_R_keep_173 : decode b_R_keep 173 = .ok (.iload_n 3, 1) := by decide +kernel
theorem d_R_keep_174 : decode b_R_keep 174 = .ok (.iload_n 2, 1) := by decide +kernel
