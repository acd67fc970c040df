theorem dJ6_bitCount_0f7a4_0 : decode cJ6_bitCount_0f7a4 0 = .ok (.iload_n 0, 1) := by decide +kernel
theorem dJ6_bitCount_0f7a4_1 : decode cJ6_bitCount_0f7a4 1 = .ok (.iload_n 0, 1) := by decide +kernel
theorem dJ6_bitCount_0f7a4_2 : decode cJ6_bitCount_0f7a4 2 = .ok (.iconst 1, 1) := by decide +kernel
theorem dJ6_bitCount_0f7a4_3 : decode cJ6_bitCount_0f7a4 3 = .ok (.iushr, 1) := by decide +kernel
theorem dJ6_bitCount_0f7a4_4 : decode cJ6_bitCount_0f7a4 4 = .ok (.ldc_w 265, 3) := by decide +kernel
theorem dJ6_bitCount_0f7a4_7 : decode cJ6_bitCount_0f7a4 7 = .ok (.iand, 1) := by decide +kernel
theorem dJ6_bitCount_0f7a4_8 : decode cJ6_bitCount_0f7a4 8 = .ok (.isub, 1) := by decide +kernel
theorem dJ6_bitCount_0f7a4_9 : decode cJ6_bitCount_0f7a4 9 = .ok (.istore_n 0, 1) := by decide +kernel
theorem dJ6_bitCount_0f7a4_10 : decode cJ6_bitCount_0f7a4 10 = .ok (.iload_n 0, 1) := by decide +kernel
theorem dJ6_bitCount_0f7a4_11 : decode cJ6_bitCount_0f7a4 11 = .ok (.ldc_w 266, 3) := by decide +kernel
theorem dJ6_bitCount_0f7a4_14 : decode cJ6_bitCount_0f7a4 14 = .ok (.iand, 1) := by decide +kernel
theorem dJ6_bitCount_0f7a4_15 : decode cJ6_bitCount_0f7a4 15 = .ok (.iload_n 0, 1) := by decide +kernel
theorem dJ6_bitCount_0f7a4_16 : decode cJ6_bitCount_0f7a4 16 = .ok (.iconst 2, 1) := by decide +kernel
theorem dJ6_bitCount_0f7a4_17 : decode cJ6_bitCount_0f7a4 17 = .ok (.iushr, 1) := by decide +kernel
theorem dJ6_bitCount_0f7a4_18 : decode cJ6_bitCount_0f7a4 18 = .ok (.ldc_w 266, 3) := by decide +kernel
theorem dJ6_bitCount_0f7a4_21 : decode cJ6_bitCount_0f7a4 21 = .ok (.iand, 1) := by decide +kernel
theorem dJ6_bitCount_0f7a4_22 : decode cJ6_bitCount_0f7a4 22 = .ok (.iadd, 1) := by decide +kernel
theorem dJ6_bitCount_0f7a4_23 : decode cJ6_bitCount_0f7a4 23 = .ok (.istore_n 0, 1) := by decide +kernel
theorem dJ6_bitCount_0f7a4_24 : decode cJ6_bitCount_0f7a4 24 = .ok (.iload_n 0, 1) := by decide +kernel
theorem dJ6_bitCount_0f7a4_25 : decode cJ6_bitCount_0f7a4 25 = .ok (.iload_n 0, 1) := by decide +kernel
theorem dJ6_bitCount_0f7a4_26 : decode cJ6_bitCount_0f7a4 26 = .ok (.iconst 4, 1) := by decide +kernel
theorem dJ6_bitCount_0f7a4_27 : decode cJ6_bitCount_0f7a4 27 = .ok (.iushr, 1) := by decide +kernel
theorem dJ6_bitCount_0f7a4_28 : decode cJ6_bitCount_0f7a4 28 = .ok (.iadd, 1) := by decide +kernel
theorem dJ6_bitCount_0f7a4_29 : decode cJ6_bitCount_0f7a4 29 = .ok (.ldc_w 267, 3) := by decide +kernel
theorem dJ6_bitCount_0f7a4_32 : decode cJ6_bitCount_0f7a4 32 = .ok (.iand, 1) := by decide +kernel
theorem dJ6_bitCount_0f7a4_33 : decode cJ6_bitCount_0f7a4 33 = .ok (.istore_n 0, 1) := by decide +kernel
theorem dJ6_bitCount_0f7a4_34 : decode cJ6_bitCount_0f7a4 34 = .ok (.iload_n 0, 1) := by decide +kernel
theorem dJ6_bitCount_0f7a4_35 : decode cJ6_bitCount_0f7a4 35 = .ok (.iload_n 0, 1) := by decide +kernel
theorem dJ6_bitCount_0f7a4_36 : decode cJ6_bitCount_0f7a4 36 = .ok (.bipush 8, 2) := by decide +kernel
theorem dJ6_bitCount_0f7a4_38 : decode cJ6_bitCount_0f7a4 38 = .ok (.iushr, 1) := by decide +kernel
theorem dJ6_bitCount_0f7a4_39 : decode cJ6_bitCount_0f7a4 39 = .ok (.iadd, 1) := by decide +kernel
theorem dJ6_bitCount_0f7a4_40 : decode cJ6_bitCount_0f7a4 40 = .ok (.istore_n 0, 1) := by decide +kernel
theorem dJ6_bitCount_0f7a4_41 : decode cJ6_bitCount_0f7a4 41 = .ok (.iload_n 0, 1) := by decide +kernel
theorem dJ6_bitCount_0f7a4_42 : decode cJ6_bitCount_0f7a4 42 = .ok (.iload_n 0, 1) := by decide +kernel
theorem dJ6_bitCount_0f7a4_43 : decode cJ6_bitCount_0f7a4 43 = .ok (.bipush 16, 2) := by decide +kernel
theorem dJ6_bitCount_0f7a4_45 : decode cJ6_bitCount_0f7a4 45 = .ok (.iushr, 1) := by decide +kernel
theorem dJ6_bitCount_0f7a4_46 : decode cJ6_bitCount_0f7a4 46 = .ok (.iadd, 1) := by decide +kernel
theorem dJ6_bitCount_0f7a4_47 : decode cJ6_bitCount_0f7a4 47 = .ok (.istore_n 0, 1) := by decide +kernel
theorem dJ6_bitCount_0f7a4_48 : decode cJ6_bitCount_0f7a4 48 = .ok (.iload_n 0, 1) := by decide +kernel
theorem dJ6_bitCount_0f7a4_49 : decode cJ6_bitCount_0f7a4 49 = .ok (.bipush 63, 2) := by decide +kernel
theorem dJ6_bitCount_0f7a4_51 : decode cJ6_bitCount_0f7a4 51 = .ok (.iand, 1) := by decide +kernel
theorem dJ6_bitCount_0f7a4_52 : decode cJ6_bitCount_0f7a4 52 = .ok (.ireturn, 1) := by decide +kernel
theorem dJ7_fill_53178_0 : decode cJ7_fill_53178 0 = .ok (.iconst 0, 1) := by decide +kernel
theorem dJ7_fill_53178_1 : decode cJ7_fill_53178 1 = .ok (.istore_n 2, 1) := by decide +kernel
theorem dJ7_fill_53178_2 : decode cJ7_fill_53178 2 = .ok (.aload_n 0, 1) := by decide +kernel
theorem dJ7_fill_53178_3 : decode cJ7_fill_53178 3 = .ok (.arraylength, 1) := by decide +kernel
theorem dJ7_fill_53178_4 : decode cJ7_fill_53178 4 = .ok (.istore_n 3, 1) := by decide +kernel
theorem dJ7_fill_53178_5 : decode cJ7_fill_53178 5 = .ok (.iload_n 2, 1) := by decide +kernel
theorem dJ7_fill_53178_6 : decode cJ7_fill_53178 6 = .ok (.iload_n 3, 1) := by decide +kernel
theorem dJ7_fill_53178_7 : decode cJ7_fill_53178 7 = .ok (.if_icmp .ge 13, 3) := by decide +kernel
theorem dJ7_fill_53178_10 : decode cJ7_fill_53178 10 = .ok (.aload_n 0, 1) := by decide +kernel
theorem dJ7_fill_53178_11 : decode cJ7_fill_53178 11 = .ok (.iload_n 2, 1) := by decide +kernel
theorem dJ7_fill_53178_12 : decode cJ7_fill_53178 12 = .ok (.iload_n 1, 1) := by decide +kernel
theorem dJ7_fill_53178_13 : decode cJ7_fill_53178 13 = .ok (.iastore, 1) := by decide +kernel
theorem dJ7_fill_53178_14 : decode cJ7_fill_53178 14 = .ok (.iinc 2 1, 3) := by decide +kernel
theorem dJ7_fill_53178_17 : decode cJ7_fill_53178 17 = .ok (.goto (-12), 3) := by decide +kernel
theorem dJ7_fill_53178_20 : decode cJ7_fill_53178 20 = .ok (.return_, 1) := by decide +kernel
theorem dX0_commit_0 : decode cX0_commit 0 = .ok (.aload_n 0, 1) := by decide +kernel
theorem dX0_commit_1 : decode cX0_commit 1 = .ok (.getfield 20, 3) := by decide +kernel
theorem dX0_commit_4 : decode cX0_commit 4 = .ok (.bipush 12, 2) := by decide +kernel
theorem dX0_commit_6 : decode cX0_commit 6 = .ok (.if_icmp .ge 16, 3) := by decide +kernel
theorem dX0_commit_9 : decode cX0_commit 9 = .ok (.aload_n 0, 1) := by decide +kernel
theorem dX0_commit_10 : decode cX0_commit 10 = .ok (.dup, 1) := by decide +kernel
theorem dX0_commit_11 : decode cX0_commit 11 = .ok (.getfield 20, 3) := by decide +kernel
theorem dX0_commit_14 : decode cX0_commit 14 = .ok (.iconst 1, 1) := by decide +kernel
theorem dX0_commit_15 : decode cX0_commit 15 = .ok (.iadd, 1) := by decide +kernel
theorem dX0_commit_16 : decode cX0_commit 16 = .ok (.putfield 20, 3) := by decide +kernel
theorem dX0_commit_19 : decode cX0_commit 19 = .ok (.goto 16, 3) := by decide +kernel
theorem dX0_commit_35 : decode cX0_commit 35 = .ok (.return_, 1) := by decide +kernel
theorem dX0_slot_0 : decode cX0_slot 0 = .ok (.aload_n 0, 1) := by decide +kernel
theorem dX0_slot_1 : decode cX0_slot 1 = .ok (.getfield 13, 3) := by decide +kernel
theorem dX0_slot_4 : decode cX0_slot 4 = .ok (.aload_n 0, 1) := by decide +kernel
theorem dX0_slot_5 : decode cX0_slot 5 = .ok (.getfield 16, 3) := by decide +kernel
theorem dX0_slot_8 : decode cX0_slot 8 = .ok (.aload_n 0, 1) := by decide +kernel
theorem dX0_slot_9 : decode cX0_slot 9 = .ok (.getfield 20, 3) := by decide +kernel
theorem dX0_slot_12 : decode cX0_slot 12 = .ok (.iadd, 1) := by decide +kernel
theorem dX0_slot_13 : decode cX0_slot 13 = .ok (.bipush 13, 2) := by decide +kernel
theorem dX0_slot_15 : decode cX0_slot 15 = .ok (.irem, 1) := by decide +kernel
theorem dX0_slot_16 : decode cX0_slot 16 = .ok (.aaload, 1) := by decide +kernel
theorem dX0_slot_17 : decode cX0_slot 17 = .ok (.areturn, 1) := by decide +kernel
theorem dX10_copyFrom_0 : decode cX10_copyFrom 0 = .ok (.aload_n 0, 1) := by decide +kernel
theorem dX10_copyFrom_1 : decode cX10_copyFrom 1 = .ok (.aload_n 1, 1) := by decide +kernel
theorem dX10_copyFrom_2 : decode cX10_copyFrom 2 = .ok (.getfield 9, 3) := by decide +kernel
theorem dX10_copyFrom_5 : decode cX10_copyFrom 5 = .ok (.putfield 9, 3) := by decide +kernel
theorem dX10_copyFrom_8 : decode cX10_copyFrom 8 = .ok (.aload_n 0, 1) := by decide +kernel
theorem dX10_copyFrom_9 : decode cX10_copyFrom 9 = .ok (.aload_n 1, 1) := by decide +kernel
theorem dX10_copyFrom_10 : decode cX10_copyFrom 10 = .ok (.getfield 35, 3) := by decide +kernel
theorem dX10_copyFrom_13 : decode cX10_copyFrom 13 = .ok (.putfield 35, 3) := by decide +kernel
theorem dX10_copyFrom_16 : decode cX10_copyFrom 16 = .ok (.aload_n 0, 1) := by decide +kernel
theorem dX10_copyFrom_17 : decode cX10_copyFrom 17 = .ok (.aload_n 1, 1) := by decide +kernel
theorem dX10_copyFrom_18 : decode cX10_copyFrom 18 = .ok (.getfield 39, 3) := by decide +kernel
theorem dX10_copyFrom_21 : decode cX10_copyFrom 21 = .ok (.putfield 39, 3) := by decide +kernel
theorem dX10_copyFrom_24 : decode cX10_copyFrom 24 = .ok (.aload_n 0, 1) := by decide +kernel
theorem dX10_copyFrom_25 : decode cX10_copyFrom 25 = .ok (.getfield 35, 3) := by decide +kernel
theorem dX10_copyFrom_28 : decode cX10_copyFrom 28 = .ok (.ifCond .eq 39, 3) := by decide +kernel
theorem dX10_copyFrom_67 : decode cX10_copyFrom 67 = .ok (.return_, 1) := by decide +kernel
theorem dX10_refresh_0 : decode cX10_refresh 0 = .ok (.aload_n 0, 1) := by decide +kernel
theorem dX10_refresh_1 : decode cX10_refresh 1 = .ok (.getfield 9, 3) := by decide +kernel
theorem dX10_refresh_4 : decode cX10_refresh 4 = .ok (.ifnull 31, 3) := by decide +kernel
theorem dX10_refresh_7 : decode cX10_refresh 7 = .ok (.aload_n 0, 1) := by decide +kernel
theorem dX10_refresh_8 : decode cX10_refresh 8 = .ok (.getfield 35, 3) := by decide +kernel
theorem dX10_refresh_11 : decode cX10_refresh 11 = .ok (.ifCond .eq 25, 3) := by decide +kernel
theorem dX10_refresh_14 : decode cX10_refresh 14 = .ok (.aload_n 0, 1) := by decide +kernel
theorem dX10_refresh_15 : decode cX10_refresh 15 = .ok (.getfield 39, 3) := by decide +kernel
theorem dX10_refresh_18 : decode cX10_refresh 18 = .ok (.aload_n 1, 1) := by decide +kernel
theorem dX10_refresh_19 : decode cX10_refresh 19 = .ok (.getfield 49, 3) := by decide +kernel
theorem dX10_refresh_22 : decode cX10_refresh 22 = .ok (.if_icmp .eq 13, 3) := by decide +kernel
theorem dX10_refresh_25 : decode cX10_refresh 25 = .ok (.aload_n 0, 1) := by decide +kernel
theorem dX10_refresh_26 : decode cX10_refresh 26 = .ok (.getfield 9, 3) := by decide +kernel
theorem dX10_refresh_29 : decode cX10_refresh 29 = .ok (.getfield 54, 3) := by decide +kernel
theorem dX10_refresh_32 : decode cX10_refresh 32 = .ok (.ifCond .ne 4, 3) := by decide +kernel
theorem dX10_refresh_35 : decode cX10_refresh 35 = .ok (.return_, 1) := by decide +kernel
theorem dX10_refresh_36 : decode cX10_refresh 36 = .ok (.aload_n 0, 1) := by decide +kernel
theorem dX10_refresh_37 : decode cX10_refresh 37 = .ok (.getfield 32, 3) := by decide +kernel
theorem dX10_refresh_40 : decode cX10_refresh 40 = .ok (.bipush 8, 2) := by decide +kernel
theorem dX10_refresh_42 : decode cX10_refresh 42 = .ok (.aload_n 1, 1) := by decide +kernel
theorem dX10_refresh_43 : decode cX10_refresh 43 = .ok (.getfield 49, 3) := by decide +kernel
theorem dX10_refresh_46 : decode cX10_refresh 46 = .ok (.iastore, 1) := by decide +kernel
theorem dX10_refresh_47 : decode cX10_refresh 47 = .ok (.iconst 0, 1) := by decide +kernel
theorem dX10_refresh_48 : decode cX10_refresh 48 = .ok (.istore_n 2, 1) := by decide +kernel
theorem dX10_refresh_49 : decode cX10_refresh 49 = .ok (.iload_n 2, 1) := by decide +kernel
theorem dX10_refresh_50 : decode cX10_refresh 50 = .ok (.aload_n 1, 1) := by decide +kernel
theorem dX10_refresh_51 : decode cX10_refresh 51 = .ok (.getfield 57, 3) := by decide +kernel
theorem dX10_refresh_54 : decode cX10_refresh 54 = .ok (.if_icmp .ge 177, 3) := by decide +kernel
theorem dX10_refresh_231 : decode cX10_refresh 231 = .ok (.aload_n 0, 1) := by decide +kernel
theorem dX10_refresh_232 : decode cX10_refresh 232 = .ok (.iconst 1, 1) := by decide +kernel
theorem dX10_refresh_233 : decode cX10_refresh 233 = .ok (.putfield 35, 3) := by decide +kernel
theorem dX10_refresh_236 : decode cX10_refresh 236 = .ok (.aload_n 0, 1) := by decide +kernel
theorem dX10_refresh_237 : decode cX10_refresh 237 = .ok (.aload_n 1, 1) := by decide +kernel
theorem dX10_refresh_238 : decode cX10_refresh 238 = .ok (.getfield 49, 3) := by decide +kernel
theorem dX10_refresh_241 : decode cX10_refresh 241 = .ok (.putfield 39, 3) := by decide +kernel
theorem dX10_refresh_244 : decode cX10_refresh 244 = .ok (.return_, 1) := by decide +kernel
theorem dX10_spoil_0 : decode cX10_spoil 0 = .ok (.aload_n 0, 1) := by decide +kernel
theorem dX10_spoil_1 : decode cX10_spoil 1 = .ok (.iconst 0, 1) := by decide +kernel
theorem dX10_spoil_2 : decode cX10_spoil 2 = .ok (.putfield 35, 3) := by decide +kernel
theorem dX10_spoil_5 : decode cX10_spoil 5 = .ok (.return_, 1) := by decide +kernel
theorem dX11_absent_0 : decode cX11_absent 0 = .ok (.iconst 0, 1) := by decide +kernel
theorem dX11_absent_1 : decode cX11_absent 1 = .ok (.istore_n 1, 1) := by decide +kernel
theorem dX11_absent_2 : decode cX11_absent 2 = .ok (.iconst 0, 1) := by decide +kernel
theorem dX11_absent_3 : decode cX11_absent 3 = .ok (.istore_n 2, 1) := by decide +kernel
theorem dX11_absent_4 : decode cX11_absent 4 = .ok (.iload_n 2, 1) := by decide +kernel
theorem dX11_absent_5 : decode cX11_absent 5 = .ok (.aload_n 0, 1) := by decide +kernel
theorem dX11_absent_6 : decode cX11_absent 6 = .ok (.getfield 26, 3) := by decide +kernel
theorem dX11_absent_9 : decode cX11_absent 9 = .ok (.getfield 312, 3) := by decide +kernel
theorem dX11_absent_12 : decode cX11_absent 12 = .ok (.if_icmp .ge 48, 3) := by decide +kernel
theorem dX11_absent_60 : decode cX11_absent 60 = .ok (.aload_n 0, 1) := by decide +kernel
theorem dX11_absent_61 : decode cX11_absent 61 = .ok (.getfield 30, 3) := by decide +kernel
theorem dX11_absent_64 : decode cX11_absent 64 = .ok (.aload_n 0, 1) := by decide +kernel
theorem dX11_absent_65 : decode cX11_absent 65 = .ok (.getfield 26, 3) := by decide +kernel
theorem dX11_absent_68 : decode cX11_absent 68 = .ok (.invokevirtual 116, 3) := by decide +kernel
theorem dX11_absent_71 : decode cX11_absent 71 = .ok (.aload_n 0, 1) := by decide +kernel
theorem dX11_absent_72 : decode cX11_absent 72 = .ok (.getfield 19, 3) := by decide +kernel
theorem dX11_absent_75 : decode cX11_absent 75 = .ok (.invokevirtual 328, 3) := by decide +kernel
theorem dX11_absent_78 : decode cX11_absent 78 = .ok (.aload_n 0, 1) := by decide +kernel
theorem dX11_absent_79 : decode cX11_absent 79 = .ok (.getfield 19, 3) := by decide +kernel
theorem dX11_absent_82 : decode cX11_absent 82 = .ok (.aload_n 0, 1) := by decide +kernel
theorem dX11_absent_83 : decode cX11_absent 83 = .ok (.getfield 86, 3) := by decide +kernel
theorem dX11_absent_86 : decode cX11_absent 86 = .ok (.aload_n 0, 1) := by decide +kernel
theorem dX11_absent_87 : decode cX11_absent 87 = .ok (.getfield 30, 3) := by decide +kernel
theorem dX11_absent_90 : decode cX11_absent 90 = .ok (.invokevirtual 391, 3) := by decide +kernel
theorem dX11_absent_93 : decode cX11_absent 93 = .ok (.ifCond .eq 7, 3) := by decide +kernel
theorem dX11_absent_96 : decode cX11_absent 96 = .ok (.iconst 1, 1) := by decide +kernel
theorem dX11_absent_97 : decode cX11_absent 97 = .ok (.goto 4, 3) := by decide +kernel
theorem dX11_absent_101 : decode cX11_absent 101 = .ok (.invokevirtual 329, 3) := by decide +kernel
theorem dX11_absent_104 : decode cX11_absent 104 = .ok (.iload_n 1, 1) := by decide +kernel
theorem dX11_absent_105 : decode cX11_absent 105 = .ok (.ireturn, 1) := by decide +kernel
theorem dX11_again_0 : decode cX11_again 0 = .ok (.iload_n 1, 1) := by decide +kernel
theorem dX11_again_1 : decode cX11_again 1 = .ok (.ifCond .lt 24, 3) := by decide +kernel
theorem dX11_again_4 : decode cX11_again 4 = .ok (.iload_n 1, 1) := by decide +kernel
theorem dX11_again_5 : decode cX11_again 5 = .ok (.iconst 2, 1) := by decide +kernel
theorem dX11_again_6 : decode cX11_again 6 = .ok (.if_icmp .ge 19, 3) := by decide +kernel
theorem dX11_again_9 : decode cX11_again 9 = .ok (.aload_n 0, 1) := by decide +kernel
theorem dX11_again_10 : decode cX11_again 10 = .ok (.getfield 69, 3) := by decide +kernel
theorem dX11_again_13 : decode cX11_again 13 = .ok (.iload_n 1, 1) := by decide +kernel
theorem dX11_again_14 : decode cX11_again 14 = .ok (.iaload, 1) := by decide +kernel
theorem dX11_again_15 : decode cX11_again 15 = .ok (.aload_n 0, 1) := by decide +kernel
theorem dX11_again_16 : decode cX11_again 16 = .ok (.getfield 26, 3) := by decide +kernel
theorem dX11_again_19 : decode cX11_again 19 = .ok (.invokevirtual 429, 3) := by decide +kernel
theorem dX11_again_22 : decode cX11_again 22 = .ok (.if_icmp .eq 5, 3) := by decide +kernel
theorem dX11_again_25 : decode cX11_again 25 = .ok (.iconst 0, 1) := by decide +kernel
theorem dX11_again_26 : decode cX11_again 26 = .ok (.ireturn, 1) := by decide +kernel
theorem dX11_aim_0 : decode cX11_aim 0 = .ok (.aload_n 0, 1) := by decide +kernel
theorem dX11_aim_1 : decode cX11_aim 1 = .ok (.getfield 75, 3) := by decide +kernel
theorem dX11_aim_4 : decode cX11_aim 4 = .ok (.aload_n 0, 1) := by decide +kernel
theorem dX11_aim_5 : decode cX11_aim 5 = .ok (.getfield 10, 3) := by decide +kernel
theorem dX11_aim_8 : decode cX11_aim 8 = .ok (.aload_n 0, 1) := by decide +kernel
theorem dX11_aim_9 : decode cX11_aim 9 = .ok (.getfield 26, 3) := by decide +kernel
theorem dX11_aim_12 : decode cX11_aim 12 = .ok (.invokevirtual 366, 3) := by decide +kernel
theorem dX11_aim_15 : decode cX11_aim 15 = .ok (.istore_n 1, 1) := by decide +kernel
theorem dX11_aim_16 : decode cX11_aim 16 = .ok (.aload_n 0, 1) := by decide +kernel
theorem dX11_aim_17 : decode cX11_aim 17 = .ok (.getfield 10, 3) := by decide +kernel
theorem dX11_aim_20 : decode cX11_aim 20 = .ok (.invokevirtual 126, 3) := by decide +kernel
theorem dX11_aim_23 : decode cX11_aim 23 = .ok (.iload_n 1, 1) := by decide +kernel
theorem dX11_aim_24 : decode cX11_aim 24 = .ok (.ireturn, 1) := by decide +kernel
theorem dX11_bears_0 : decode cX11_bears 0 = .ok (.iload_n 1, 1) := by decide +kernel
theorem dX11_bears_1 : decode cX11_bears 1 = .ok (.iconst 1, 1) := by decide +kernel
theorem dX11_bears_2 : decode cX11_bears 2 = .ok (.if_icmp .lt 9, 3) := by decide +kernel
theorem dX11_bears_5 : decode cX11_bears 5 = .ok (.iload_n 1, 1) := by decide +kernel
theorem dX11_bears_6 : decode cX11_bears 6 = .ok (.bipush 60, 2) := by decide +kernel
theorem dX11_bears_8 : decode cX11_bears 8 = .ok (.if_icmp .le 5, 3) := by decide +kernel
theorem dX11_bears_11 : decode cX11_bears 11 = .ok (.iconst (-1), 1) := by decide +kernel
theorem dX11_bears_12 : decode cX11_bears 12 = .ok (.ireturn, 1) := by decide +kernel
theorem dX11_bears_13 : decode cX11_bears 13 = .ok (.bipush 9, 2) := by decide +kernel
theorem dX11_bears_15 : decode cX11_bears 15 = .ok (.istore_n 2, 1) := by decide +kernel
theorem dX11_bears_16 : decode cX11_bears 16 = .ok (.iload_n 2, 1) := by decide +kernel
theorem dX11_bears_17 : decode cX11_bears 17 = .ok (.ifCond .lt 66, 3) := by decide +kernel
theorem dX11_bears_20 : decode cX11_bears 20 = .ok (.aload_n 0, 1) := by decide +kernel
theorem dX11_bears_21 : decode cX11_bears 21 = .ok (.getfield 30, 3) := by decide +kernel
theorem dX11_bears_24 : decode cX11_bears 24 = .ok (.aload_n 0, 1) := by decide +kernel
theorem dX11_bears_25 : decode cX11_bears 25 = .ok (.getfield 26, 3) := by decide +kernel
theorem dX11_bears_28 : decode cX11_bears 28 = .ok (.invokevirtual 116, 3) := by decide +kernel
theorem dX11_bears_31 : decode cX11_bears 31 = .ok (.aload_n 0, 1) := by decide +kernel
theorem dX11_bears_32 : decode cX11_bears 32 = .ok (.getfield 47, 3) := by decide +kernel
theorem dX11_bears_35 : decode cX11_bears 35 = .ok (.iconst 0, 1) := by decide +kernel
theorem dX11_bears_36 : decode cX11_bears 36 = .ok (.iload_n 2, 1) := by decide +kernel
theorem dX11_bears_37 : decode cX11_bears 37 = .ok (.iastore, 1) := by decide +kernel
theorem dX11_bears_38 : decode cX11_bears 38 = .ok (.aload_n 0, 1) := by decide +kernel
theorem dX11_bears_39 : decode cX11_bears 39 = .ok (.getfield 30, 3) := by decide +kernel
theorem dX11_bears_42 : decode cX11_bears 42 = .ok (.aload_n 0, 1) := by decide +kernel
theorem dX11_bears_43 : decode cX11_bears 43 = .ok (.getfield 47, 3) := by decide +kernel
theorem dX11_bears_46 : decode cX11_bears 46 = .ok (.putfield 93, 3) := by decide +kernel
theorem dX11_bears_49 : decode cX11_bears 49 = .ok (.aload_n 0, 1) := by decide +kernel
theorem dX11_bears_50 : decode cX11_bears 50 = .ok (.getfield 30, 3) := by decide +kernel
theorem dX11_bears_53 : decode cX11_bears 53 = .ok (.iconst 1, 1) := by decide +kernel
theorem dX11_bears_54 : decode cX11_bears 54 = .ok (.putfield 149, 3) := by decide +kernel
theorem dX11_bears_57 : decode cX11_bears 57 = .ok (.aload_n 0, 1) := by decide +kernel
theorem dX11_bears_58 : decode cX11_bears 58 = .ok (.getfield 30, 3) := by decide +kernel
theorem dX11_bears_61 : decode cX11_bears 61 = .ok (.iload_n 1, 1) := by decide +kernel
theorem dX11_bears_62 : decode cX11_bears 62 = .ok (.invokevirtual 259, 3) := by decide +kernel
theorem dX11_bears_65 : decode cX11_bears 65 = .ok (.aload_n 0, 1) := by decide +kernel
theorem dX11_bears_66 : decode cX11_bears 66 = .ok (.getfield 30, 3) := by decide +kernel
theorem dX11_bears_69 : decode cX11_bears 69 = .ok (.invokevirtual 263, 3) := by decide +kernel
theorem dX11_bears_72 : decode cX11_bears 72 = .ok (.ifCond .ne 5, 3) := by decide +kernel
theorem dX11_bears_75 : decode cX11_bears 75 = .ok (.iload_n 2, 1) := by decide +kernel
theorem dX11_bears_76 : decode cX11_bears 76 = .ok (.ireturn, 1) := by decide +kernel
theorem dX11_bestWheel_0 : decode cX11_bestWheel 0 = .ok (.iconst (-1), 1) := by decide +kernel
theorem dX11_bestWheel_1 : decode cX11_bestWheel 1 = .ok (.istore 4, 2) := by decide +kernel
theorem dX11_bestWheel_3 : decode cX11_bestWheel 3 = .ok (.iconst (-1), 1) := by decide +kernel
theorem dX11_bestWheel_4 : decode cX11_bestWheel 4 = .ok (.istore 5, 2) := by decide +kernel
theorem dX11_bestWheel_6 : decode cX11_bestWheel 6 = .ok (.iconst 0, 1) := by decide +kernel
theorem dX11_bestWheel_7 : decode cX11_bestWheel 7 = .ok (.istore 6, 2) := by decide +kernel
theorem dX11_bestWheel_9 : decode cX11_bestWheel 9 = .ok (.iload 6, 2) := by decide +kernel
theorem dX11_bestWheel_11 : decode cX11_bestWheel 11 = .ok (.aload_n 1, 1) := by decide +kernel
theorem dX11_bestWheel_12 : decode cX11_bestWheel 12 = .ok (.getfield 238, 3) := by decide +kernel
theorem dX11_bestWheel_15 : decode cX11_bestWheel 15 = .ok (.if_icmp .ge 46, 3) := by decide +kernel
theorem dX11_bestWheel_61 : decode cX11_bestWheel 61 = .ok (.iload 4, 2) := by decide +kernel
theorem dX11_bestWheel_63 : decode cX11_bestWheel 63 = .ok (.ireturn, 1) := by decide +kernel
theorem dX11_build_0 : decode cX11_build 0 = .ok (.aload_n 0, 1) := by decide +kernel
theorem dX11_build_1 : decode cX11_build 1 = .ok (.getfield 26, 3) := by decide +kernel
theorem dX11_build_4 : decode cX11_build 4 = .ok (.iload_n 1, 1) := by decide +kernel
theorem dX11_build_5 : decode cX11_build 5 = .ok (.invokevirtual 152, 3) := by decide +kernel
theorem dX11_build_8 : decode cX11_build 8 = .ok (.ifCond .eq 24, 3) := by decide +kernel
theorem dX11_build_32 : decode cX11_build 32 = .ok (.iconst (-1), 1) := by decide +kernel
theorem dX11_build_33 : decode cX11_build 33 = .ok (.ireturn, 1) := by decide +kernel
theorem dX11_calm_0 : decode cX11_calm 0 = .ok (.aload_n 0, 1) := by decide +kernel
theorem dX11_calm_1 : decode cX11_calm 1 = .ok (.getfield 30, 3) := by decide +kernel
theorem dX11_calm_4 : decode cX11_calm 4 = .ok (.aload_n 0, 1) := by decide +kernel
theorem dX11_calm_5 : decode cX11_calm 5 = .ok (.getfield 26, 3) := by decide +kernel
theorem dX11_calm_8 : decode cX11_calm 8 = .ok (.invokevirtual 116, 3) := by decide +kernel
theorem dX11_calm_11 : decode cX11_calm 11 = .ok (.iconst 0, 1) := by decide +kernel
theorem dX11_calm_12 : decode cX11_calm 12 = .ok (.istore_n 1, 1) := by decide +kernel
theorem dX11_calm_13 : decode cX11_calm 13 = .ok (.iload_n 1, 1) := by decide +kernel
theorem dX11_calm_14 : decode cX11_calm 14 = .ok (.bipush 60, 2) := by decide +kernel
theorem dX11_calm_16 : decode cX11_calm 16 = .ok (.if_icmp .gt 50, 3) := by decide +kernel
theorem dX11_calm_19 : decode cX11_calm 19 = .ok (.aload_n 0, 1) := by decide +kernel
theorem dX11_calm_20 : decode cX11_calm 20 = .ok (.getfield 30, 3) := by decide +kernel
theorem dX11_calm_23 : decode cX11_calm 23 = .ok (.iconst 1, 1) := by decide +kernel
theorem dX11_calm_24 : decode cX11_calm 24 = .ok (.invokevirtual 259, 3) := by decide +kernel
theorem dX11_calm_27 : decode cX11_calm 27 = .ok (.aload_n 0, 1) := by decide +kernel
theorem dX11_calm_28 : decode cX11_calm 28 = .ok (.getfield 30, 3) := by decide +kernel
theorem dX11_calm_31 : decode cX11_calm 31 = .ok (.invokevirtual 269, 3) := by decide +kernel
theorem dX11_calm_34 : decode cX11_calm 34 = .ok (.ifCond .ne 26, 3) := by decide +kernel
theorem dX11_calm_37 : decode cX11_calm 37 = .ok (.aload_n 0, 1) := by decide +kernel
theorem dX11_calm_38 : decode cX11_calm 38 = .ok (.getfield 19, 3) := by decide +kernel
theorem dX11_calm_41 : decode cX11_calm 41 = .ok (.aload_n 0, 1) := by decide +kernel
theorem dX11_calm_42 : decode cX11_calm 42 = .ok (.getfield 30, 3) := by decide +kernel
theorem dX11_calm_45 : decode cX11_calm 45 = .ok (.getfield 186, 3) := by decide +kernel
theorem dX11_calm_48 : decode cX11_calm 48 = .ok (.aload_n 0, 1) := by decide +kernel
theorem dX11_calm_49 : decode cX11_calm 49 = .ok (.getfield 30, 3) := by decide +kernel
theorem dX11_calm_52 : decode cX11_calm 52 = .ok (.getfield 312, 3) := by decide +kernel
theorem dX11_calm_55 : decode cX11_calm 55 = .ok (.invokevirtual 315, 3) := by decide +kernel
theorem dX11_calm_58 : decode cX11_calm 58 = .ok (.iload_n 1, 1) := by decide +kernel
theorem dX11_calm_59 : decode cX11_calm 59 = .ok (.ireturn, 1) := by decide +kernel
theorem dX11_chance_0 : decode cX11_chance 0 = .ok (.aload_n 0, 1) := by decide +kernel
theorem dX11_chance_1 : decode cX11_chance 1 = .ok (.getfield 26, 3) := by decide +kernel
theorem dX11_chance_4 : decode cX11_chance 4 = .ok (.iload_n 1, 1) := by decide +kernel
theorem dX11_chance_5 : decode cX11_chance 5 = .ok (.invokevirtual 152, 3) := by decide +kernel
theorem dX11_chance_8 : decode cX11_chance 8 = .ok (.ifCond .eq 23, 3) := by decide +kernel
theorem dX11_chance_31 : decode cX11_chance 31 = .ok (.iconst (-1), 1) := by decide +kernel
theorem dX11_chance_32 : decode cX11_chance 32 = .ok (.ireturn, 1) := by decide +kernel
theorem dX11_choose_0 : decode cX11_choose 0 = .ok (.aload_n 0, 1) := by decide +kernel
theorem dX11_choose_1 : decode cX11_choose 1 = .ok (.getfield 26, 3) := by decide +kernel
theorem dX11_choose_4 : decode cX11_choose 4 = .ok (.iload_n 1, 1) := by decide +kernel
theorem dX11_choose_5 : decode cX11_choose 5 = .ok (.invokevirtual 200, 3) := by decide +kernel
theorem dX11_choose_8 : decode cX11_choose 8 = .ok (.ifCond .eq 14, 3) := by decide +kernel
theorem dX11_choose_22 : decode cX11_choose 22 = .ok (.iconst (-1), 1) := by decide +kernel
theorem dX11_choose_23 : decode cX11_choose 23 = .ok (.ireturn, 1) := by decide +kernel
theorem dX11_count_0 : decode cX11_count 0 = .ok (.iload_n 1, 1) := by decide +kernel
theorem dX11_count_1 : decode cX11_count 1 = .ok (.tableswitch 159 0 11 #[63, 71, 79, 87, 95, 103, 111, 119, 127, 135, 143, 151], 63) := by decide +kernel
theorem dX11_count_64 : decode cX11_count 64 = .ok (.aload_n 0, 1) := by decide +kernel
theorem dX11_count_65 : decode cX11_count 65 = .ok (.getfield 26, 3) := by decide +kernel
theorem dX11_count_68 : decode cX11_count 68 = .ok (.getfield 238, 3) := by decide +kernel
theorem dX11_count_71 : decode cX11_count 71 = .ok (.ireturn, 1) := by decide +kernel
theorem dX11_count_72 : decode cX11_count 72 = .ok (.aload_n 0, 1) := by decide +kernel
theorem dX11_count_73 : decode cX11_count 73 = .ok (.getfield 26, 3) := by decide +kernel
theorem dX11_count_76 : decode cX11_count 76 = .ok (.getfield 312, 3) := by decide +kernel
theorem dX11_count_79 : decode cX11_count 79 = .ok (.ireturn, 1) := by decide +kernel
theorem dX11_count_80 : decode cX11_count 80 = .ok (.aload_n 0, 1) := by decide +kernel
theorem dX11_count_81 : decode cX11_count 81 = .ok (.getfield 26, 3) := by decide +kernel
theorem dX11_count_84 : decode cX11_count 84 = .ok (.getfield 423, 3) := by decide +kernel
theorem dX11_count_87 : decode cX11_count 87 = .ok (.ireturn, 1) := by decide +kernel
theorem dX11_count_88 : decode cX11_count 88 = .ok (.aload_n 0, 1) := by decide +kernel
theorem dX11_count_89 : decode cX11_count 89 = .ok (.getfield 26, 3) := by decide +kernel
theorem dX11_count_92 : decode cX11_count 92 = .ok (.getfield 394, 3) := by decide +kernel
theorem dX11_count_95 : decode cX11_count 95 = .ok (.ireturn, 1) := by decide +kernel
theorem dX11_count_96 : decode cX11_count 96 = .ok (.aload_n 0, 1) := by decide +kernel
theorem dX11_count_97 : decode cX11_count 97 = .ok (.getfield 26, 3) := by decide +kernel
theorem dX11_count_100 : decode cX11_count 100 = .ok (.invokevirtual 432, 3) := by decide +kernel
theorem dX11_count_103 : decode cX11_count 103 = .ok (.ireturn, 1) := by decide +kernel
theorem dX11_count_104 : decode cX11_count 104 = .ok (.aload_n 0, 1) := by decide +kernel
theorem dX11_count_105 : decode cX11_count 105 = .ok (.getfield 26, 3) := by decide +kernel
theorem dX11_count_108 : decode cX11_count 108 = .ok (.invokevirtual 435, 3) := by decide +kernel
theorem dX11_count_111 : decode cX11_count 111 = .ok (.ireturn, 1) := by decide +kernel
theorem dX11_count_112 : decode cX11_count 112 = .ok (.aload_n 0, 1) := by decide +kernel
theorem dX11_count_113 : decode cX11_count 113 = .ok (.getfield 26, 3) := by decide +kernel
theorem dX11_count_116 : decode cX11_count 116 = .ok (.invokevirtual 255, 3) := by decide +kernel
theorem dX11_count_119 : decode cX11_count 119 = .ok (.ireturn, 1) := by decide +kernel
theorem dX11_count_120 : decode cX11_count 120 = .ok (.aload_n 0, 1) := by decide +kernel
theorem dX11_count_121 : decode cX11_count 121 = .ok (.getfield 26, 3) := by decide +kernel
theorem dX11_count_124 : decode cX11_count 124 = .ok (.invokevirtual 438, 3) := by decide +kernel
theorem dX11_count_127 : decode cX11_count 127 = .ok (.ireturn, 1) := by decide +kernel
theorem dX11_count_128 : decode cX11_count 128 = .ok (.aload_n 0, 1) := by decide +kernel
theorem dX11_count_129 : decode cX11_count 129 = .ok (.getfield 60, 3) := by decide +kernel
theorem dX11_count_132 : decode cX11_count 132 = .ok (.getfield 304, 3) := by decide +kernel
theorem dX11_count_135 : decode cX11_count 135 = .ok (.ireturn, 1) := by decide +kernel
theorem dX11_count_136 : decode cX11_count 136 = .ok (.aload_n 0, 1) := by decide +kernel
theorem dX11_count_137 : decode cX11_count 137 = .ok (.getfield 86, 3) := by decide +kernel
theorem dX11_count_140 : decode cX11_count 140 = .ok (.getfield 390, 3) := by decide +kernel
theorem dX11_count_143 : decode cX11_count 143 = .ok (.ireturn, 1) := by decide +kernel
theorem dX11_count_144 : decode cX11_count 144 = .ok (.aload_n 0, 1) := by decide +kernel
theorem dX11_count_145 : decode cX11_count 145 = .ok (.getfield 19, 3) := by decide +kernel
theorem dX11_count_148 : decode cX11_count 148 = .ok (.getfield 441, 3) := by decide +kernel
theorem dX11_count_151 : decode cX11_count 151 = .ok (.ireturn, 1) := by decide +kernel
theorem dX11_count_152 : decode cX11_count 152 = .ok (.aload_n 0, 1) := by decide +kernel
theorem dX11_count_153 : decode cX11_count 153 = .ok (.getfield 10, 3) := by decide +kernel
theorem dX11_count_156 : decode cX11_count 156 = .ok (.getfield 109, 3) := by decide +kernel
theorem dX11_count_159 : decode cX11_count 159 = .ok (.ireturn, 1) := by decide +kernel
theorem dX11_count_160 : decode cX11_count 160 = .ok (.iconst (-1), 1) := by decide +kernel
theorem dX11_count_161 : decode cX11_count 161 = .ok (.ireturn, 1) := by decide +kernel
theorem dX11_courts_0 : decode cX11_courts 0 = .ok (.iload_n 1, 1) := by decide +kernel
theorem dX11_courts_1 : decode cX11_courts 1 = .ok (.iconst 1, 1) := by decide +kernel
theorem dX11_courts_2 : decode cX11_courts 2 = .ok (.if_icmp .lt 19, 3) := by decide +kernel
theorem dX11_courts_5 : decode cX11_courts 5 = .ok (.iload_n 1, 1) := by decide +kernel
theorem dX11_courts_6 : decode cX11_courts 6 = .ok (.bipush 20, 2) := by decide +kernel
theorem dX11_courts_8 : decode cX11_courts 8 = .ok (.if_icmp .gt 13, 3) := by decide +kernel
theorem dX11_courts_11 : decode cX11_courts 11 = .ok (.iload_n 2, 1) := by decide +kernel
theorem dX11_courts_12 : decode cX11_courts 12 = .ok (.ifCond .lt 9, 3) := by decide +kernel
theorem dX11_courts_15 : decode cX11_courts 15 = .ok (.iload_n 2, 1) := by decide +kernel
theorem dX11_courts_16 : decode cX11_courts 16 = .ok (.bipush 12, 2) := by decide +kernel
theorem dX11_courts_18 : decode cX11_courts 18 = .ok (.if_icmp .le 5, 3) := by decide +kernel
theorem dX11_courts_21 : decode cX11_courts 21 = .ok (.iconst (-1), 1) := by decide +kernel
theorem dX11_courts_22 : decode cX11_courts 22 = .ok (.ireturn, 1) := by decide +kernel
theorem dX11_courts_23 : decode cX11_courts 23 = .ok (.aload_n 0, 1) := by decide +kernel
theorem dX11_courts_24 : decode cX11_courts 24 = .ok (.getfield 33, 3) := by decide +kernel
theorem dX11_courts_27 : decode cX11_courts 27 = .ok (.aload_n 0, 1) := by decide +kernel
theorem dX11_courts_28 : decode cX11_courts 28 = .ok (.getfield 26, 3) := by decide +kernel
theorem dX11_courts_31 : decode cX11_courts 31 = .ok (.invokevirtual 116, 3) := by decide +kernel
theorem dX11_courts_34 : decode cX11_courts 34 = .ok (.iconst 0, 1) := by decide +kernel
theorem dX11_courts_35 : decode cX11_courts 35 = .ok (.istore_n 3, 1) := by decide +kernel
theorem dX11_courts_36 : decode cX11_courts 36 = .ok (.iconst 0, 1) := by decide +kernel
theorem dX11_courts_37 : decode cX11_courts 37 = .ok (.istore 4, 2) := by decide +kernel
theorem dX11_courts_39 : decode cX11_courts 39 = .ok (.iload_n 3, 1) := by decide +kernel
theorem dX11_courts_40 : decode cX11_courts 40 = .ok (.iload_n 2, 1) := by decide +kernel
theorem dX11_courts_41 : decode cX11_courts 41 = .ok (.if_icmp .ge 94, 3) := by decide +kernel
theorem dX11_courts_44 : decode cX11_courts 44 = .ok (.iload 4, 2) := by decide +kernel
theorem dX11_courts_46 : decode cX11_courts 46 = .ok (.ifCond .ne 89, 3) := by decide +kernel
theorem dX11_courts_49 : decode cX11_courts 49 = .ok (.iinc 3 1, 3) := by decide +kernel
theorem dX11_courts_52 : decode cX11_courts 52 = .ok (.iconst 1, 1) := by decide +kernel
theorem dX11_courts_53 : decode cX11_courts 53 = .ok (.istore 4, 2) := by decide +kernel
theorem dX11_courts_55 : decode cX11_courts 55 = .ok (.iconst 0, 1) := by decide +kernel
theorem dX11_courts_56 : decode cX11_courts 56 = .ok (.istore 5, 2) := by decide +kernel
theorem dX11_courts_58 : decode cX11_courts 58 = .ok (.iload 5, 2) := by decide +kernel
theorem dX11_courts_60 : decode cX11_courts 60 = .ok (.iconst 4, 1) := by decide +kernel
theorem dX11_courts_61 : decode cX11_courts 61 = .ok (.if_icmp .ge 71, 3) := by decide +kernel
theorem dX11_courts_64 : decode cX11_courts 64 = .ok (.aload_n 0, 1) := by decide +kernel
theorem dX11_courts_65 : decode cX11_courts 65 = .ok (.aload_n 0, 1) := by decide +kernel
theorem dX11_courts_66 : decode cX11_courts 66 = .ok (.getfield 33, 3) := by decide +kernel
theorem dX11_courts_69 : decode cX11_courts 69 = .ok (.iload 5, 2) := by decide +kernel
theorem dX11_courts_71 : decode cX11_courts 71 = .ok (.iload_n 1, 1) := by decide +kernel
theorem dX11_courts_72 : decode cX11_courts 72 = .ok (.invokevirtual 348, 3) := by decide +kernel
theorem dX11_courts_75 : decode cX11_courts 75 = .ok (.istore 6, 2) := by decide +kernel
theorem dX11_courts_77 : decode cX11_courts 77 = .ok (.iload 6, 2) := by decide +kernel
theorem dX11_courts_79 : decode cX11_courts 79 = .ok (.iconst (-1), 1) := by decide +kernel
theorem dX11_courts_80 : decode cX11_courts 80 = .ok (.if_icmp .eq 46, 3) := by decide +kernel
theorem dX11_courts_126 : decode cX11_courts 126 = .ok (.iinc 5 1, 3) := by decide +kernel
theorem dX11_courts_129 : decode cX11_courts 129 = .ok (.goto (-71), 3) := by decide +kernel
theorem dX11_courts_132 : decode cX11_courts 132 = .ok (.goto (-93), 3) := by decide +kernel
theorem dX11_courts_135 : decode cX11_courts 135 = .ok (.aload_n 0, 1) := by decide +kernel
theorem dX11_courts_136 : decode cX11_courts 136 = .ok (.getfield 19, 3) := by decide +kernel
theorem dX11_courts_139 : decode cX11_courts 139 = .ok (.iload 4, 2) := by decide +kernel
theorem dX11_courts_141 : decode cX11_courts 141 = .ok (.ifCond .eq 7, 3) := by decide +kernel
theorem dX11_courts_144 : decode cX11_courts 144 = .ok (.iconst 1, 1) := by decide +kernel
theorem dX11_courts_145 : decode cX11_courts 145 = .ok (.goto 4, 3) := by decide +kernel
theorem dX11_courts_148 : decode cX11_courts 148 = .ok (.iconst 0, 1) := by decide +kernel
theorem dX11_courts_149 : decode cX11_courts 149 = .ok (.aload_n 0, 1) := by decide +kernel
theorem dX11_courts_150 : decode cX11_courts 150 = .ok (.getfield 33, 3) := by decide +kernel
theorem dX11_courts_153 : decode cX11_courts 153 = .ok (.invokevirtual 359, 3) := by decide +kernel
theorem dX11_courts_156 : decode cX11_courts 156 = .ok (.invokevirtual 266, 3) := by decide +kernel
theorem dX11_courts_159 : decode cX11_courts 159 = .ok (.iload_n 3, 1) := by decide +kernel
theorem dX11_courts_160 : decode cX11_courts 160 = .ok (.ireturn, 1) := by decide +kernel
theorem dX11_day_0 : decode cX11_day 0 = .ok (.aload_n 0, 1) := by decide +kernel
theorem dX11_day_1 : decode cX11_day 1 = .ok (.getfield 26, 3) := by decide +kernel
theorem dX11_day_4 : decode cX11_day 4 = .ok (.aload_n 0, 1) := by decide +kernel
theorem dX11_day_5 : decode cX11_day 5 = .ok (.getfield 60, 3) := by decide +kernel
theorem dX11_day_8 : decode cX11_day 8 = .ok (.invokevirtual 244, 3) := by decide +kernel
theorem dX11_day_11 : decode cX11_day 11 = .ok (.iconst 0, 1) := by decide +kernel
theorem dX11_day_12 : decode cX11_day 12 = .ok (.invokevirtual 248, 3) := by decide +kernel
theorem dX11_day_15 : decode cX11_day 15 = .ok (.aload_n 0, 1) := by decide +kernel
theorem dX11_day_16 : decode cX11_day 16 = .ok (.getfield 60, 3) := by decide +kernel
theorem dX11_day_19 : decode cX11_day 19 = .ok (.invokevirtual 252, 3) := by decide +kernel
theorem dX11_day_22 : decode cX11_day 22 = .ok (.aload_n 0, 1) := by decide +kernel
theorem dX11_day_23 : decode cX11_day 23 = .ok (.getfield 26, 3) := by decide +kernel
theorem dX11_day_26 : decode cX11_day 26 = .ok (.invokevirtual 255, 3) := by decide +kernel
theorem dX11_day_29 : decode cX11_day 29 = .ok (.istore_n 1, 1) := by decide +kernel
theorem dX11_day_30 : decode cX11_day 30 = .ok (.aload_n 0, 1) := by decide +kernel
theorem dX11_day_31 : decode cX11_day 31 = .ok (.getfield 26, 3) := by decide +kernel
theorem dX11_day_34 : decode cX11_day 34 = .ok (.iconst 1, 1) := by decide +kernel
theorem dX11_day_35 : decode cX11_day 35 = .ok (.invokevirtual 259, 3) := by decide +kernel
theorem dX11_day_38 : decode cX11_day 38 = .ok (.aload_n 0, 1) := by decide +kernel
theorem dX11_day_39 : decode cX11_day 39 = .ok (.getfield 19, 3) := by decide +kernel
theorem dX11_day_42 : decode cX11_day 42 = .ok (.aload_n 0, 1) := by decide +kernel
theorem dX11_day_43 : decode cX11_day 43 = .ok (.getfield 26, 3) := by decide +kernel
theorem dX11_day_46 : decode cX11_day 46 = .ok (.invokevirtual 255, 3) := by decide +kernel
theorem dX11_day_49 : decode cX11_day 49 = .ok (.iload_n 1, 1) := by decide +kernel
theorem dX11_day_50 : decode cX11_day 50 = .ok (.isub, 1) := by decide +kernel
theorem dX11_day_51 : decode cX11_day 51 = .ok (.aload_n 0, 1) := by decide +kernel
theorem dX11_day_52 : decode cX11_day 52 = .ok (.getfield 26, 3) := by decide +kernel
theorem dX11_day_55 : decode cX11_day 55 = .ok (.invokevirtual 263, 3) := by decide +kernel
theorem dX11_day_58 : decode cX11_day 58 = .ok (.invokevirtual 266, 3) := by decide +kernel
theorem dX11_day_61 : decode cX11_day 61 = .ok (.aload_n 0, 1) := by decide +kernel
theorem dX11_day_62 : decode cX11_day 62 = .ok (.getfield 26, 3) := by decide +kernel
theorem dX11_day_65 : decode cX11_day 65 = .ok (.invokevirtual 269, 3) := by decide +kernel
theorem dX11_day_68 : decode cX11_day 68 = .ok (.ireturn, 1) := by decide +kernel
theorem dX11_days_0 : decode cX11_days 0 = .ok (.iload_n 1, 1) := by decide +kernel
theorem dX11_days_1 : decode cX11_days 1 = .ok (.ifCond .lt 9, 3) := by decide +kernel
theorem dX11_days_4 : decode cX11_days 4 = .ok (.iload_n 1, 1) := by decide +kernel
theorem dX11_days_5 : decode cX11_days 5 = .ok (.bipush 60, 2) := by decide +kernel
theorem dX11_days_7 : decode cX11_days 7 = .ok (.if_icmp .le 5, 3) := by decide +kernel
theorem dX11_days_10 : decode cX11_days 10 = .ok (.iconst (-1), 1) := by decide +kernel
theorem dX11_days_11 : decode cX11_days 11 = .ok (.ireturn, 1) := by decide +kernel
theorem dX11_days_12 : decode cX11_days 12 = .ok (.iload_n 1, 1) := by decide +kernel
theorem dX11_days_13 : decode cX11_days 13 = .ok (.ifCond .le 25, 3) := by decide +kernel
theorem dX11_days_16 : decode cX11_days 16 = .ok (.aload_n 0, 1) := by decide +kernel
theorem dX11_days_17 : decode cX11_days 17 = .ok (.getfield 26, 3) := by decide +kernel
theorem dX11_days_20 : decode cX11_days 20 = .ok (.aload_n 0, 1) := by decide +kernel
theorem dX11_days_21 : decode cX11_days 21 = .ok (.getfield 60, 3) := by decide +kernel
theorem dX11_days_24 : decode cX11_days 24 = .ok (.invokevirtual 244, 3) := by decide +kernel
theorem dX11_days_27 : decode cX11_days 27 = .ok (.iconst 0, 1) := by decide +kernel
theorem dX11_days_28 : decode cX11_days 28 = .ok (.invokevirtual 248, 3) := by decide +kernel
theorem dX11_days_31 : decode cX11_days 31 = .ok (.aload_n 0, 1) := by decide +kernel
theorem dX11_days_32 : decode cX11_days 32 = .ok (.getfield 60, 3) := by decide +kernel
theorem dX11_days_35 : decode cX11_days 35 = .ok (.invokevirtual 252, 3) := by decide +kernel
theorem dX11_days_38 : decode cX11_days 38 = .ok (.aload_n 0, 1) := by decide +kernel
theorem dX11_days_39 : decode cX11_days 39 = .ok (.getfield 26, 3) := by decide +kernel
theorem dX11_days_42 : decode cX11_days 42 = .ok (.invokevirtual 255, 3) := by decide +kernel
theorem dX11_days_45 : decode cX11_days 45 = .ok (.istore_n 2, 1) := by decide +kernel
theorem dX11_days_46 : decode cX11_days 46 = .ok (.aload_n 0, 1) := by decide +kernel
theorem dX11_days_47 : decode cX11_days 47 = .ok (.getfield 26, 3) := by decide +kernel
theorem dX11_days_50 : decode cX11_days 50 = .ok (.invokevirtual 272, 3) := by decide +kernel
theorem dX11_days_53 : decode cX11_days 53 = .ok (.aload_n 0, 1) := by decide +kernel
theorem dX11_days_54 : decode cX11_days 54 = .ok (.getfield 26, 3) := by decide +kernel
theorem dX11_days_57 : decode cX11_days 57 = .ok (.iload_n 1, 1) := by decide +kernel
theorem dX11_days_58 : decode cX11_days 58 = .ok (.invokevirtual 259, 3) := by decide +kernel
theorem dX11_days_61 : decode cX11_days 61 = .ok (.aload_n 0, 1) := by decide +kernel
theorem dX11_days_62 : decode cX11_days 62 = .ok (.getfield 19, 3) := by decide +kernel
theorem dX11_days_65 : decode cX11_days 65 = .ok (.aload_n 0, 1) := by decide +kernel
theorem dX11_days_66 : decode cX11_days 66 = .ok (.getfield 26, 3) := by decide +kernel
theorem dX11_days_69 : decode cX11_days 69 = .ok (.invokevirtual 275, 3) := by decide +kernel
theorem dX11_days_72 : decode cX11_days 72 = .ok (.aload_n 0, 1) := by decide +kernel
theorem dX11_days_73 : decode cX11_days 73 = .ok (.getfield 26, 3) := by decide +kernel
theorem dX11_days_76 : decode cX11_days 76 = .ok (.invokevirtual 263, 3) := by decide +kernel
theorem dX11_days_79 : decode cX11_days 79 = .ok (.invokevirtual 266, 3) := by decide +kernel
theorem dX11_days_82 : decode cX11_days 82 = .ok (.aload_n 0, 1) := by decide +kernel
theorem dX11_days_83 : decode cX11_days 83 = .ok (.getfield 26, 3) := by decide +kernel
theorem dX11_days_86 : decode cX11_days 86 = .ok (.invokevirtual 255, 3) := by decide +kernel
theorem dX11_days_89 : decode cX11_days 89 = .ok (.iload_n 2, 1) := by decide +kernel
theorem dX11_days_90 : decode cX11_days 90 = .ok (.isub, 1) := by decide +kernel
theorem dX11_days_91 : decode cX11_days 91 = .ok (.ireturn, 1) := by decide +kernel
theorem dX11_drive_0 : decode cX11_drive 0 = .ok (.aload_n 0, 1) := by decide +kernel
theorem dX11_drive_1 : decode cX11_drive 1 = .ok (.getfield 26, 3) := by decide +kernel
theorem dX11_drive_4 : decode cX11_drive 4 = .ok (.iload_n 1, 1) := by decide +kernel
theorem dX11_drive_5 : decode cX11_drive 5 = .ok (.invokevirtual 175, 3) := by decide +kernel
theorem dX11_drive_8 : decode cX11_drive 8 = .ok (.ifCond .eq 14, 3) := by decide +kernel
theorem dX11_drive_22 : decode cX11_drive 22 = .ok (.iconst (-1), 1) := by decide +kernel
theorem dX11_drive_23 : decode cX11_drive 23 = .ok (.ireturn, 1) := by decide +kernel
theorem dX11_end_0 : decode cX11_end 0 = .ok (.aload_n 0, 1) := by decide +kernel
theorem dX11_end_1 : decode cX11_end 1 = .ok (.getfield 10, 3) := by decide +kernel
theorem dX11_end_4 : decode cX11_end 4 = .ok (.iload_n 1, 1) := by decide +kernel
theorem dX11_end_5 : decode cX11_end 5 = .ok (.invokevirtual 113, 3) := by decide +kernel
theorem dX11_end_8 : decode cX11_end 8 = .ok (.ireturn, 1) := by decide +kernel
theorem dX11_fewest_0 : decode cX11_fewest 0 = .ok (.aload_n 0, 1) := by decide +kernel
theorem dX11_fewest_1 : decode cX11_fewest 1 = .ok (.getfield 75, 3) := by decide +kernel
theorem dX11_fewest_4 : decode cX11_fewest 4 = .ok (.aload_n 0, 1) := by decide +kernel
theorem dX11_fewest_5 : decode cX11_fewest 5 = .ok (.getfield 26, 3) := by decide +kernel
theorem dX11_fewest_8 : decode cX11_fewest 8 = .ok (.invokevirtual 369, 3) := by decide +kernel
theorem dX11_fewest_11 : decode cX11_fewest 11 = .ok (.ifCond .eq 21, 3) := by decide +kernel
theorem dX11_fewest_32 : decode cX11_fewest 32 = .ok (.bipush (-4), 2) := by decide +kernel
theorem dX11_fewest_34 : decode cX11_fewest 34 = .ok (.ireturn, 1) := by decide +kernel
theorem dX11_forget_0 : decode cX11_forget 0 = .ok (.aload_n 0, 1) := by decide +kernel
theorem dX11_forget_1 : decode cX11_forget 1 = .ok (.getfield 86, 3) := by decide +kernel
theorem dX11_forget_4 : decode cX11_forget 4 = .ok (.getfield 390, 3) := by decide +kernel
theorem dX11_forget_7 : decode cX11_forget 7 = .ok (.istore_n 1, 1) := by decide +kernel
theorem dX11_forget_8 : decode cX11_forget 8 = .ok (.aload_n 0, 1) := by decide +kernel
theorem dX11_forget_9 : decode cX11_forget 9 = .ok (.getfield 86, 3) := by decide +kernel
theorem dX11_forget_12 : decode cX11_forget 12 = .ok (.iconst 0, 1) := by decide +kernel
theorem dX11_forget_13 : decode cX11_forget 13 = .ok (.putfield 390, 3) := by decide +kernel
theorem dX11_forget_16 : decode cX11_forget 16 = .ok (.iload_n 1, 1) := by decide +kernel
theorem dX11_forget_17 : decode cX11_forget 17 = .ok (.ireturn, 1) := by decide +kernel
theorem dX11_frost_0 : decode cX11_frost 0 = .ok (.aload_n 0, 1) := by decide +kernel
theorem dX11_frost_1 : decode cX11_frost 1 = .ok (.getfield 10, 3) := by decide +kernel
theorem dX11_frost_4 : decode cX11_frost 4 = .ok (.aload_n 0, 1) := by decide +kernel
theorem dX11_frost_5 : decode cX11_frost 5 = .ok (.getfield 43, 3) := by decide +kernel
theorem dX11_frost_8 : decode cX11_frost 8 = .ok (.invokestatic 139, 3) := by decide +kernel
theorem dX11_frost_11 : decode cX11_frost 11 = .ok (.istore_n 1, 1) := by decide +kernel
theorem dX11_frost_12 : decode cX11_frost 12 = .ok (.aload_n 0, 1) := by decide +kernel
theorem dX11_frost_13 : decode cX11_frost 13 = .ok (.getfield 10, 3) := by decide +kernel
theorem dX11_frost_16 : decode cX11_frost 16 = .ok (.invokevirtual 126, 3) := by decide +kernel
theorem dX11_frost_19 : decode cX11_frost 19 = .ok (.iload_n 1, 1) := by decide +kernel
theorem dX11_frost_20 : decode cX11_frost 20 = .ok (.ifCond .lt 28, 3) := by decide +kernel
theorem dX11_frost_23 : decode cX11_frost 23 = .ok (.aload_n 0, 1) := by decide +kernel
theorem dX11_frost_24 : decode cX11_frost 24 = .ok (.getfield 43, 3) := by decide +kernel
theorem dX11_frost_27 : decode cX11_frost 27 = .ok (.iconst 0, 1) := by decide +kernel
theorem dX11_frost_28 : decode cX11_frost 28 = .ok (.aload_n 0, 1) := by decide +kernel
theorem dX11_frost_29 : decode cX11_frost 29 = .ok (.getfield 26, 3) := by decide +kernel
theorem dX11_frost_32 : decode cX11_frost 32 = .ok (.getfield 93, 3) := by decide +kernel
theorem dX11_frost_35 : decode cX11_frost 35 = .ok (.iconst 0, 1) := by decide +kernel
theorem dX11_frost_36 : decode cX11_frost 36 = .ok (.iload_n 1, 1) := by decide +kernel
theorem dX11_frost_37 : decode cX11_frost 37 = .ok (.invokestatic 143, 3) := by decide +kernel
theorem dX11_frost_40 : decode cX11_frost 40 = .ok (.aload_n 0, 1) := by decide +kernel
theorem dX11_frost_41 : decode cX11_frost 41 = .ok (.getfield 26, 3) := by decide +kernel
theorem dX11_frost_44 : decode cX11_frost 44 = .ok (.iload_n 1, 1) := by decide +kernel
theorem dX11_frost_45 : decode cX11_frost 45 = .ok (.putfield 149, 3) := by decide +kernel
theorem dX11_frost_48 : decode cX11_frost 48 = .ok (.iload_n 1, 1) := by decide +kernel
theorem dX11_frost_49 : decode cX11_frost 49 = .ok (.ireturn, 1) := by decide +kernel
theorem dX11_gently_0 : decode cX11_gently 0 = .ok (.aload_n 0, 1) := by decide +kernel
theorem dX11_gently_1 : decode cX11_gently 1 = .ok (.getfield 75, 3) := by decide +kernel
theorem dX11_gently_4 : decode cX11_gently 4 = .ok (.aload_n 0, 1) := by decide +kernel
theorem dX11_gently_5 : decode cX11_gently 5 = .ok (.getfield 26, 3) := by decide +kernel
theorem dX11_gently_8 : decode cX11_gently 8 = .ok (.invokevirtual 369, 3) := by decide +kernel
theorem dX11_gently_11 : decode cX11_gently 11 = .ok (.ifCond .ne 6, 3) := by decide +kernel
theorem dX11_gently_14 : decode cX11_gently 14 = .ok (.bipush (-4), 2) := by decide +kernel
theorem dX11_gently_16 : decode cX11_gently 16 = .ok (.ireturn, 1) := by decide +kernel
theorem dX11_homeless_0 : decode cX11_homeless 0 = .ok (.aload_n 0, 1) := by decide +kernel
theorem dX11_homeless_1 : decode cX11_homeless 1 = .ok (.getfield 26, 3) := by decide +kernel
theorem dX11_homeless_4 : decode cX11_homeless 4 = .ok (.iload_n 1, 1) := by decide +kernel
theorem dX11_homeless_5 : decode cX11_homeless 5 = .ok (.invokevirtual 175, 3) := by decide +kernel
theorem dX11_homeless_8 : decode cX11_homeless 8 = .ok (.ifCond .ne 5, 3) := by decide +kernel
theorem dX11_homeless_11 : decode cX11_homeless 11 = .ok (.iconst (-1), 1) := by decide +kernel
theorem dX11_homeless_12 : decode cX11_homeless 12 = .ok (.ireturn, 1) := by decide +kernel
theorem dX11_income_0 : decode cX11_income 0 = .ok (.iload_n 1, 1) := by decide +kernel
theorem dX11_income_1 : decode cX11_income 1 = .ok (.invokestatic 286, 3) := by decide +kernel
theorem dX11_income_4 : decode cX11_income 4 = .ok (.ifCond .eq 13, 3) := by decide +kernel
theorem dX11_income_7 : decode cX11_income 7 = .ok (.iload_n 2, 1) := by decide +kernel
theorem dX11_income_8 : decode cX11_income 8 = .ok (.ifCond .lt 9, 3) := by decide +kernel
theorem dX11_income_11 : decode cX11_income 11 = .ok (.iload_n 2, 1) := by decide +kernel
theorem dX11_income_12 : decode cX11_income 12 = .ok (.bipush 60, 2) := by decide +kernel
theorem dX11_income_14 : decode cX11_income 14 = .ok (.if_icmp .le 5, 3) := by decide +kernel
theorem dX11_income_17 : decode cX11_income 17 = .ok (.iconst (-1), 1) := by decide +kernel
theorem dX11_income_18 : decode cX11_income 18 = .ok (.ireturn, 1) := by decide +kernel
theorem dX11_income_19 : decode cX11_income 19 = .ok (.aload_n 0, 1) := by decide +kernel
theorem dX11_income_20 : decode cX11_income 20 = .ok (.getfield 30, 3) := by decide +kernel
theorem dX11_income_23 : decode cX11_income 23 = .ok (.aload_n 0, 1) := by decide +kernel
theorem dX11_income_24 : decode cX11_income 24 = .ok (.getfield 26, 3) := by decide +kernel
theorem dX11_income_27 : decode cX11_income 27 = .ok (.invokevirtual 116, 3) := by decide +kernel
theorem dX11_income_30 : decode cX11_income 30 = .ok (.aload_n 0, 1) := by decide +kernel
theorem dX11_income_31 : decode cX11_income 31 = .ok (.getfield 30, 3) := by decide +kernel
theorem dX11_income_34 : decode cX11_income 34 = .ok (.invokevirtual 272, 3) := by decide +kernel
theorem dX11_income_37 : decode cX11_income 37 = .ok (.aload_n 0, 1) := by decide +kernel
theorem dX11_income_38 : decode cX11_income 38 = .ok (.getfield 30, 3) := by decide +kernel
theorem dX11_income_41 : decode cX11_income 41 = .ok (.iload_n 2, 1) := by decide +kernel
theorem dX11_income_42 : decode cX11_income 42 = .ok (.invokevirtual 259, 3) := by decide +kernel
theorem dX11_income_45 : decode cX11_income 45 = .ok (.aload_n 0, 1) := by decide +kernel
theorem dX11_income_46 : decode cX11_income 46 = .ok (.getfield 19, 3) := by decide +kernel
theorem dX11_income_49 : decode cX11_income 49 = .ok (.aload_n 0, 1) := by decide +kernel
theorem dX11_income_50 : decode cX11_income 50 = .ok (.getfield 30, 3) := by decide +kernel
theorem dX11_income_53 : decode cX11_income 53 = .ok (.getfield 322, 3) := by decide +kernel
theorem dX11_income_56 : decode cX11_income 56 = .ok (.iconst 4, 1) := by decide +kernel
theorem dX11_income_57 : decode cX11_income 57 = .ok (.invokevirtual 315, 3) := by decide +kernel
theorem dX11_income_60 : decode cX11_income 60 = .ok (.aload_n 0, 1) := by decide +kernel
theorem dX11_income_61 : decode cX11_income 61 = .ok (.getfield 30, 3) := by decide +kernel
theorem dX11_income_64 : decode cX11_income 64 = .ok (.getfield 322, 3) := by decide +kernel
theorem dX11_income_67 : decode cX11_income 67 = .ok (.iload_n 1, 1) := by decide +kernel
theorem dX11_income_68 : decode cX11_income 68 = .ok (.iaload, 1) := by decide +kernel
theorem dX11_income_69 : decode cX11_income 69 = .ok (.ireturn, 1) := by decide +kernel
theorem dX11_isLord_0 : decode cX11_isLord 0 = .ok (.iload_n 0, 1) := by decide +kernel
theorem dX11_isLord_1 : decode cX11_isLord 1 = .ok (.ifCond .lt 12, 3) := by decide +kernel
theorem dX11_isLord_4 : decode cX11_isLord 4 = .ok (.iload_n 0, 1) := by decide +kernel
theorem dX11_isLord_5 : decode cX11_isLord 5 = .ok (.iconst 4, 1) := by decide +kernel
theorem dX11_isLord_6 : decode cX11_isLord 6 = .ok (.if_icmp .ge 7, 3) := by decide +kernel
theorem dX11_isLord_9 : decode cX11_isLord 9 = .ok (.iconst 1, 1) := by decide +kernel
theorem dX11_isLord_10 : decode cX11_isLord 10 = .ok (.goto 4, 3) := by decide +kernel
theorem dX11_isLord_13 : decode cX11_isLord 13 = .ok (.iconst 0, 1) := by decide +kernel
theorem dX11_isLord_14 : decode cX11_isLord 14 = .ok (.ireturn, 1) := by decide +kernel
theorem dX11_keep_0 : decode cX11_keep 0 = .ok (.iload_n 1, 1) := by decide +kernel
theorem dX11_keep_1 : decode cX11_keep 1 = .ok (.ifCond .lt 8, 3) := by decide +kernel
theorem dX11_keep_4 : decode cX11_keep 4 = .ok (.iload_n 1, 1) := by decide +kernel
theorem dX11_keep_5 : decode cX11_keep 5 = .ok (.iconst 2, 1) := by decide +kernel
theorem dX11_keep_6 : decode cX11_keep 6 = .ok (.if_icmp .lt 5, 3) := by decide +kernel
theorem dX11_keep_9 : decode cX11_keep 9 = .ok (.iconst 0, 1) := by decide +kernel
theorem dX11_keep_10 : decode cX11_keep 10 = .ok (.ireturn, 1) := by decide +kernel
theorem dX11_keep_11 : decode cX11_keep 11 = .ok (.aload_n 0, 1) := by decide +kernel
theorem dX11_keep_12 : decode cX11_keep 12 = .ok (.getfield 26, 3) := by decide +kernel
theorem dX11_keep_15 : decode cX11_keep 15 = .ok (.aload_n 0, 1) := by decide +kernel
theorem dX11_keep_16 : decode cX11_keep 16 = .ok (.getfield 66, 3) := by decide +kernel
theorem dX11_keep_19 : decode cX11_keep 19 = .ok (.iload_n 1, 1) := by decide +kernel
theorem dX11_keep_20 : decode cX11_keep 20 = .ok (.aaload, 1) := by decide +kernel
theorem dX11_keep_21 : decode cX11_keep 21 = .ok (.iconst 0, 1) := by decide +kernel
theorem dX11_keep_22 : decode cX11_keep 22 = .ok (.invokevirtual 248, 3) := by decide +kernel
theorem dX11_keep_25 : decode cX11_keep 25 = .ok (.aload_n 0, 1) := by decide +kernel
theorem dX11_keep_26 : decode cX11_keep 26 = .ok (.getfield 69, 3) := by decide +kernel
theorem dX11_keep_29 : decode cX11_keep 29 = .ok (.iload_n 1, 1) := by decide +kernel
theorem dX11_keep_30 : decode cX11_keep 30 = .ok (.aload_n 0, 1) := by decide +kernel
theorem dX11_keep_31 : decode cX11_keep 31 = .ok (.getfield 26, 3) := by decide +kernel
theorem dX11_keep_34 : decode cX11_keep 34 = .ok (.invokevirtual 429, 3) := by decide +kernel
theorem dX11_keep_37 : decode cX11_keep 37 = .ok (.iastore, 1) := by decide +kernel
theorem dX11_keep_38 : decode cX11_keep 38 = .ok (.iconst 1, 1) := by decide +kernel
theorem dX11_keep_39 : decode cX11_keep 39 = .ok (.ireturn, 1) := by decide +kernel
theorem dX11_kindest_0 : decode cX11_kindest 0 = .ok (.aload_n 0, 1) := by decide +kernel
theorem dX11_kindest_1 : decode cX11_kindest 1 = .ok (.invokevirtual 332, 3) := by decide +kernel
theorem dX11_kindest_4 : decode cX11_kindest 4 = .ok (.ifCond .eq 6, 3) := by decide +kernel
theorem dX11_kindest_10 : decode cX11_kindest 10 = .ok (.aload_n 0, 1) := by decide +kernel
theorem dX11_kindest_11 : decode cX11_kindest 11 = .ok (.invokevirtual 336, 3) := by decide +kernel
theorem dX11_kindest_14 : decode cX11_kindest 14 = .ok (.bipush (-2), 2) := by decide +kernel
theorem dX11_kindest_16 : decode cX11_kindest 16 = .ok (.istore_n 1, 1) := by decide +kernel
theorem dX11_kindest_17 : decode cX11_kindest 17 = .ok (.iconst 0, 1) := by decide +kernel
theorem dX11_kindest_18 : decode cX11_kindest 18 = .ok (.istore_n 2, 1) := by decide +kernel
theorem dX11_kindest_19 : decode cX11_kindest 19 = .ok (.iload_n 2, 1) := by decide +kernel
theorem dX11_kindest_20 : decode cX11_kindest 20 = .ok (.sipush 20000, 3) := by decide +kernel
theorem dX11_kindest_23 : decode cX11_kindest 23 = .ok (.if_icmp .ge 72, 3) := by decide +kernel
theorem dX11_kindest_26 : decode cX11_kindest 26 = .ok (.aload_n 0, 1) := by decide +kernel
theorem dX11_kindest_27 : decode cX11_kindest 27 = .ok (.getfield 30, 3) := by decide +kernel
theorem dX11_kindest_30 : decode cX11_kindest 30 = .ok (.invokevirtual 345, 3) := by decide +kernel
theorem dX11_kindest_33 : decode cX11_kindest 33 = .ok (.iload_n 1, 1) := by decide +kernel
theorem dX11_kindest_34 : decode cX11_kindest 34 = .ok (.if_icmp .le 42, 3) := by decide +kernel
theorem dX11_kindest_37 : decode cX11_kindest 37 = .ok (.aload_n 0, 1) := by decide +kernel
theorem dX11_kindest_38 : decode cX11_kindest 38 = .ok (.getfield 30, 3) := by decide +kernel
theorem dX11_kindest_41 : decode cX11_kindest 41 = .ok (.invokevirtual 339, 3) := by decide +kernel
theorem dX11_kindest_44 : decode cX11_kindest 44 = .ok (.ifCond .eq 32, 3) := by decide +kernel
theorem dX11_kindest_47 : decode cX11_kindest 47 = .ok (.aload_n 0, 1) := by decide +kernel
theorem dX11_kindest_48 : decode cX11_kindest 48 = .ok (.getfield 30, 3) := by decide +kernel
theorem dX11_kindest_51 : decode cX11_kindest 51 = .ok (.invokevirtual 345, 3) := by decide +kernel
theorem dX11_kindest_54 : decode cX11_kindest 54 = .ok (.istore_n 1, 1) := by decide +kernel
theorem dX11_kindest_55 : decode cX11_kindest 55 = .ok (.aload_n 0, 1) := by decide +kernel
theorem dX11_kindest_56 : decode cX11_kindest 56 = .ok (.getfield 19, 3) := by decide +kernel
theorem dX11_kindest_59 : decode cX11_kindest 59 = .ok (.aload_n 0, 1) := by decide +kernel
theorem dX11_kindest_60 : decode cX11_kindest 60 = .ok (.getfield 30, 3) := by decide +kernel
theorem dX11_kindest_63 : decode cX11_kindest 63 = .ok (.getfield 186, 3) := by decide +kernel
theorem dX11_kindest_66 : decode cX11_kindest 66 = .ok (.aload_n 0, 1) := by decide +kernel
theorem dX11_kindest_67 : decode cX11_kindest 67 = .ok (.getfield 30, 3) := by decide +kernel
theorem dX11_kindest_70 : decode cX11_kindest 70 = .ok (.getfield 312, 3) := by decide +kernel
theorem dX11_kindest_73 : decode cX11_kindest 73 = .ok (.invokevirtual 315, 3) := by decide +kernel
theorem dX11_kindest_76 : decode cX11_kindest 76 = .ok (.aload_n 0, 1) := by decide +kernel
theorem dX11_kindest_77 : decode cX11_kindest 77 = .ok (.getfield 30, 3) := by decide +kernel
theorem dX11_kindest_80 : decode cX11_kindest 80 = .ok (.invokevirtual 342, 3) := by decide +kernel
theorem dX11_kindest_83 : decode cX11_kindest 83 = .ok (.ifCond .ne 6, 3) := by decide +kernel
theorem dX11_kindest_86 : decode cX11_kindest 86 = .ok (.goto 9, 3) := by decide +kernel
theorem dX11_kindest_95 : decode cX11_kindest 95 = .ok (.iload_n 1, 1) := by decide +kernel
theorem dX11_kindest_96 : decode cX11_kindest 96 = .ok (.ireturn, 1) := by decide +kernel
theorem dX11_later_0 : decode cX11_later 0 = .ok (.aload_n 0, 1) := by decide +kernel
theorem dX11_later_1 : decode cX11_later 1 = .ok (.getfield 26, 3) := by decide +kernel
theorem dX11_later_4 : decode cX11_later 4 = .ok (.iload_n 1, 1) := by decide +kernel
theorem dX11_later_5 : decode cX11_later 5 = .ok (.invokevirtual 175, 3) := by decide +kernel
theorem dX11_later_8 : decode cX11_later 8 = .ok (.ifCond .eq 13, 3) := by decide +kernel
theorem dX11_later_21 : decode cX11_later 21 = .ok (.bipush (-2), 2) := by decide +kernel
theorem dX11_later_23 : decode cX11_later 23 = .ok (.ireturn, 1) := by decide +kernel
theorem dX11_latest_0 : decode cX11_latest 0 = .ok (.aload_n 0, 1) := by decide +kernel
theorem dX11_latest_1 : decode cX11_latest 1 = .ok (.getfield 26, 3) := by decide +kernel
theorem dX11_latest_4 : decode cX11_latest 4 = .ok (.iload_n 1, 1) := by decide +kernel
theorem dX11_latest_5 : decode cX11_latest 5 = .ok (.invokevirtual 175, 3) := by decide +kernel
theorem dX11_latest_8 : decode cX11_latest 8 = .ok (.ifCond .ne 5, 3) := by decide +kernel
theorem dX11_latest_11 : decode cX11_latest 11 = .ok (.iconst (-1), 1) := by decide +kernel
theorem dX11_latest_12 : decode cX11_latest 12 = .ok (.ireturn, 1) := by decide +kernel
theorem dX11_lord_0 : decode cX11_lord 0 = .ok (.iload_n 1, 1) := by decide +kernel
theorem dX11_lord_1 : decode cX11_lord 1 = .ok (.invokestatic 286, 3) := by decide +kernel
theorem dX11_lord_4 : decode cX11_lord 4 = .ok (.ifCond .ne 5, 3) := by decide +kernel
theorem dX11_lord_7 : decode cX11_lord 7 = .ok (.iconst (-1), 1) := by decide +kernel
theorem dX11_lord_8 : decode cX11_lord 8 = .ok (.ireturn, 1) := by decide +kernel
theorem dX11_lord_9 : decode cX11_lord 9 = .ok (.aload_n 0, 1) := by decide +kernel
theorem dX11_lord_10 : decode cX11_lord 10 = .ok (.getfield 19, 3) := by decide +kernel
theorem dX11_lord_13 : decode cX11_lord 13 = .ok (.aload_n 0, 1) := by decide +kernel
theorem dX11_lord_14 : decode cX11_lord 14 = .ok (.getfield 26, 3) := by decide +kernel
theorem dX11_lord_17 : decode cX11_lord 17 = .ok (.iload_n 1, 1) := by decide +kernel
theorem dX11_lord_18 : decode cX11_lord 18 = .ok (.invokevirtual 295, 3) := by decide +kernel
theorem dX11_lord_21 : decode cX11_lord 21 = .ok (.aload_n 0, 1) := by decide +kernel
theorem dX11_lord_22 : decode cX11_lord 22 = .ok (.getfield 26, 3) := by decide +kernel
theorem dX11_lord_25 : decode cX11_lord 25 = .ok (.iload_n 1, 1) := by decide +kernel
theorem dX11_lord_26 : decode cX11_lord 26 = .ok (.invokevirtual 298, 3) := by decide +kernel
theorem dX11_lord_29 : decode cX11_lord 29 = .ok (.invokevirtual 266, 3) := by decide +kernel
theorem dX11_lord_32 : decode cX11_lord 32 = .ok (.aload_n 0, 1) := by decide +kernel
theorem dX11_lord_33 : decode cX11_lord 33 = .ok (.getfield 26, 3) := by decide +kernel
theorem dX11_lord_36 : decode cX11_lord 36 = .ok (.iload_n 1, 1) := by decide +kernel
theorem dX11_lord_37 : decode cX11_lord 37 = .ok (.invokevirtual 301, 3) := by decide +kernel
theorem dX11_lord_40 : decode cX11_lord 40 = .ok (.ireturn, 1) := by decide +kernel
theorem dX11_moves_0 : decode cX11_moves 0 = .ok (.aload_n 0, 1) := by decide +kernel
theorem dX11_moves_1 : decode cX11_moves 1 = .ok (.getfield 26, 3) := by decide +kernel
theorem dX11_moves_4 : decode cX11_moves 4 = .ok (.iload_n 1, 1) := by decide +kernel
theorem dX11_moves_5 : decode cX11_moves 5 = .ok (.invokevirtual 200, 3) := by decide +kernel
theorem dX11_moves_8 : decode cX11_moves 8 = .ok (.ifCond .eq 13, 3) := by decide +kernel
theorem dX11_moves_21 : decode cX11_moves 21 = .ok (.iconst (-1), 1) := by decide +kernel
theorem dX11_moves_22 : decode cX11_moves 22 = .ok (.ireturn, 1) := by decide +kernel
theorem dX11_openWays_0 : decode cX11_openWays 0 = .ok (.aload_n 0, 1) := by decide +kernel
theorem dX11_openWays_1 : decode cX11_openWays 1 = .ok (.getfield 30, 3) := by decide +kernel
theorem dX11_openWays_4 : decode cX11_openWays 4 = .ok (.aload_n 0, 1) := by decide +kernel
theorem dX11_openWays_5 : decode cX11_openWays 5 = .ok (.getfield 26, 3) := by decide +kernel
theorem dX11_openWays_8 : decode cX11_openWays 8 = .ok (.invokevirtual 116, 3) := by decide +kernel
theorem dX11_openWays_11 : decode cX11_openWays 11 = .ok (.iconst 0, 1) := by decide +kernel
theorem dX11_openWays_12 : decode cX11_openWays 12 = .ok (.istore_n 1, 1) := by decide +kernel
theorem dX11_openWays_13 : decode cX11_openWays 13 = .ok (.iload_n 1, 1) := by decide +kernel
theorem dX11_openWays_14 : decode cX11_openWays 14 = .ok (.aload_n 0, 1) := by decide +kernel
theorem dX11_openWays_15 : decode cX11_openWays 15 = .ok (.getfield 30, 3) := by decide +kernel
theorem dX11_openWays_18 : decode cX11_openWays 18 = .ok (.getfield 312, 3) := by decide +kernel
theorem dX11_openWays_21 : decode cX11_openWays 21 = .ok (.if_icmp .ge 17, 3) := by decide +kernel
theorem dX11_openWays_38 : decode cX11_openWays 38 = .ok (.aload_n 0, 1) := by decide +kernel
theorem dX11_openWays_39 : decode cX11_openWays 39 = .ok (.getfield 30, 3) := by decide +kernel
theorem dX11_openWays_42 : decode cX11_openWays 42 = .ok (.getfield 96, 3) := by decide +kernel
theorem dX11_openWays_45 : decode cX11_openWays 45 = .ok (.aload_n 0, 1) := by decide +kernel
theorem dX11_openWays_46 : decode cX11_openWays 46 = .ok (.getfield 30, 3) := by decide +kernel
theorem dX11_openWays_49 : decode cX11_openWays 49 = .ok (.invokevirtual 455, 3) := by decide +kernel
theorem dX11_openWays_52 : decode cX11_openWays 52 = .ok (.return_, 1) := by decide +kernel
theorem dX11_owes_0 : decode cX11_owes 0 = .ok (.aload_n 0, 1) := by decide +kernel
theorem dX11_owes_1 : decode cX11_owes 1 = .ok (.getfield 26, 3) := by decide +kernel
theorem dX11_owes_4 : decode cX11_owes 4 = .ok (.iload_n 1, 1) := by decide +kernel
theorem dX11_owes_5 : decode cX11_owes 5 = .ok (.invokevirtual 200, 3) := by decide +kernel
theorem dX11_owes_8 : decode cX11_owes 8 = .ok (.ifCond .eq 22, 3) := by decide +kernel
theorem dX11_owes_30 : decode cX11_owes 30 = .ok (.iconst (-1), 1) := by decide +kernel
theorem dX11_owes_31 : decode cX11_owes 31 = .ok (.ireturn, 1) := by decide +kernel
theorem dX11_pay_0 : decode cX11_pay 0 = .ok (.aload_n 0, 1) := by decide +kernel
theorem dX11_pay_1 : decode cX11_pay 1 = .ok (.getfield 26, 3) := by decide +kernel
theorem dX11_pay_4 : decode cX11_pay 4 = .ok (.iload_n 1, 1) := by decide +kernel
theorem dX11_pay_5 : decode cX11_pay 5 = .ok (.invokevirtual 200, 3) := by decide +kernel
theorem dX11_pay_8 : decode cX11_pay 8 = .ok (.ifCond .eq 22, 3) := by decide +kernel
theorem dX11_pay_30 : decode cX11_pay 30 = .ok (.iconst (-1), 1) := by decide +kernel
theorem dX11_pay_31 : decode cX11_pay 31 = .ok (.ireturn, 1) := by decide +kernel
theorem dX11_power_0 : decode cX11_power 0 = .ok (.iconst 1, 1) := by decide +kernel
theorem dX11_power_1 : decode cX11_power 1 = .ok (.istore_n 2, 1) := by decide +kernel
theorem dX11_power_2 : decode cX11_power 2 = .ok (.iconst 0, 1) := by decide +kernel
theorem dX11_power_3 : decode cX11_power 3 = .ok (.istore_n 3, 1) := by decide +kernel
theorem dX11_power_4 : decode cX11_power 4 = .ok (.iload_n 3, 1) := by decide +kernel
theorem dX11_power_5 : decode cX11_power 5 = .ok (.iload_n 1, 1) := by decide +kernel
theorem dX11_power_6 : decode cX11_power 6 = .ok (.if_icmp .ge 13, 3) := by decide +kernel
theorem dX11_power_19 : decode cX11_power 19 = .ok (.iload_n 2, 1) := by decide +kernel
theorem dX11_power_20 : decode cX11_power 20 = .ok (.ireturn, 1) := by decide +kernel
theorem dX11_rests_0 : decode cX11_rests 0 = .ok (.aload_n 0, 1) := by decide +kernel
theorem dX11_rests_1 : decode cX11_rests 1 = .ok (.getfield 26, 3) := by decide +kernel
theorem dX11_rests_4 : decode cX11_rests 4 = .ok (.invokevirtual 325, 3) := by decide +kernel
theorem dX11_rests_7 : decode cX11_rests 7 = .ok (.istore_n 1, 1) := by decide +kernel
theorem dX11_rests_8 : decode cX11_rests 8 = .ok (.aload_n 0, 1) := by decide +kernel
theorem dX11_rests_9 : decode cX11_rests 9 = .ok (.getfield 19, 3) := by decide +kernel
theorem dX11_rests_12 : decode cX11_rests 12 = .ok (.invokevirtual 328, 3) := by decide +kernel
theorem dX11_rests_15 : decode cX11_rests 15 = .ok (.aload_n 0, 1) := by decide +kernel
theorem dX11_rests_16 : decode cX11_rests 16 = .ok (.getfield 19, 3) := by decide +kernel
theorem dX11_rests_19 : decode cX11_rests 19 = .ok (.iload_n 1, 1) := by decide +kernel
theorem dX11_rests_20 : decode cX11_rests 20 = .ok (.invokevirtual 329, 3) := by decide +kernel
theorem dX11_rests_23 : decode cX11_rests 23 = .ok (.iload_n 1, 1) := by decide +kernel
theorem dX11_rests_24 : decode cX11_rests 24 = .ok (.ifCond .ne 7, 3) := by decide +kernel
theorem dX11_rests_27 : decode cX11_rests 27 = .ok (.iconst 1, 1) := by decide +kernel
theorem dX11_rests_28 : decode cX11_rests 28 = .ok (.goto 4, 3) := by decide +kernel
theorem dX11_rests_32 : decode cX11_rests 32 = .ok (.ireturn, 1) := by decide +kernel
theorem dX11_ring_0 : decode cX11_ring 0 = .ok (.aload_n 0, 1) := by decide +kernel
theorem dX11_ring_1 : decode cX11_ring 1 = .ok (.getfield 26, 3) := by decide +kernel
theorem dX11_ring_4 : decode cX11_ring 4 = .ok (.iload_n 1, 1) := by decide +kernel
theorem dX11_ring_5 : decode cX11_ring 5 = .ok (.invokevirtual 175, 3) := by decide +kernel
theorem dX11_ring_8 : decode cX11_ring 8 = .ok (.ifCond .ne 5, 3) := by decide +kernel
theorem dX11_ring_11 : decode cX11_ring 11 = .ok (.iconst (-1), 1) := by decide +kernel
theorem dX11_ring_12 : decode cX11_ring 12 = .ok (.ireturn, 1) := by decide +kernel
theorem dX11_rule_0 : decode cX11_rule 0 = .ok (.aload_n 0, 1) := by decide +kernel
theorem dX11_rule_1 : decode cX11_rule 1 = .ok (.getfield 39, 3) := by decide +kernel
theorem dX11_rule_4 : decode cX11_rule 4 = .ok (.aload_n 0, 1) := by decide +kernel
theorem dX11_rule_5 : decode cX11_rule 5 = .ok (.getfield 10, 3) := by decide +kernel
theorem dX11_rule_8 : decode cX11_rule 8 = .ok (.invokevirtual 132, 3) := by decide +kernel
theorem dX11_rule_11 : decode cX11_rule 11 = .ok (.istore_n 1, 1) := by decide +kernel
theorem dX11_rule_12 : decode cX11_rule 12 = .ok (.aload_n 0, 1) := by decide +kernel
theorem dX11_rule_13 : decode cX11_rule 13 = .ok (.getfield 10, 3) := by decide +kernel
theorem dX11_rule_16 : decode cX11_rule 16 = .ok (.invokevirtual 126, 3) := by decide +kernel
theorem dX11_rule_19 : decode cX11_rule 19 = .ok (.iload_n 1, 1) := by decide +kernel
theorem dX11_rule_20 : decode cX11_rule 20 = .ok (.iconst (-1), 1) := by decide +kernel
theorem dX11_rule_21 : decode cX11_rule 21 = .ok (.if_icmp .eq 7, 3) := by decide +kernel
theorem dX11_rule_28 : decode cX11_rule 28 = .ok (.aload_n 0, 1) := by decide +kernel
theorem dX11_rule_29 : decode cX11_rule 29 = .ok (.getfield 26, 3) := by decide +kernel
theorem dX11_rule_32 : decode cX11_rule 32 = .ok (.getfield 96, 3) := by decide +kernel
theorem dX11_rule_35 : decode cX11_rule 35 = .ok (.getfield 100, 3) := by decide +kernel
theorem dX11_rule_38 : decode cX11_rule 38 = .ok (.astore_n 2, 1) := by decide +kernel
theorem dX11_rule_39 : decode cX11_rule 39 = .ok (.aload_n 0, 1) := by decide +kernel
theorem dX11_rule_40 : decode cX11_rule 40 = .ok (.getfield 26, 3) := by decide +kernel
theorem dX11_rule_43 : decode cX11_rule 43 = .ok (.getfield 96, 3) := by decide +kernel
theorem dX11_rule_46 : decode cX11_rule 46 = .ok (.aload_n 0, 1) := by decide +kernel
theorem dX11_rule_47 : decode cX11_rule 47 = .ok (.getfield 39, 3) := by decide +kernel
theorem dX11_rule_50 : decode cX11_rule 50 = .ok (.putfield 100, 3) := by decide +kernel
theorem dX11_rule_53 : decode cX11_rule 53 = .ok (.aload_n 0, 1) := by decide +kernel
theorem dX11_rule_54 : decode cX11_rule 54 = .ok (.getfield 26, 3) := by decide +kernel
theorem dX11_rule_57 : decode cX11_rule 57 = .ok (.getfield 96, 3) := by decide +kernel
theorem dX11_rule_60 : decode cX11_rule 60 = .ok (.invokevirtual 136, 3) := by decide +kernel
theorem dX11_rule_63 : decode cX11_rule 63 = .ok (.aload_n 0, 1) := by decide +kernel
theorem dX11_rule_64 : decode cX11_rule 64 = .ok (.aload_n 2, 1) := by decide +kernel
theorem dX11_rule_65 : decode cX11_rule 65 = .ok (.putfield 39, 3) := by decide +kernel
theorem dX11_rule_68 : decode cX11_rule 68 = .ok (.iconst 0, 1) := by decide +kernel
theorem dX11_rule_69 : decode cX11_rule 69 = .ok (.ireturn, 1) := by decide +kernel
theorem dX11_safest_0 : decode cX11_safest 0 = .ok (.iload_n 1, 1) := by decide +kernel
theorem dX11_safest_1 : decode cX11_safest 1 = .ok (.ifCond .lt 19, 3) := by decide +kernel
theorem dX11_safest_4 : decode cX11_safest 4 = .ok (.iload_n 1, 1) := by decide +kernel
theorem dX11_safest_5 : decode cX11_safest 5 = .ok (.bipush 30, 2) := by decide +kernel
theorem dX11_safest_7 : decode cX11_safest 7 = .ok (.if_icmp .gt 13, 3) := by decide +kernel
theorem dX11_safest_10 : decode cX11_safest 10 = .ok (.iload_n 2, 1) := by decide +kernel
theorem dX11_safest_11 : decode cX11_safest 11 = .ok (.ifCond .lt 9, 3) := by decide +kernel
theorem dX11_safest_14 : decode cX11_safest 14 = .ok (.iload_n 2, 1) := by decide +kernel
theorem dX11_safest_15 : decode cX11_safest 15 = .ok (.bipush 10, 2) := by decide +kernel
theorem dX11_safest_17 : decode cX11_safest 17 = .ok (.if_icmp .le 5, 3) := by decide +kernel
theorem dX11_safest_20 : decode cX11_safest 20 = .ok (.iconst (-1), 1) := by decide +kernel
theorem dX11_safest_21 : decode cX11_safest 21 = .ok (.ireturn, 1) := by decide +kernel
theorem dX11_safest_22 : decode cX11_safest 22 = .ok (.aload_n 0, 1) := by decide +kernel
theorem dX11_safest_23 : decode cX11_safest 23 = .ok (.getfield 26, 3) := by decide +kernel
theorem dX11_safest_26 : decode cX11_safest 26 = .ok (.getfield 423, 3) := by decide +kernel
theorem dX11_safest_29 : decode cX11_safest 29 = .ok (.ifCond .ne 6, 3) := by decide +kernel
theorem dX11_safest_32 : decode cX11_safest 32 = .ok (.bipush (-2), 2) := by decide +kernel
theorem dX11_safest_34 : decode cX11_safest 34 = .ok (.ireturn, 1) := by decide +kernel
theorem dX11_seen_0 : decode cX11_seen 0 = .ok (.aload_n 0, 1) := by decide +kernel
theorem dX11_seen_1 : decode cX11_seen 1 = .ok (.getfield 26, 3) := by decide +kernel
theorem dX11_seen_4 : decode cX11_seen 4 = .ok (.iload_n 1, 1) := by decide +kernel
theorem dX11_seen_5 : decode cX11_seen 5 = .ok (.invokevirtual 175, 3) := by decide +kernel
theorem dX11_seen_8 : decode cX11_seen 8 = .ok (.ifCond .eq 30, 3) := by decide +kernel
theorem dX11_seen_38 : decode cX11_seen 38 = .ok (.iconst (-1), 1) := by decide +kernel
theorem dX11_seen_39 : decode cX11_seen 39 = .ok (.ireturn, 1) := by decide +kernel
theorem dX11_sheet_0 : decode cX11_sheet 0 = .ok (.iload_n 1, 1) := by decide +kernel
theorem dX11_sheet_1 : decode cX11_sheet 1 = .ok (.ifCond .lt 14, 3) := by decide +kernel
theorem dX11_sheet_4 : decode cX11_sheet 4 = .ok (.iload_n 1, 1) := by decide +kernel
theorem dX11_sheet_5 : decode cX11_sheet 5 = .ok (.iconst 3, 1) := by decide +kernel
theorem dX11_sheet_6 : decode cX11_sheet 6 = .ok (.if_icmp .gt 9, 3) := by decide +kernel
theorem dX11_sheet_9 : decode cX11_sheet 9 = .ok (.iload_n 2, 1) := by decide +kernel
theorem dX11_sheet_10 : decode cX11_sheet 10 = .ok (.bipush 6, 2) := by decide +kernel
theorem dX11_sheet_12 : decode cX11_sheet 12 = .ok (.if_icmp .le 5, 3) := by decide +kernel
theorem dX11_sheet_15 : decode cX11_sheet 15 = .ok (.iconst (-1), 1) := by decide +kernel
theorem dX11_sheet_16 : decode cX11_sheet 16 = .ok (.ireturn, 1) := by decide +kernel
theorem dX11_sheet_17 : decode cX11_sheet 17 = .ok (.iload_n 1, 1) := by decide +kernel
theorem dX11_sheet_18 : decode cX11_sheet 18 = .ok (.iconst 3, 1) := by decide +kernel
theorem dX11_sheet_19 : decode cX11_sheet 19 = .ok (.if_icmp .ne 7, 3) := by decide +kernel
theorem dX11_sheet_22 : decode cX11_sheet 22 = .ok (.iconst 1, 1) := by decide +kernel
theorem dX11_sheet_23 : decode cX11_sheet 23 = .ok (.goto 4, 3) := by decide +kernel
theorem dX11_sheet_26 : decode cX11_sheet 26 = .ok (.iconst 0, 1) := by decide +kernel
theorem dX11_sheet_27 : decode cX11_sheet 27 = .ok (.istore 5, 2) := by decide +kernel
theorem dX11_sheet_29 : decode cX11_sheet 29 = .ok (.iload 5, 2) := by decide +kernel
theorem dX11_sheet_31 : decode cX11_sheet 31 = .ok (.ifCond .ne 10, 3) := by decide +kernel
theorem dX11_sheet_34 : decode cX11_sheet 34 = .ok (.iload_n 2, 1) := by decide +kernel
theorem dX11_sheet_35 : decode cX11_sheet 35 = .ok (.ifCond .ge 6, 3) := by decide +kernel
theorem dX11_sheet_38 : decode cX11_sheet 38 = .ok (.bipush (-2), 2) := by decide +kernel
theorem dX11_sheet_40 : decode cX11_sheet 40 = .ok (.ireturn, 1) := by decide +kernel
theorem dX11_sheet_41 : decode cX11_sheet 41 = .ok (.iload 5, 2) := by decide +kernel
theorem dX11_sheet_43 : decode cX11_sheet 43 = .ok (.ifCond .eq 7, 3) := by decide +kernel
theorem dX11_sheet_46 : decode cX11_sheet 46 = .ok (.iconst 0, 1) := by decide +kernel
theorem dX11_sheet_47 : decode cX11_sheet 47 = .ok (.goto 4, 3) := by decide +kernel
theorem dX11_sheet_50 : decode cX11_sheet 50 = .ok (.iload_n 2, 1) := by decide +kernel
theorem dX11_sheet_51 : decode cX11_sheet 51 = .ok (.istore 6, 2) := by decide +kernel
theorem dX11_sheet_53 : decode cX11_sheet 53 = .ok (.iconst 0, 1) := by decide +kernel
theorem dX11_sheet_54 : decode cX11_sheet 54 = .ok (.istore 7, 2) := by decide +kernel
theorem dX11_sheet_56 : decode cX11_sheet 56 = .ok (.iconst 0, 1) := by decide +kernel
theorem dX11_sheet_57 : decode cX11_sheet 57 = .ok (.istore 8, 2) := by decide +kernel
theorem dX11_sheet_59 : decode cX11_sheet 59 = .ok (.iload 8, 2) := by decide +kernel
theorem dX11_sheet_61 : decode cX11_sheet 61 = .ok (.aload_n 0, 1) := by decide +kernel
theorem dX11_sheet_62 : decode cX11_sheet 62 = .ok (.getfield 26, 3) := by decide +kernel
theorem dX11_sheet_65 : decode cX11_sheet 65 = .ok (.getfield 238, 3) := by decide +kernel
theorem dX11_sheet_68 : decode cX11_sheet 68 = .ok (.if_icmp .ge 52, 3) := by decide +kernel
theorem dX11_sheet_120 : decode cX11_sheet 120 = .ok (.iload 5, 2) := by decide +kernel
theorem dX11_sheet_122 : decode cX11_sheet 122 = .ok (.ifCond .eq 8, 3) := by decide +kernel
theorem dX11_sheet_125 : decode cX11_sheet 125 = .ok (.bipush (-3), 2) := by decide +kernel
theorem dX11_sheet_127 : decode cX11_sheet 127 = .ok (.goto 5, 3) := by decide +kernel
theorem dX11_sheet_130 : decode cX11_sheet 130 = .ok (.iload 7, 2) := by decide +kernel
theorem dX11_sheet_132 : decode cX11_sheet 132 = .ok (.ireturn, 1) := by decide +kernel
theorem dX11_sign_0 : decode cX11_sign 0 = .ok (.aload_n 0, 1) := by decide +kernel
theorem dX11_sign_1 : decode cX11_sign 1 = .ok (.getfield 10, 3) := by decide +kernel
theorem dX11_sign_4 : decode cX11_sign 4 = .ok (.iload_n 1, 1) := by decide +kernel
theorem dX11_sign_5 : decode cX11_sign 5 = .ok (.invokevirtual 105, 3) := by decide +kernel
theorem dX11_sign_8 : decode cX11_sign 8 = .ok (.ifCond .eq 13, 3) := by decide +kernel
theorem dX11_sign_11 : decode cX11_sign 11 = .ok (.aload_n 0, 1) := by decide +kernel
theorem dX11_sign_12 : decode cX11_sign 12 = .ok (.getfield 10, 3) := by decide +kernel
theorem dX11_sign_15 : decode cX11_sign 15 = .ok (.getfield 109, 3) := by decide +kernel
theorem dX11_sign_18 : decode cX11_sign 18 = .ok (.goto 4, 3) := by decide +kernel
theorem dX11_sign_22 : decode cX11_sign 22 = .ok (.ireturn, 1) := by decide +kernel
theorem dX11_spring_0 : decode cX11_spring 0 = .ok (.aload_n 0, 1) := by decide +kernel
theorem dX11_spring_1 : decode cX11_spring 1 = .ok (.getfield 53, 3) := by decide +kernel
theorem dX11_spring_4 : decode cX11_spring 4 = .ok (.aload_n 0, 1) := by decide +kernel
theorem dX11_spring_5 : decode cX11_spring 5 = .ok (.getfield 10, 3) := by decide +kernel
theorem dX11_spring_8 : decode cX11_spring 8 = .ok (.invokevirtual 278, 3) := by decide +kernel
theorem dX11_spring_11 : decode cX11_spring 11 = .ok (.istore_n 1, 1) := by decide +kernel
theorem dX11_spring_12 : decode cX11_spring 12 = .ok (.aload_n 0, 1) := by decide +kernel
theorem dX11_spring_13 : decode cX11_spring 13 = .ok (.getfield 10, 3) := by decide +kernel
theorem dX11_spring_16 : decode cX11_spring 16 = .ok (.invokevirtual 126, 3) := by decide +kernel
theorem dX11_spring_19 : decode cX11_spring 19 = .ok (.iload_n 1, 1) := by decide +kernel
theorem dX11_spring_20 : decode cX11_spring 20 = .ok (.iconst (-1), 1) := by decide +kernel
theorem dX11_spring_21 : decode cX11_spring 21 = .ok (.if_icmp .eq 7, 3) := by decide +kernel
theorem dX11_spring_28 : decode cX11_spring 28 = .ok (.aload_n 0, 1) := by decide +kernel
theorem dX11_spring_29 : decode cX11_spring 29 = .ok (.getfield 26, 3) := by decide +kernel
theorem dX11_spring_32 : decode cX11_spring 32 = .ok (.aload_n 0, 1) := by decide +kernel
theorem dX11_spring_33 : decode cX11_spring 33 = .ok (.getfield 60, 3) := by decide +kernel
theorem dX11_spring_36 : decode cX11_spring 36 = .ok (.invokevirtual 244, 3) := by decide +kernel
theorem dX11_spring_39 : decode cX11_spring 39 = .ok (.iconst 1, 1) := by decide +kernel
theorem dX11_spring_40 : decode cX11_spring 40 = .ok (.invokevirtual 248, 3) := by decide +kernel
theorem dX11_spring_43 : decode cX11_spring 43 = .ok (.aload_n 0, 1) := by decide +kernel
theorem dX11_spring_44 : decode cX11_spring 44 = .ok (.getfield 26, 3) := by decide +kernel
theorem dX11_spring_47 : decode cX11_spring 47 = .ok (.invokevirtual 255, 3) := by decide +kernel
theorem dX11_spring_50 : decode cX11_spring 50 = .ok (.istore_n 2, 1) := by decide +kernel
theorem dX11_spring_51 : decode cX11_spring 51 = .ok (.iconst 0, 1) := by decide +kernel
theorem dX11_spring_52 : decode cX11_spring 52 = .ok (.istore_n 3, 1) := by decide +kernel
theorem dX11_spring_53 : decode cX11_spring 53 = .ok (.iload_n 3, 1) := by decide +kernel
theorem dX11_spring_54 : decode cX11_spring 54 = .ok (.aload_n 0, 1) := by decide +kernel
theorem dX11_spring_55 : decode cX11_spring 55 = .ok (.getfield 53, 3) := by decide +kernel
theorem dX11_spring_58 : decode cX11_spring 58 = .ok (.getfield 279, 3) := by decide +kernel
theorem dX11_spring_61 : decode cX11_spring 61 = .ok (.if_icmp .ge 24, 3) := by decide +kernel
theorem dX11_spring_85 : decode cX11_spring 85 = .ok (.iload_n 3, 1) := by decide +kernel
theorem dX11_spring_86 : decode cX11_spring 86 = .ok (.ifCond .le 10, 3) := by decide +kernel
theorem dX11_spring_96 : decode cX11_spring 96 = .ok (.aload_n 0, 1) := by decide +kernel
theorem dX11_spring_97 : decode cX11_spring 97 = .ok (.getfield 19, 3) := by decide +kernel
theorem dX11_spring_100 : decode cX11_spring 100 = .ok (.iload_n 3, 1) := by decide +kernel
theorem dX11_spring_101 : decode cX11_spring 101 = .ok (.aload_n 0, 1) := by decide +kernel
theorem dX11_spring_102 : decode cX11_spring 102 = .ok (.getfield 53, 3) := by decide +kernel
theorem dX11_spring_105 : decode cX11_spring 105 = .ok (.getfield 279, 3) := by decide +kernel
theorem dX11_spring_108 : decode cX11_spring 108 = .ok (.if_icmp .ge 7, 3) := by decide +kernel
theorem dX11_spring_115 : decode cX11_spring 115 = .ok (.iconst 0, 1) := by decide +kernel
theorem dX11_spring_116 : decode cX11_spring 116 = .ok (.aload_n 0, 1) := by decide +kernel
theorem dX11_spring_117 : decode cX11_spring 117 = .ok (.getfield 26, 3) := by decide +kernel
theorem dX11_spring_120 : decode cX11_spring 120 = .ok (.invokevirtual 255, 3) := by decide +kernel
theorem dX11_spring_123 : decode cX11_spring 123 = .ok (.iload_n 2, 1) := by decide +kernel
theorem dX11_spring_124 : decode cX11_spring 124 = .ok (.isub, 1) := by decide +kernel
theorem dX11_spring_125 : decode cX11_spring 125 = .ok (.invokevirtual 266, 3) := by decide +kernel
theorem dX11_spring_128 : decode cX11_spring 128 = .ok (.iload_n 3, 1) := by decide +kernel
theorem dX11_spring_129 : decode cX11_spring 129 = .ok (.ireturn, 1) := by decide +kernel
theorem dX11_strengths_0 : decode cX11_strengths 0 = .ok (.aload_n 0, 1) := by decide +kernel
theorem dX11_strengths_1 : decode cX11_strengths 1 = .ok (.getfield 26, 3) := by decide +kernel
theorem dX11_strengths_4 : decode cX11_strengths 4 = .ok (.iload_n 1, 1) := by decide +kernel
theorem dX11_strengths_5 : decode cX11_strengths 5 = .ok (.invokevirtual 175, 3) := by decide +kernel
theorem dX11_strengths_8 : decode cX11_strengths 8 = .ok (.ifCond .ne 5, 3) := by decide +kernel
theorem dX11_strengths_11 : decode cX11_strengths 11 = .ok (.iconst (-1), 1) := by decide +kernel
theorem dX11_strengths_12 : decode cX11_strengths 12 = .ok (.ireturn, 1) := by decide +kernel
theorem dX11_swear_0 : decode cX11_swear 0 = .ok (.aload_n 0, 1) := by decide +kernel
theorem dX11_swear_1 : decode cX11_swear 1 = .ok (.getfield 26, 3) := by decide +kernel
theorem dX11_swear_4 : decode cX11_swear 4 = .ok (.iload_n 1, 1) := by decide +kernel
theorem dX11_swear_5 : decode cX11_swear 5 = .ok (.invokevirtual 200, 3) := by decide +kernel
theorem dX11_swear_8 : decode cX11_swear 8 = .ok (.ifCond .eq 14, 3) := by decide +kernel
theorem dX11_swear_22 : decode cX11_swear 22 = .ok (.iconst (-1), 1) := by decide +kernel
theorem dX11_swear_23 : decode cX11_swear 23 = .ok (.ireturn, 1) := by decide +kernel
theorem dX11_town_0 : decode cX11_town 0 = .ok (.aload_n 0, 1) := by decide +kernel
theorem dX11_town_1 : decode cX11_town 1 = .ok (.getfield 33, 3) := by decide +kernel
theorem dX11_town_4 : decode cX11_town 4 = .ok (.aload_n 0, 1) := by decide +kernel
theorem dX11_town_5 : decode cX11_town 5 = .ok (.getfield 26, 3) := by decide +kernel
theorem dX11_town_8 : decode cX11_town 8 = .ok (.invokevirtual 116, 3) := by decide +kernel
theorem dX11_town_11 : decode cX11_town 11 = .ok (.aload_n 0, 1) := by decide +kernel
theorem dX11_town_12 : decode cX11_town 12 = .ok (.getfield 10, 3) := by decide +kernel
theorem dX11_town_15 : decode cX11_town 15 = .ok (.aload_n 0, 1) := by decide +kernel
theorem dX11_town_16 : decode cX11_town 16 = .ok (.getfield 33, 3) := by decide +kernel
theorem dX11_town_19 : decode cX11_town 19 = .ok (.invokestatic 120, 3) := by decide +kernel
theorem dX11_town_22 : decode cX11_town 22 = .ok (.istore_n 1, 1) := by decide +kernel
theorem dX11_town_23 : decode cX11_town 23 = .ok (.aload_n 0, 1) := by decide +kernel
theorem dX11_town_24 : decode cX11_town 24 = .ok (.getfield 10, 3) := by decide +kernel
theorem dX11_town_27 : decode cX11_town 27 = .ok (.invokevirtual 126, 3) := by decide +kernel
theorem dX11_town_30 : decode cX11_town 30 = .ok (.iload_n 1, 1) := by decide +kernel
theorem dX11_town_31 : decode cX11_town 31 = .ok (.ifCond .le 21, 3) := by decide +kernel
theorem dX11_town_52 : decode cX11_town 52 = .ok (.iload_n 1, 1) := by decide +kernel
theorem dX11_town_53 : decode cX11_town 53 = .ok (.ireturn, 1) := by decide +kernel
theorem dX11_undo_0 : decode cX11_undo 0 = .ok (.aload_n 0, 1) := by decide +kernel
theorem dX11_undo_1 : decode cX11_undo 1 = .ok (.getfield 60, 3) := by decide +kernel
theorem dX11_undo_4 : decode cX11_undo 4 = .ok (.getfield 304, 3) := by decide +kernel
theorem dX11_undo_7 : decode cX11_undo 7 = .ok (.ifCond .ne 5, 3) := by decide +kernel
theorem dX11_undo_10 : decode cX11_undo 10 = .ok (.iconst (-1), 1) := by decide +kernel
theorem dX11_undo_11 : decode cX11_undo 11 = .ok (.ireturn, 1) := by decide +kernel
theorem dX11_ways_0 : decode cX11_ways 0 = .ok (.aload_n 0, 1) := by decide +kernel
theorem dX11_ways_1 : decode cX11_ways 1 = .ok (.invokevirtual 332, 3) := by decide +kernel
theorem dX11_ways_4 : decode cX11_ways 4 = .ok (.ifCond .eq 6, 3) := by decide +kernel
theorem dX11_ways_10 : decode cX11_ways 10 = .ok (.aload_n 0, 1) := by decide +kernel
theorem dX11_ways_11 : decode cX11_ways 11 = .ok (.invokevirtual 336, 3) := by decide +kernel
theorem dX11_ways_14 : decode cX11_ways 14 = .ok (.aload_n 0, 1) := by decide +kernel
theorem dX11_ways_15 : decode cX11_ways 15 = .ok (.getfield 19, 3) := by decide +kernel
theorem dX11_ways_18 : decode cX11_ways 18 = .ok (.invokevirtual 328, 3) := by decide +kernel
theorem dX11_ways_21 : decode cX11_ways 21 = .ok (.iconst 0, 1) := by decide +kernel
theorem dX11_ways_22 : decode cX11_ways 22 = .ok (.istore_n 1, 1) := by decide +kernel
theorem dX11_ways_23 : decode cX11_ways 23 = .ok (.iconst 0, 1) := by decide +kernel
theorem dX11_ways_24 : decode cX11_ways 24 = .ok (.istore_n 2, 1) := by decide +kernel
theorem dX11_ways_25 : decode cX11_ways 25 = .ok (.iload_n 2, 1) := by decide +kernel
theorem dX11_ways_26 : decode cX11_ways 26 = .ok (.sipush 20000, 3) := by decide +kernel
theorem dX11_ways_29 : decode cX11_ways 29 = .ok (.if_icmp .ge 60, 3) := by decide +kernel
theorem dX11_ways_32 : decode cX11_ways 32 = .ok (.aload_n 0, 1) := by decide +kernel
theorem dX11_ways_33 : decode cX11_ways 33 = .ok (.getfield 30, 3) := by decide +kernel
theorem dX11_ways_36 : decode cX11_ways 36 = .ok (.invokevirtual 339, 3) := by decide +kernel
theorem dX11_ways_39 : decode cX11_ways 39 = .ok (.ifCond .eq 31, 3) := by decide +kernel
theorem dX11_ways_42 : decode cX11_ways 42 = .ok (.iload_n 1, 1) := by decide +kernel
theorem dX11_ways_43 : decode cX11_ways 43 = .ok (.ifCond .ne 24, 3) := by decide +kernel
theorem dX11_ways_46 : decode cX11_ways 46 = .ok (.aload_n 0, 1) := by decide +kernel
theorem dX11_ways_47 : decode cX11_ways 47 = .ok (.getfield 19, 3) := by decide +kernel
theorem dX11_ways_50 : decode cX11_ways 50 = .ok (.aload_n 0, 1) := by decide +kernel
theorem dX11_ways_51 : decode cX11_ways 51 = .ok (.getfield 30, 3) := by decide +kernel
theorem dX11_ways_54 : decode cX11_ways 54 = .ok (.getfield 186, 3) := by decide +kernel
theorem dX11_ways_57 : decode cX11_ways 57 = .ok (.aload_n 0, 1) := by decide +kernel
theorem dX11_ways_58 : decode cX11_ways 58 = .ok (.getfield 30, 3) := by decide +kernel
theorem dX11_ways_61 : decode cX11_ways 61 = .ok (.getfield 312, 3) := by decide +kernel
theorem dX11_ways_64 : decode cX11_ways 64 = .ok (.invokevirtual 315, 3) := by decide +kernel
theorem dX11_ways_67 : decode cX11_ways 67 = .ok (.iinc 1 1, 3) := by decide +kernel
theorem dX11_ways_70 : decode cX11_ways 70 = .ok (.aload_n 0, 1) := by decide +kernel
theorem dX11_ways_71 : decode cX11_ways 71 = .ok (.getfield 30, 3) := by decide +kernel
theorem dX11_ways_74 : decode cX11_ways 74 = .ok (.invokevirtual 342, 3) := by decide +kernel
theorem dX11_ways_77 : decode cX11_ways 77 = .ok (.ifCond .ne 6, 3) := by decide +kernel
theorem dX11_ways_80 : decode cX11_ways 80 = .ok (.goto 9, 3) := by decide +kernel
theorem dX11_ways_89 : decode cX11_ways 89 = .ok (.iload_n 1, 1) := by decide +kernel
theorem dX11_ways_90 : decode cX11_ways 90 = .ok (.ireturn, 1) := by decide +kernel
theorem dX11_waysAreTooMany_0 : decode cX11_waysAreTooMany 0 = .ok (.aload_n 0, 1) := by decide +kernel
theorem dX11_waysAreTooMany_1 : decode cX11_waysAreTooMany 1 = .ok (.getfield 26, 3) := by decide +kernel
theorem dX11_waysAreTooMany_4 : decode cX11_waysAreTooMany 4 = .ok (.getfield 238, 3) := by decide +kernel
theorem dX11_waysAreTooMany_7 : decode cX11_waysAreTooMany 7 = .ok (.iconst 1, 1) := by decide +kernel
theorem dX11_waysAreTooMany_8 : decode cX11_waysAreTooMany 8 = .ok (.iadd, 1) := by decide +kernel
theorem dX11_waysAreTooMany_9 : decode cX11_waysAreTooMany 9 = .ok (.aload_n 0, 1) := by decide +kernel
theorem dX11_waysAreTooMany_10 : decode cX11_waysAreTooMany 10 = .ok (.getfield 26, 3) := by decide +kernel
theorem dX11_waysAreTooMany_13 : decode cX11_waysAreTooMany 13 = .ok (.getfield 312, 3) := by decide +kernel
theorem dX11_waysAreTooMany_16 : decode cX11_waysAreTooMany 16 = .ok (.invokestatic 417, 3) := by decide +kernel
theorem dX11_waysAreTooMany_19 : decode cX11_waysAreTooMany 19 = .ok (.sipush 20000, 3) := by decide +kernel
theorem dX11_waysAreTooMany_22 : decode cX11_waysAreTooMany 22 = .ok (.if_icmp .le 7, 3) := by decide +kernel
theorem dX11_waysAreTooMany_29 : decode cX11_waysAreTooMany 29 = .ok (.iconst 0, 1) := by decide +kernel
theorem dX11_waysAreTooMany_30 : decode cX11_waysAreTooMany 30 = .ok (.ireturn, 1) := by decide +kernel
theorem dX11_wheel_0 : decode cX11_wheel 0 = .ok (.iload_n 1, 1) := by decide +kernel
theorem dX11_wheel_1 : decode cX11_wheel 1 = .ok (.invokestatic 286, 3) := by decide +kernel
theorem dX11_wheel_4 : decode cX11_wheel 4 = .ok (.ifCond .eq 13, 3) := by decide +kernel
theorem dX11_wheel_7 : decode cX11_wheel 7 = .ok (.iload_n 2, 1) := by decide +kernel
theorem dX11_wheel_8 : decode cX11_wheel 8 = .ok (.ifCond .lt 9, 3) := by decide +kernel
theorem dX11_wheel_11 : decode cX11_wheel 11 = .ok (.iload_n 2, 1) := by decide +kernel
theorem dX11_wheel_12 : decode cX11_wheel 12 = .ok (.bipush 60, 2) := by decide +kernel
theorem dX11_wheel_14 : decode cX11_wheel 14 = .ok (.if_icmp .le 5, 3) := by decide +kernel
theorem dX11_wheel_17 : decode cX11_wheel 17 = .ok (.iconst (-1), 1) := by decide +kernel
theorem dX11_wheel_18 : decode cX11_wheel 18 = .ok (.ireturn, 1) := by decide +kernel
theorem dX11_wheel_19 : decode cX11_wheel 19 = .ok (.aload_n 0, 1) := by decide +kernel
theorem dX11_wheel_20 : decode cX11_wheel 20 = .ok (.aload_n 0, 1) := by decide +kernel
theorem dX11_wheel_21 : decode cX11_wheel 21 = .ok (.getfield 26, 3) := by decide +kernel
theorem dX11_wheel_24 : decode cX11_wheel 24 = .ok (.iload_n 1, 1) := by decide +kernel
theorem dX11_wheel_25 : decode cX11_wheel 25 = .ok (.iload_n 2, 1) := by decide +kernel
theorem dX11_wheel_26 : decode cX11_wheel 26 = .ok (.invokevirtual 348, 3) := by decide +kernel
theorem dX11_wheel_29 : decode cX11_wheel 29 = .ok (.istore_n 3, 1) := by decide +kernel
theorem dX11_wheel_30 : decode cX11_wheel 30 = .ok (.iload_n 3, 1) := by decide +kernel
theorem dX11_wheel_31 : decode cX11_wheel 31 = .ok (.iconst (-1), 1) := by decide +kernel
theorem dX11_wheel_32 : decode cX11_wheel 32 = .ok (.if_icmp .ne 6, 3) := by decide +kernel
theorem dX11_wheel_35 : decode cX11_wheel 35 = .ok (.bipush (-2), 2) := by decide +kernel
theorem dX11_wheel_37 : decode cX11_wheel 37 = .ok (.ireturn, 1) := by decide +kernel
theorem dX11_win_0 : decode cX11_win 0 = .ok (.aload_n 0, 1) := by decide +kernel
theorem dX11_win_1 : decode cX11_win 1 = .ok (.getfield 26, 3) := by decide +kernel
theorem dX11_win_4 : decode cX11_win 4 = .ok (.iload_n 1, 1) := by decide +kernel
theorem dX11_win_5 : decode cX11_win 5 = .ok (.invokevirtual 175, 3) := by decide +kernel
theorem dX11_win_8 : decode cX11_win 8 = .ok (.ifCond .eq 25, 3) := by decide +kernel
theorem dX11_win_33 : decode cX11_win 33 = .ok (.iconst (-1), 1) := by decide +kernel
theorem dX11_win_34 : decode cX11_win 34 = .ok (.ireturn, 1) := by decide +kernel
theorem dX12_absent_0 : decode cX12_absent 0 = .ok (.aload_n 0, 1) := by decide +kernel
theorem dX12_absent_1 : decode cX12_absent 1 = .ok (.iconst 0, 1) := by decide +kernel
theorem dX12_absent_2 : decode cX12_absent 2 = .ok (.putfield 124, 3) := by decide +kernel
theorem dX12_absent_5 : decode cX12_absent 5 = .ok (.iconst 0, 1) := by decide +kernel
theorem dX12_absent_6 : decode cX12_absent 6 = .ok (.istore_n 1, 1) := by decide +kernel
theorem dX12_absent_7 : decode cX12_absent 7 = .ok (.iconst 0, 1) := by decide +kernel
theorem dX12_absent_8 : decode cX12_absent 8 = .ok (.istore_n 2, 1) := by decide +kernel
theorem dX12_absent_9 : decode cX12_absent 9 = .ok (.iload_n 2, 1) := by decide +kernel
theorem dX12_absent_10 : decode cX12_absent 10 = .ok (.aload_n 0, 1) := by decide +kernel
theorem dX12_absent_11 : decode cX12_absent 11 = .ok (.getfield 137, 3) := by decide +kernel
theorem dX12_absent_14 : decode cX12_absent 14 = .ok (.if_icmp .ge 33, 3) := by decide +kernel
theorem dX12_absent_47 : decode cX12_absent 47 = .ok (.aload_n 0, 1) := by decide +kernel
theorem dX12_absent_48 : decode cX12_absent 48 = .ok (.iconst 0, 1) := by decide +kernel
theorem dX12_absent_49 : decode cX12_absent 49 = .ok (.putfield 281, 3) := by decide +kernel
theorem dX12_absent_52 : decode cX12_absent 52 = .ok (.aload_n 0, 1) := by decide +kernel
theorem dX12_absent_53 : decode cX12_absent 53 = .ok (.iconst 0, 1) := by decide +kernel
theorem dX12_absent_54 : decode cX12_absent 54 = .ok (.putfield 127, 3) := by decide +kernel
theorem dX12_absent_57 : decode cX12_absent 57 = .ok (.aload_n 0, 1) := by decide +kernel
theorem dX12_absent_58 : decode cX12_absent 58 = .ok (.aload_n 0, 1) := by decide +kernel
theorem dX12_absent_59 : decode cX12_absent 59 = .ok (.invokevirtual 423, 3) := by decide +kernel
theorem dX12_absent_62 : decode cX12_absent 62 = .ok (.ifCond .eq 7, 3) := by decide +kernel
theorem dX12_absent_65 : decode cX12_absent 65 = .ok (.iconst 1, 1) := by decide +kernel
theorem dX12_absent_66 : decode cX12_absent 66 = .ok (.goto 4, 3) := by decide +kernel
theorem dX12_absent_70 : decode cX12_absent 70 = .ok (.invokevirtual 324, 3) := by decide +kernel
theorem dX12_absent_73 : decode cX12_absent 73 = .ok (.iload_n 1, 1) := by decide +kernel
theorem dX12_absent_74 : decode cX12_absent 74 = .ok (.ireturn, 1) := by decide +kernel
theorem dX12_again_0 : decode cX12_again 0 = .ok (.aload_n 0, 1) := by decide +kernel
theorem dX12_again_1 : decode cX12_again 1 = .ok (.iconst 0, 1) := by decide +kernel
theorem dX12_again_2 : decode cX12_again 2 = .ok (.putfield 124, 3) := by decide +kernel
theorem dX12_again_5 : decode cX12_again 5 = .ok (.iload_n 1, 1) := by decide +kernel
theorem dX12_again_6 : decode cX12_again 6 = .ok (.iconst 0, 1) := by decide +kernel
theorem dX12_again_7 : decode cX12_again 7 = .ok (.iconst 1, 1) := by decide +kernel
theorem dX12_again_8 : decode cX12_again 8 = .ok (.invokestatic 133, 3) := by decide +kernel
theorem dX12_again_11 : decode cX12_again 11 = .ok (.ifCond .eq 25, 3) := by decide +kernel
theorem dX12_again_14 : decode cX12_again 14 = .ok (.aload_n 0, 1) := by decide +kernel
theorem dX12_again_15 : decode cX12_again 15 = .ok (.getfield 117, 3) := by decide +kernel
theorem dX12_again_18 : decode cX12_again 18 = .ok (.iload_n 1, 1) := by decide +kernel
theorem dX12_again_19 : decode cX12_again 19 = .ok (.baload, 1) := by decide +kernel
theorem dX12_again_20 : decode cX12_again 20 = .ok (.ifCond .eq 16, 3) := by decide +kernel
theorem dX12_again_36 : decode cX12_again 36 = .ok (.iconst 0, 1) := by decide +kernel
theorem dX12_again_37 : decode cX12_again 37 = .ok (.ireturn, 1) := by decide +kernel
theorem dX12_aim_0 : decode cX12_aim 0 = .ok (.aload_n 0, 1) := by decide +kernel
theorem dX12_aim_1 : decode cX12_aim 1 = .ok (.iconst 0, 1) := by decide +kernel
theorem dX12_aim_2 : decode cX12_aim 2 = .ok (.putfield 124, 3) := by decide +kernel
theorem dX12_aim_5 : decode cX12_aim 5 = .ok (.aload_n 0, 1) := by decide +kernel
theorem dX12_aim_6 : decode cX12_aim 6 = .ok (.getfield 143, 3) := by decide +kernel
theorem dX12_aim_9 : decode cX12_aim 9 = .ok (.istore_n 1, 1) := by decide +kernel
theorem dX12_aim_10 : decode cX12_aim 10 = .ok (.aload_n 0, 1) := by decide +kernel
theorem dX12_aim_11 : decode cX12_aim 11 = .ok (.iconst 0, 1) := by decide +kernel
theorem dX12_aim_12 : decode cX12_aim 12 = .ok (.putfield 143, 3) := by decide +kernel
theorem dX12_aim_15 : decode cX12_aim 15 = .ok (.iload_n 1, 1) := by decide +kernel
theorem dX12_aim_16 : decode cX12_aim 16 = .ok (.ifCond .ne 17, 3) := by decide +kernel
theorem dX12_aim_19 : decode cX12_aim 19 = .ok (.aload_n 0, 1) := by decide +kernel
theorem dX12_aim_20 : decode cX12_aim 20 = .ok (.getfield 137, 3) := by decide +kernel
theorem dX12_aim_23 : decode cX12_aim 23 = .ok (.ifCond .le 10, 3) := by decide +kernel
theorem dX12_aim_33 : decode cX12_aim 33 = .ok (.iconst 0, 1) := by decide +kernel
theorem dX12_aim_34 : decode cX12_aim 34 = .ok (.istore_n 2, 1) := by decide +kernel
theorem dX12_aim_35 : decode cX12_aim 35 = .ok (.iconst 0, 1) := by decide +kernel
theorem dX12_aim_36 : decode cX12_aim 36 = .ok (.istore_n 3, 1) := by decide +kernel
theorem dX12_aim_37 : decode cX12_aim 37 = .ok (.iload_n 3, 1) := by decide +kernel
theorem dX12_aim_38 : decode cX12_aim 38 = .ok (.iload_n 1, 1) := by decide +kernel
theorem dX12_aim_39 : decode cX12_aim 39 = .ok (.if_icmp .ge 106, 3) := by decide +kernel
theorem dX12_aim_145 : decode cX12_aim 145 = .ok (.iload_n 1, 1) := by decide +kernel
theorem dX12_aim_146 : decode cX12_aim 146 = .ok (.aload_n 0, 1) := by decide +kernel
theorem dX12_aim_147 : decode cX12_aim 147 = .ok (.getfield 137, 3) := by decide +kernel
theorem dX12_aim_150 : decode cX12_aim 150 = .ok (.if_icmp .ge 7, 3) := by decide +kernel
theorem dX12_aim_157 : decode cX12_aim 157 = .ok (.iconst 0, 1) := by decide +kernel
theorem dX12_aim_158 : decode cX12_aim 158 = .ok (.istore_n 3, 1) := by decide +kernel
theorem dX12_aim_159 : decode cX12_aim 159 = .ok (.iload_n 3, 1) := by decide +kernel
theorem dX12_aim_160 : decode cX12_aim 160 = .ok (.iload_n 1, 1) := by decide +kernel
theorem dX12_aim_161 : decode cX12_aim 161 = .ok (.if_icmp .ge 39, 3) := by decide +kernel
theorem dX12_aim_200 : decode cX12_aim 200 = .ok (.aload_n 0, 1) := by decide +kernel
theorem dX12_aim_201 : decode cX12_aim 201 = .ok (.iconst 1, 1) := by decide +kernel
theorem dX12_aim_202 : decode cX12_aim 202 = .ok (.putfield 389, 3) := by decide +kernel
theorem dX12_aim_205 : decode cX12_aim 205 = .ok (.aload_n 0, 1) := by decide +kernel
theorem dX12_aim_206 : decode cX12_aim 206 = .ok (.aload_n 0, 1) := by decide +kernel
theorem dX12_aim_207 : decode cX12_aim 207 = .ok (.getfield 191, 3) := by decide +kernel
theorem dX12_aim_210 : decode cX12_aim 210 = .ok (.putfield 393, 3) := by decide +kernel
theorem dX12_aim_213 : decode cX12_aim 213 = .ok (.iload_n 1, 1) := by decide +kernel
theorem dX12_aim_214 : decode cX12_aim 214 = .ok (.ireturn, 1) := by decide +kernel
theorem dX12_bears_0 : decode cX12_bears 0 = .ok (.aload_n 0, 1) := by decide +kernel
theorem dX12_bears_1 : decode cX12_bears 1 = .ok (.iconst 0, 1) := by decide +kernel
theorem dX12_bears_2 : decode cX12_bears 2 = .ok (.putfield 124, 3) := by decide +kernel
theorem dX12_bears_5 : decode cX12_bears 5 = .ok (.iload_n 1, 1) := by decide +kernel
theorem dX12_bears_6 : decode cX12_bears 6 = .ok (.invokestatic 354, 3) := by decide +kernel
theorem dX12_bears_9 : decode cX12_bears 9 = .ok (.ifCond .ne 5, 3) := by decide +kernel
theorem dX12_bears_12 : decode cX12_bears 12 = .ok (.iconst (-1), 1) := by decide +kernel
theorem dX12_bears_13 : decode cX12_bears 13 = .ok (.ireturn, 1) := by decide +kernel
theorem dX12_bears_14 : decode cX12_bears 14 = .ok (.bipush (-2), 2) := by decide +kernel
theorem dX12_bears_16 : decode cX12_bears 16 = .ok (.istore_n 2, 1) := by decide +kernel
theorem dX12_bears_17 : decode cX12_bears 17 = .ok (.bipush 9, 2) := by decide +kernel
theorem dX12_bears_19 : decode cX12_bears 19 = .ok (.istore_n 3, 1) := by decide +kernel
theorem dX12_bears_20 : decode cX12_bears 20 = .ok (.iload_n 3, 1) := by decide +kernel
theorem dX12_bears_21 : decode cX12_bears 21 = .ok (.ifCond .lt 40, 3) := by decide +kernel
theorem dX12_bears_24 : decode cX12_bears 24 = .ok (.iload_n 2, 1) := by decide +kernel
theorem dX12_bears_25 : decode cX12_bears 25 = .ok (.ifCond .ge 36, 3) := by decide +kernel
theorem dX12_bears_28 : decode cX12_bears 28 = .ok (.aload_n 0, 1) := by decide +kernel
theorem dX12_bears_29 : decode cX12_bears 29 = .ok (.iload_n 3, 1) := by decide +kernel
theorem dX12_bears_30 : decode cX12_bears 30 = .ok (.putfield 43, 3) := by decide +kernel
theorem dX12_bears_33 : decode cX12_bears 33 = .ok (.aload_n 0, 1) := by decide +kernel
theorem dX12_bears_34 : decode cX12_bears 34 = .ok (.iload_n 1, 1) := by decide +kernel
theorem dX12_bears_35 : decode cX12_bears 35 = .ok (.invokevirtual 348, 3) := by decide +kernel
theorem dX12_bears_38 : decode cX12_bears 38 = .ok (.aload_n 0, 1) := by decide +kernel
theorem dX12_bears_39 : decode cX12_bears 39 = .ok (.aload_n 0, 1) := by decide +kernel
theorem dX12_bears_40 : decode cX12_bears 40 = .ok (.getfield 81, 3) := by decide +kernel
theorem dX12_bears_43 : decode cX12_bears 43 = .ok (.invokevirtual 357, 3) := by decide +kernel
theorem dX12_bears_46 : decode cX12_bears 46 = .ok (.aload_n 0, 1) := by decide +kernel
theorem dX12_bears_47 : decode cX12_bears 47 = .ok (.getfield 140, 3) := by decide +kernel
theorem dX12_bears_50 : decode cX12_bears 50 = .ok (.if_icmp .ne 5, 3) := by decide +kernel
theorem dX12_bears_53 : decode cX12_bears 53 = .ok (.iload_n 3, 1) := by decide +kernel
theorem dX12_bears_54 : decode cX12_bears 54 = .ok (.istore_n 2, 1) := by decide +kernel
theorem dX12_bears_55 : decode cX12_bears 55 = .ok (.iinc 3 (-1), 3) := by decide +kernel
theorem dX12_bears_58 : decode cX12_bears 58 = .ok (.goto (-38), 3) := by decide +kernel
theorem dX12_bears_61 : decode cX12_bears 61 = .ok (.aload_n 0, 1) := by decide +kernel
theorem dX12_bears_62 : decode cX12_bears 62 = .ok (.iconst (-1), 1) := by decide +kernel
theorem dX12_bears_63 : decode cX12_bears 63 = .ok (.putfield 43, 3) := by decide +kernel
theorem dX12_bears_66 : decode cX12_bears 66 = .ok (.iload_n 2, 1) := by decide +kernel
theorem dX12_bears_67 : decode cX12_bears 67 = .ok (.ireturn, 1) := by decide +kernel
theorem dX12_begin_0 : decode cX12_begin 0 = .ok (.aload_n 0, 1) := by decide +kernel
theorem dX12_begin_1 : decode cX12_begin 1 = .ok (.aload_n 1, 1) := by decide +kernel
theorem dX12_begin_2 : decode cX12_begin 2 = .ok (.putfield 146, 3) := by decide +kernel
theorem dX12_begin_5 : decode cX12_begin 5 = .ok (.aload_n 0, 1) := by decide +kernel
theorem dX12_begin_6 : decode cX12_begin 6 = .ok (.iload_n 2, 1) := by decide +kernel
theorem dX12_begin_7 : decode cX12_begin 7 = .ok (.putfield 149, 3) := by decide +kernel
theorem dX12_begin_10 : decode cX12_begin 10 = .ok (.aload_n 0, 1) := by decide +kernel
theorem dX12_begin_11 : decode cX12_begin 11 = .ok (.iload_n 3, 1) := by decide +kernel
theorem dX12_begin_12 : decode cX12_begin 12 = .ok (.putfield 152, 3) := by decide +kernel
theorem dX12_begin_15 : decode cX12_begin 15 = .ok (.aload_n 0, 1) := by decide +kernel
theorem dX12_begin_16 : decode cX12_begin 16 = .ok (.iconst 0, 1) := by decide +kernel
theorem dX12_begin_17 : decode cX12_begin 17 = .ok (.putfield 155, 3) := by decide +kernel
theorem dX12_begin_20 : decode cX12_begin 20 = .ok (.aload_n 0, 1) := by decide +kernel
theorem dX12_begin_21 : decode cX12_begin 21 = .ok (.iconst (-1), 1) := by decide +kernel
theorem dX12_begin_22 : decode cX12_begin 22 = .ok (.putfield 158, 3) := by decide +kernel
theorem dX12_begin_25 : decode cX12_begin 25 = .ok (.return_, 1) := by decide +kernel
theorem dX12_beginThen_0 : decode cX12_beginThen 0 = .ok (.aload_n 0, 1) := by decide +kernel
theorem dX12_beginThen_1 : decode cX12_beginThen 1 = .ok (.getfield 9, 3) := by decide +kernel
theorem dX12_beginThen_4 : decode cX12_beginThen 4 = .ok (.aload_n 0, 1) := by decide +kernel
theorem dX12_beginThen_5 : decode cX12_beginThen 5 = .ok (.getfield 81, 3) := by decide +kernel
theorem dX12_beginThen_8 : decode cX12_beginThen 8 = .ok (.iconst 0, 1) := by decide +kernel
theorem dX12_beginThen_9 : decode cX12_beginThen 9 = .ok (.invokestatic 309, 3) := by decide +kernel
theorem dX12_beginThen_12 : decode cX12_beginThen 12 = .ok (.iconst 0, 1) := by decide +kernel
theorem dX12_beginThen_13 : decode cX12_beginThen 13 = .ok (.istore_n 1, 1) := by decide +kernel
theorem dX12_beginThen_14 : decode cX12_beginThen 14 = .ok (.iload_n 1, 1) := by decide +kernel
theorem dX12_beginThen_15 : decode cX12_beginThen 15 = .ok (.aload_n 0, 1) := by decide +kernel
theorem dX12_beginThen_16 : decode cX12_beginThen 16 = .ok (.getfield 137, 3) := by decide +kernel
theorem dX12_beginThen_19 : decode cX12_beginThen 19 = .ok (.if_icmp .ge 27, 3) := by decide +kernel
theorem dX12_beginThen_46 : decode cX12_beginThen 46 = .ok (.return_, 1) := by decide +kernel
theorem dX12_build_0 : decode cX12_build 0 = .ok (.aload_n 0, 1) := by decide +kernel
theorem dX12_build_1 : decode cX12_build 1 = .ok (.iconst 0, 1) := by decide +kernel
theorem dX12_build_2 : decode cX12_build 2 = .ok (.putfield 124, 3) := by decide +kernel
theorem dX12_build_5 : decode cX12_build 5 = .ok (.aload_n 0, 1) := by decide +kernel
theorem dX12_build_6 : decode cX12_build 6 = .ok (.iload_n 1, 1) := by decide +kernel
theorem dX12_build_7 : decode cX12_build 7 = .ok (.invokevirtual 247, 3) := by decide +kernel
theorem dX12_build_10 : decode cX12_build 10 = .ok (.ifCond .eq 40, 3) := by decide +kernel
theorem dX12_build_50 : decode cX12_build 50 = .ok (.iconst (-1), 1) := by decide +kernel
theorem dX12_build_51 : decode cX12_build 51 = .ok (.ireturn, 1) := by decide +kernel
theorem dX12_calm_0 : decode cX12_calm 0 = .ok (.aload_n 0, 1) := by decide +kernel
theorem dX12_calm_1 : decode cX12_calm 1 = .ok (.iconst 0, 1) := by decide +kernel
theorem dX12_calm_2 : decode cX12_calm 2 = .ok (.putfield 124, 3) := by decide +kernel
theorem dX12_calm_5 : decode cX12_calm 5 = .ok (.aload_n 0, 1) := by decide +kernel
theorem dX12_calm_6 : decode cX12_calm 6 = .ok (.invokevirtual 342, 3) := by decide +kernel
theorem dX12_calm_9 : decode cX12_calm 9 = .ok (.iconst 0, 1) := by decide +kernel
theorem dX12_calm_10 : decode cX12_calm 10 = .ok (.istore_n 1, 1) := by decide +kernel
theorem dX12_calm_11 : decode cX12_calm 11 = .ok (.iload_n 1, 1) := by decide +kernel
theorem dX12_calm_12 : decode cX12_calm 12 = .ok (.bipush 60, 2) := by decide +kernel
theorem dX12_calm_14 : decode cX12_calm 14 = .ok (.if_icmp .gt 94, 3) := by decide +kernel
theorem dX12_calm_17 : decode cX12_calm 17 = .ok (.aload_n 0, 1) := by decide +kernel
theorem dX12_calm_18 : decode cX12_calm 18 = .ok (.getfield 81, 3) := by decide +kernel
theorem dX12_calm_21 : decode cX12_calm 21 = .ok (.aload_n 0, 1) := by decide +kernel
theorem dX12_calm_22 : decode cX12_calm 22 = .ok (.getfield 84, 3) := by decide +kernel
theorem dX12_calm_25 : decode cX12_calm 25 = .ok (.iconst 0, 1) := by decide +kernel
theorem dX12_calm_26 : decode cX12_calm 26 = .ok (.invokestatic 309, 3) := by decide +kernel
theorem dX12_calm_29 : decode cX12_calm 29 = .ok (.aload_n 0, 1) := by decide +kernel
theorem dX12_calm_30 : decode cX12_calm 30 = .ok (.aload_n 0, 1) := by decide +kernel
theorem dX12_calm_31 : decode cX12_calm 31 = .ok (.getfield 81, 3) := by decide +kernel
theorem dX12_calm_34 : decode cX12_calm 34 = .ok (.invokevirtual 320, 3) := by decide +kernel
theorem dX12_calm_37 : decode cX12_calm 37 = .ok (.iconst 1, 1) := by decide +kernel
theorem dX12_calm_38 : decode cX12_calm 38 = .ok (.istore_n 2, 1) := by decide +kernel
theorem dX12_calm_39 : decode cX12_calm 39 = .ok (.iconst 0, 1) := by decide +kernel
theorem dX12_calm_40 : decode cX12_calm 40 = .ok (.istore_n 3, 1) := by decide +kernel
theorem dX12_calm_41 : decode cX12_calm 41 = .ok (.iload_n 3, 1) := by decide +kernel
theorem dX12_calm_42 : decode cX12_calm 42 = .ok (.aload_n 0, 1) := by decide +kernel
theorem dX12_calm_43 : decode cX12_calm 43 = .ok (.getfield 137, 3) := by decide +kernel
theorem dX12_calm_46 : decode cX12_calm 46 = .ok (.if_icmp .ge 34, 3) := by decide +kernel
theorem dX12_calm_80 : decode cX12_calm 80 = .ok (.iload_n 2, 1) := by decide +kernel
theorem dX12_calm_81 : decode cX12_calm 81 = .ok (.ifCond .ne 6, 3) := by decide +kernel
theorem dX12_calm_87 : decode cX12_calm 87 = .ok (.aload_n 0, 1) := by decide +kernel
theorem dX12_calm_88 : decode cX12_calm 88 = .ok (.iconst 0, 1) := by decide +kernel
theorem dX12_calm_89 : decode cX12_calm 89 = .ok (.putfield 127, 3) := by decide +kernel
theorem dX12_calm_92 : decode cX12_calm 92 = .ok (.aload_n 0, 1) := by decide +kernel
theorem dX12_calm_93 : decode cX12_calm 93 = .ok (.aload_n 0, 1) := by decide +kernel
theorem dX12_calm_94 : decode cX12_calm 94 = .ok (.getfield 81, 3) := by decide +kernel
theorem dX12_calm_97 : decode cX12_calm 97 = .ok (.invokevirtual 351, 3) := by decide +kernel
theorem dX12_calm_100 : decode cX12_calm 100 = .ok (.iload_n 1, 1) := by decide +kernel
theorem dX12_calm_101 : decode cX12_calm 101 = .ok (.ireturn, 1) := by decide +kernel
theorem dX12_chance_0 : decode cX12_chance 0 = .ok (.aload_n 0, 1) := by decide +kernel
theorem dX12_chance_1 : decode cX12_chance 1 = .ok (.iconst 0, 1) := by decide +kernel
theorem dX12_chance_2 : decode cX12_chance 2 = .ok (.putfield 124, 3) := by decide +kernel
theorem dX12_chance_5 : decode cX12_chance 5 = .ok (.aload_n 0, 1) := by decide +kernel
theorem dX12_chance_6 : decode cX12_chance 6 = .ok (.iload_n 1, 1) := by decide +kernel
theorem dX12_chance_7 : decode cX12_chance 7 = .ok (.invokevirtual 247, 3) := by decide +kernel
theorem dX12_chance_10 : decode cX12_chance 10 = .ok (.ifCond .eq 23, 3) := by decide +kernel
theorem dX12_chance_33 : decode cX12_chance 33 = .ok (.iconst (-1), 1) := by decide +kernel
theorem dX12_chance_34 : decode cX12_chance 34 = .ok (.ireturn, 1) := by decide +kernel
theorem dX12_choose_0 : decode cX12_choose 0 = .ok (.aload_n 0, 1) := by decide +kernel
theorem dX12_choose_1 : decode cX12_choose 1 = .ok (.iconst 0, 1) := by decide +kernel
theorem dX12_choose_2 : decode cX12_choose 2 = .ok (.putfield 124, 3) := by decide +kernel
theorem dX12_choose_5 : decode cX12_choose 5 = .ok (.aload_n 0, 1) := by decide +kernel
theorem dX12_choose_6 : decode cX12_choose 6 = .ok (.iload_n 1, 1) := by decide +kernel
theorem dX12_choose_7 : decode cX12_choose 7 = .ok (.invokevirtual 268, 3) := by decide +kernel
theorem dX12_choose_10 : decode cX12_choose 10 = .ok (.ifCond .eq 10, 3) := by decide +kernel
theorem dX12_choose_20 : decode cX12_choose 20 = .ok (.iconst (-1), 1) := by decide +kernel
theorem dX12_choose_21 : decode cX12_choose 21 = .ok (.ireturn, 1) := by decide +kernel
theorem dX12_count_0 : decode cX12_count 0 = .ok (.aload_n 0, 1) := by decide +kernel
theorem dX12_count_1 : decode cX12_count 1 = .ok (.iconst 0, 1) := by decide +kernel
theorem dX12_count_2 : decode cX12_count 2 = .ok (.putfield 124, 3) := by decide +kernel
theorem dX12_count_5 : decode cX12_count 5 = .ok (.iconst 0, 1) := by decide +kernel
theorem dX12_count_6 : decode cX12_count 6 = .ok (.istore_n 2, 1) := by decide +kernel
theorem dX12_count_7 : decode cX12_count 7 = .ok (.iload_n 1, 1) := by decide +kernel
theorem dX12_count_8 : decode cX12_count 8 = .ok (.tableswitch 213 0 11 #[64, 69, 74, 79, 87, 125, 134, 164, 193, 198, 203, 208], 64) := by decide +kernel
theorem dX12_count_72 : decode cX12_count 72 = .ok (.aload_n 0, 1) := by decide +kernel
theorem dX12_count_73 : decode cX12_count 73 = .ok (.getfield 130, 3) := by decide +kernel
theorem dX12_count_76 : decode cX12_count 76 = .ok (.ireturn, 1) := by decide +kernel
theorem dX12_count_77 : decode cX12_count 77 = .ok (.aload_n 0, 1) := by decide +kernel
theorem dX12_count_78 : decode cX12_count 78 = .ok (.getfield 137, 3) := by decide +kernel
theorem dX12_count_81 : decode cX12_count 81 = .ok (.ireturn, 1) := by decide +kernel
theorem dX12_count_82 : decode cX12_count 82 = .ok (.aload_n 0, 1) := by decide +kernel
theorem dX12_count_83 : decode cX12_count 83 = .ok (.getfield 140, 3) := by decide +kernel
theorem dX12_count_86 : decode cX12_count 86 = .ok (.ireturn, 1) := by decide +kernel
theorem dX12_count_87 : decode cX12_count 87 = .ok (.aload_n 0, 1) := by decide +kernel
theorem dX12_count_88 : decode cX12_count 88 = .ok (.getfield 9, 3) := by decide +kernel
theorem dX12_count_91 : decode cX12_count 91 = .ok (.bipush 54, 2) := by decide +kernel
theorem dX12_count_93 : decode cX12_count 93 = .ok (.iaload, 1) := by decide +kernel
theorem dX12_count_94 : decode cX12_count 94 = .ok (.ireturn, 1) := by decide +kernel
theorem dX12_count_95 : decode cX12_count 95 = .ok (.iconst 0, 1) := by decide +kernel
theorem dX12_count_96 : decode cX12_count 96 = .ok (.istore_n 3, 1) := by decide +kernel
theorem dX12_count_97 : decode cX12_count 97 = .ok (.iload_n 3, 1) := by decide +kernel
theorem dX12_count_98 : decode cX12_count 98 = .ok (.aload_n 0, 1) := by decide +kernel
theorem dX12_count_99 : decode cX12_count 99 = .ok (.getfield 137, 3) := by decide +kernel
theorem dX12_count_102 : decode cX12_count 102 = .ok (.if_icmp .ge 29, 3) := by decide +kernel
theorem dX12_count_131 : decode cX12_count 131 = .ok (.iload_n 2, 1) := by decide +kernel
theorem dX12_count_132 : decode cX12_count 132 = .ok (.ireturn, 1) := by decide +kernel
theorem dX12_count_133 : decode cX12_count 133 = .ok (.aload_n 0, 1) := by decide +kernel
theorem dX12_count_134 : decode cX12_count 134 = .ok (.aload_n 0, 1) := by decide +kernel
theorem dX12_count_135 : decode cX12_count 135 = .ok (.getfield 9, 3) := by decide +kernel
theorem dX12_count_138 : decode cX12_count 138 = .ok (.invokevirtual 300, 3) := by decide +kernel
theorem dX12_count_141 : decode cX12_count 141 = .ok (.ireturn, 1) := by decide +kernel
theorem dX12_count_142 : decode cX12_count 142 = .ok (.iconst 0, 1) := by decide +kernel
theorem dX12_count_143 : decode cX12_count 143 = .ok (.istore_n 3, 1) := by decide +kernel
theorem dX12_count_144 : decode cX12_count 144 = .ok (.iload_n 3, 1) := by decide +kernel
theorem dX12_count_145 : decode cX12_count 145 = .ok (.aload_n 0, 1) := by decide +kernel
theorem dX12_count_146 : decode cX12_count 146 = .ok (.getfield 140, 3) := by decide +kernel
theorem dX12_count_149 : decode cX12_count 149 = .ok (.if_icmp .ge 21, 3) := by decide +kernel
theorem dX12_count_170 : decode cX12_count 170 = .ok (.iload_n 2, 1) := by decide +kernel
theorem dX12_count_171 : decode cX12_count 171 = .ok (.ireturn, 1) := by decide +kernel
theorem dX12_count_172 : decode cX12_count 172 = .ok (.iconst 0, 1) := by decide +kernel
theorem dX12_count_173 : decode cX12_count 173 = .ok (.istore_n 3, 1) := by decide +kernel
theorem dX12_count_174 : decode cX12_count 174 = .ok (.iload_n 3, 1) := by decide +kernel
theorem dX12_count_175 : decode cX12_count 175 = .ok (.aload_n 0, 1) := by decide +kernel
theorem dX12_count_176 : decode cX12_count 176 = .ok (.getfield 140, 3) := by decide +kernel
theorem dX12_count_179 : decode cX12_count 179 = .ok (.if_icmp .ge 20, 3) := by decide +kernel
theorem dX12_count_199 : decode cX12_count 199 = .ok (.iload_n 2, 1) := by decide +kernel
theorem dX12_count_200 : decode cX12_count 200 = .ok (.ireturn, 1) := by decide +kernel
theorem dX12_count_201 : decode cX12_count 201 = .ok (.aload_n 0, 1) := by decide +kernel
theorem dX12_count_202 : decode cX12_count 202 = .ok (.getfield 197, 3) := by decide +kernel
theorem dX12_count_205 : decode cX12_count 205 = .ok (.ireturn, 1) := by decide +kernel
theorem dX12_count_206 : decode cX12_count 206 = .ok (.aload_n 0, 1) := by decide +kernel
theorem dX12_count_207 : decode cX12_count 207 = .ok (.getfield 420, 3) := by decide +kernel
theorem dX12_count_210 : decode cX12_count 210 = .ok (.ireturn, 1) := by decide +kernel
theorem dX12_count_211 : decode cX12_count 211 = .ok (.aload_n 0, 1) := by decide +kernel
theorem dX12_count_212 : decode cX12_count 212 = .ok (.getfield 127, 3) := by decide +kernel
theorem dX12_count_215 : decode cX12_count 215 = .ok (.ireturn, 1) := by decide +kernel
theorem dX12_count_216 : decode cX12_count 216 = .ok (.aload_n 0, 1) := by decide +kernel
theorem dX12_count_217 : decode cX12_count 217 = .ok (.getfield 143, 3) := by decide +kernel
theorem dX12_count_220 : decode cX12_count 220 = .ok (.ireturn, 1) := by decide +kernel
theorem dX12_count_221 : decode cX12_count 221 = .ok (.iconst (-1), 1) := by decide +kernel
theorem dX12_count_222 : decode cX12_count 222 = .ok (.ireturn, 1) := by decide +kernel
theorem dX12_countWays_0 : decode cX12_countWays 0 = .ok (.iconst 1, 1) := by decide +kernel
theorem dX12_countWays_1 : decode cX12_countWays 1 = .ok (.istore_n 1, 1) := by decide +kernel
theorem dX12_countWays_2 : decode cX12_countWays 2 = .ok (.iconst 0, 1) := by decide +kernel
theorem dX12_countWays_3 : decode cX12_countWays 3 = .ok (.istore_n 2, 1) := by decide +kernel
theorem dX12_countWays_4 : decode cX12_countWays 4 = .ok (.iload_n 2, 1) := by decide +kernel
theorem dX12_countWays_5 : decode cX12_countWays 5 = .ok (.aload_n 0, 1) := by decide +kernel
theorem dX12_countWays_6 : decode cX12_countWays 6 = .ok (.getfield 137, 3) := by decide +kernel
theorem dX12_countWays_9 : decode cX12_countWays 9 = .ok (.if_icmp .ge 24, 3) := by decide +kernel
theorem dX12_countWays_33 : decode cX12_countWays 33 = .ok (.iload_n 1, 1) := by decide +kernel
theorem dX12_countWays_34 : decode cX12_countWays 34 = .ok (.ireturn, 1) := by decide +kernel
theorem dX12_courts_0 : decode cX12_courts 0 = .ok (.aload_n 0, 1) := by decide +kernel
theorem dX12_courts_1 : decode cX12_courts 1 = .ok (.iconst 0, 1) := by decide +kernel
theorem dX12_courts_2 : decode cX12_courts 2 = .ok (.putfield 124, 3) := by decide +kernel
theorem dX12_courts_5 : decode cX12_courts 5 = .ok (.iload_n 1, 1) := by decide +kernel
theorem dX12_courts_6 : decode cX12_courts 6 = .ok (.iconst 1, 1) := by decide +kernel
theorem dX12_courts_7 : decode cX12_courts 7 = .ok (.bipush 20, 2) := by decide +kernel
theorem dX12_courts_9 : decode cX12_courts 9 = .ok (.invokestatic 133, 3) := by decide +kernel
theorem dX12_courts_12 : decode cX12_courts 12 = .ok (.ifCond .eq 13, 3) := by decide +kernel
theorem dX12_courts_15 : decode cX12_courts 15 = .ok (.iload_n 2, 1) := by decide +kernel
theorem dX12_courts_16 : decode cX12_courts 16 = .ok (.iconst 0, 1) := by decide +kernel
theorem dX12_courts_17 : decode cX12_courts 17 = .ok (.bipush 12, 2) := by decide +kernel
theorem dX12_courts_19 : decode cX12_courts 19 = .ok (.invokestatic 133, 3) := by decide +kernel
theorem dX12_courts_22 : decode cX12_courts 22 = .ok (.ifCond .ne 5, 3) := by decide +kernel
theorem dX12_courts_25 : decode cX12_courts 25 = .ok (.iconst (-1), 1) := by decide +kernel
theorem dX12_courts_26 : decode cX12_courts 26 = .ok (.ireturn, 1) := by decide +kernel
theorem dX12_courts_27 : decode cX12_courts 27 = .ok (.aload_n 0, 1) := by decide +kernel
theorem dX12_courts_28 : decode cX12_courts 28 = .ok (.invokevirtual 386, 3) := by decide +kernel
theorem dX12_courts_31 : decode cX12_courts 31 = .ok (.istore_n 3, 1) := by decide +kernel
theorem dX12_courts_32 : decode cX12_courts 32 = .ok (.iconst 0, 1) := by decide +kernel
theorem dX12_courts_33 : decode cX12_courts 33 = .ok (.istore 4, 2) := by decide +kernel
theorem dX12_courts_35 : decode cX12_courts 35 = .ok (.iconst 0, 1) := by decide +kernel
theorem dX12_courts_36 : decode cX12_courts 36 = .ok (.istore 5, 2) := by decide +kernel
theorem dX12_courts_38 : decode cX12_courts 38 = .ok (.iload 4, 2) := by decide +kernel
theorem dX12_courts_40 : decode cX12_courts 40 = .ok (.iload_n 2, 1) := by decide +kernel
theorem dX12_courts_41 : decode cX12_courts 41 = .ok (.if_icmp .ge 86, 3) := by decide +kernel
theorem dX12_courts_44 : decode cX12_courts 44 = .ok (.iload 5, 2) := by decide +kernel
theorem dX12_courts_46 : decode cX12_courts 46 = .ok (.ifCond .ne 81, 3) := by decide +kernel
theorem dX12_courts_49 : decode cX12_courts 49 = .ok (.iconst 1, 1) := by decide +kernel
theorem dX12_courts_50 : decode cX12_courts 50 = .ok (.istore 5, 2) := by decide +kernel
theorem dX12_courts_52 : decode cX12_courts 52 = .ok (.iinc 4 1, 3) := by decide +kernel
theorem dX12_courts_55 : decode cX12_courts 55 = .ok (.iconst 0, 1) := by decide +kernel
theorem dX12_courts_56 : decode cX12_courts 56 = .ok (.istore 6, 2) := by decide +kernel
theorem dX12_courts_58 : decode cX12_courts 58 = .ok (.iload 6, 2) := by decide +kernel
theorem dX12_courts_60 : decode cX12_courts 60 = .ok (.iconst 4, 1) := by decide +kernel
theorem dX12_courts_61 : decode cX12_courts 61 = .ok (.if_icmp .ge 63, 3) := by decide +kernel
theorem dX12_courts_64 : decode cX12_courts 64 = .ok (.aload_n 0, 1) := by decide +kernel
theorem dX12_courts_65 : decode cX12_courts 65 = .ok (.iload 6, 2) := by decide +kernel
theorem dX12_courts_67 : decode cX12_courts 67 = .ok (.iload_n 1, 1) := by decide +kernel
theorem dX12_courts_68 : decode cX12_courts 68 = .ok (.invokevirtual 382, 3) := by decide +kernel
theorem dX12_courts_71 : decode cX12_courts 71 = .ok (.aload_n 0, 1) := by decide +kernel
theorem dX12_courts_72 : decode cX12_courts 72 = .ok (.getfield 376, 3) := by decide +kernel
theorem dX12_courts_75 : decode cX12_courts 75 = .ok (.ifCond .lt 43, 3) := by decide +kernel
theorem dX12_courts_118 : decode cX12_courts 118 = .ok (.iinc 6 1, 3) := by decide +kernel
theorem dX12_courts_121 : decode cX12_courts 121 = .ok (.goto (-63), 3) := by decide +kernel
theorem dX12_courts_124 : decode cX12_courts 124 = .ok (.goto (-86), 3) := by decide +kernel
theorem dX12_courts_127 : decode cX12_courts 127 = .ok (.aload_n 0, 1) := by decide +kernel
theorem dX12_courts_128 : decode cX12_courts 128 = .ok (.iconst 0, 1) := by decide +kernel
theorem dX12_courts_129 : decode cX12_courts 129 = .ok (.putfield 127, 3) := by decide +kernel
theorem dX12_courts_132 : decode cX12_courts 132 = .ok (.aload_n 0, 1) := by decide +kernel
theorem dX12_courts_133 : decode cX12_courts 133 = .ok (.iload 5, 2) := by decide +kernel
theorem dX12_courts_135 : decode cX12_courts 135 = .ok (.ifCond .eq 7, 3) := by decide +kernel
theorem dX12_courts_138 : decode cX12_courts 138 = .ok (.iconst 1, 1) := by decide +kernel
theorem dX12_courts_139 : decode cX12_courts 139 = .ok (.goto 4, 3) := by decide +kernel
theorem dX12_courts_142 : decode cX12_courts 142 = .ok (.iconst 0, 1) := by decide +kernel
theorem dX12_courts_143 : decode cX12_courts 143 = .ok (.invokevirtual 324, 3) := by decide +kernel
theorem dX12_courts_146 : decode cX12_courts 146 = .ok (.aload_n 0, 1) := by decide +kernel
theorem dX12_courts_147 : decode cX12_courts 147 = .ok (.aload_n 0, 1) := by decide +kernel
theorem dX12_courts_148 : decode cX12_courts 148 = .ok (.invokevirtual 386, 3) := by decide +kernel
theorem dX12_courts_151 : decode cX12_courts 151 = .ok (.invokevirtual 324, 3) := by decide +kernel
theorem dX12_courts_154 : decode cX12_courts 154 = .ok (.iconst 0, 1) := by decide +kernel
theorem dX12_courts_155 : decode cX12_courts 155 = .ok (.istore 6, 2) := by decide +kernel
theorem dX12_courts_157 : decode cX12_courts 157 = .ok (.iload 6, 2) := by decide +kernel
theorem dX12_courts_159 : decode cX12_courts 159 = .ok (.aload_n 0, 1) := by decide +kernel
theorem dX12_courts_160 : decode cX12_courts 160 = .ok (.getfield 130, 3) := by decide +kernel
theorem dX12_courts_163 : decode cX12_courts 163 = .ok (.if_icmp .ge 22, 3) := by decide +kernel
theorem dX12_courts_185 : decode cX12_courts 185 = .ok (.iload 4, 2) := by decide +kernel
theorem dX12_courts_187 : decode cX12_courts 187 = .ok (.ireturn, 1) := by decide +kernel
theorem dX12_day_0 : decode cX12_day 0 = .ok (.aload_n 0, 1) := by decide +kernel
theorem dX12_day_1 : decode cX12_day 1 = .ok (.iconst 0, 1) := by decide +kernel
theorem dX12_day_2 : decode cX12_day 2 = .ok (.putfield 124, 3) := by decide +kernel
theorem dX12_day_5 : decode cX12_day 5 = .ok (.aload_n 0, 1) := by decide +kernel
theorem dX12_day_6 : decode cX12_day 6 = .ok (.iconst 0, 1) := by decide +kernel
theorem dX12_day_7 : decode cX12_day 7 = .ok (.invokevirtual 313, 3) := by decide +kernel
theorem dX12_day_10 : decode cX12_day 10 = .ok (.aload_n 0, 1) := by decide +kernel
theorem dX12_day_11 : decode cX12_day 11 = .ok (.invokevirtual 317, 3) := by decide +kernel
theorem dX12_day_14 : decode cX12_day 14 = .ok (.aload_n 0, 1) := by decide +kernel
theorem dX12_day_15 : decode cX12_day 15 = .ok (.aload_n 0, 1) := by decide +kernel
theorem dX12_day_16 : decode cX12_day 16 = .ok (.getfield 9, 3) := by decide +kernel
theorem dX12_day_19 : decode cX12_day 19 = .ok (.invokevirtual 320, 3) := by decide +kernel
theorem dX12_day_22 : decode cX12_day 22 = .ok (.iconst 0, 1) := by decide +kernel
theorem dX12_day_23 : decode cX12_day 23 = .ok (.istore_n 1, 1) := by decide +kernel
theorem dX12_day_24 : decode cX12_day 24 = .ok (.iconst 0, 1) := by decide +kernel
theorem dX12_day_25 : decode cX12_day 25 = .ok (.istore_n 2, 1) := by decide +kernel
theorem dX12_day_26 : decode cX12_day 26 = .ok (.iload_n 2, 1) := by decide +kernel
theorem dX12_day_27 : decode cX12_day 27 = .ok (.aload_n 0, 1) := by decide +kernel
theorem dX12_day_28 : decode cX12_day 28 = .ok (.getfield 137, 3) := by decide +kernel
theorem dX12_day_31 : decode cX12_day 31 = .ok (.if_icmp .ge 32, 3) := by decide +kernel
theorem dX12_day_63 : decode cX12_day 63 = .ok (.aload_n 0, 1) := by decide +kernel
theorem dX12_day_64 : decode cX12_day 64 = .ok (.iconst 0, 1) := by decide +kernel
theorem dX12_day_65 : decode cX12_day 65 = .ok (.putfield 127, 3) := by decide +kernel
theorem dX12_day_68 : decode cX12_day 68 = .ok (.aload_n 0, 1) := by decide +kernel
theorem dX12_day_69 : decode cX12_day 69 = .ok (.aload_n 0, 1) := by decide +kernel
theorem dX12_day_70 : decode cX12_day 70 = .ok (.getfield 291, 3) := by decide +kernel
theorem dX12_day_73 : decode cX12_day 73 = .ok (.invokevirtual 324, 3) := by decide +kernel
theorem dX12_day_76 : decode cX12_day 76 = .ok (.aload_n 0, 1) := by decide +kernel
theorem dX12_day_77 : decode cX12_day 77 = .ok (.aload_n 0, 1) := by decide +kernel
theorem dX12_day_78 : decode cX12_day 78 = .ok (.aload_n 0, 1) := by decide +kernel
theorem dX12_day_79 : decode cX12_day 79 = .ok (.getfield 9, 3) := by decide +kernel
theorem dX12_day_82 : decode cX12_day 82 = .ok (.invokevirtual 327, 3) := by decide +kernel
theorem dX12_day_85 : decode cX12_day 85 = .ok (.invokevirtual 324, 3) := by decide +kernel
theorem dX12_day_88 : decode cX12_day 88 = .ok (.iload_n 1, 1) := by decide +kernel
theorem dX12_day_89 : decode cX12_day 89 = .ok (.ireturn, 1) := by decide +kernel
theorem dX12_days_0 : decode cX12_days 0 = .ok (.aload_n 0, 1) := by decide +kernel
theorem dX12_days_1 : decode cX12_days 1 = .ok (.iconst 0, 1) := by decide +kernel
theorem dX12_days_2 : decode cX12_days 2 = .ok (.putfield 124, 3) := by decide +kernel
theorem dX12_days_5 : decode cX12_days 5 = .ok (.iload_n 1, 1) := by decide +kernel
theorem dX12_days_6 : decode cX12_days 6 = .ok (.iconst 0, 1) := by decide +kernel
theorem dX12_days_7 : decode cX12_days 7 = .ok (.bipush 60, 2) := by decide +kernel
theorem dX12_days_9 : decode cX12_days 9 = .ok (.invokestatic 133, 3) := by decide +kernel
theorem dX12_days_12 : decode cX12_days 12 = .ok (.ifCond .ne 5, 3) := by decide +kernel
theorem dX12_days_15 : decode cX12_days 15 = .ok (.iconst (-1), 1) := by decide +kernel
theorem dX12_days_16 : decode cX12_days 16 = .ok (.ireturn, 1) := by decide +kernel
theorem dX12_days_17 : decode cX12_days 17 = .ok (.iload_n 1, 1) := by decide +kernel
theorem dX12_days_18 : decode cX12_days 18 = .ok (.ifCond .le 12, 3) := by decide +kernel
theorem dX12_days_21 : decode cX12_days 21 = .ok (.aload_n 0, 1) := by decide +kernel
theorem dX12_days_22 : decode cX12_days 22 = .ok (.iconst 0, 1) := by decide +kernel
theorem dX12_days_23 : decode cX12_days 23 = .ok (.invokevirtual 313, 3) := by decide +kernel
theorem dX12_days_26 : decode cX12_days 26 = .ok (.aload_n 0, 1) := by decide +kernel
theorem dX12_days_27 : decode cX12_days 27 = .ok (.invokevirtual 317, 3) := by decide +kernel
theorem dX12_days_30 : decode cX12_days 30 = .ok (.iconst 0, 1) := by decide +kernel
theorem dX12_days_31 : decode cX12_days 31 = .ok (.istore_n 2, 1) := by decide +kernel
theorem dX12_days_32 : decode cX12_days 32 = .ok (.iconst 0, 1) := by decide +kernel
theorem dX12_days_33 : decode cX12_days 33 = .ok (.istore_n 3, 1) := by decide +kernel
theorem dX12_days_34 : decode cX12_days 34 = .ok (.iconst 0, 1) := by decide +kernel
theorem dX12_days_35 : decode cX12_days 35 = .ok (.istore 4, 2) := by decide +kernel
theorem dX12_days_37 : decode cX12_days 37 = .ok (.iload 4, 2) := by decide +kernel
theorem dX12_days_39 : decode cX12_days 39 = .ok (.iload_n 1, 1) := by decide +kernel
theorem dX12_days_40 : decode cX12_days 40 = .ok (.if_icmp .ge 31, 3) := by decide +kernel
theorem dX12_days_43 : decode cX12_days 43 = .ok (.aload_n 0, 1) := by decide +kernel
theorem dX12_days_44 : decode cX12_days 44 = .ok (.aload_n 0, 1) := by decide +kernel
theorem dX12_days_45 : decode cX12_days 45 = .ok (.getfield 9, 3) := by decide +kernel
theorem dX12_days_48 : decode cX12_days 48 = .ok (.invokevirtual 320, 3) := by decide +kernel
theorem dX12_days_51 : decode cX12_days 51 = .ok (.iload_n 2, 1) := by decide +kernel
theorem dX12_days_52 : decode cX12_days 52 = .ok (.aload_n 0, 1) := by decide +kernel
theorem dX12_days_53 : decode cX12_days 53 = .ok (.getfield 291, 3) := by decide +kernel
theorem dX12_days_56 : decode cX12_days 56 = .ok (.iadd, 1) := by decide +kernel
theorem dX12_days_57 : decode cX12_days 57 = .ok (.istore_n 2, 1) := by decide +kernel
theorem dX12_days_58 : decode cX12_days 58 = .ok (.iload_n 3, 1) := by decide +kernel
theorem dX12_days_59 : decode cX12_days 59 = .ok (.aload_n 0, 1) := by decide +kernel
theorem dX12_days_60 : decode cX12_days 60 = .ok (.getfield 294, 3) := by decide +kernel
theorem dX12_days_63 : decode cX12_days 63 = .ok (.iadd, 1) := by decide +kernel
theorem dX12_days_64 : decode cX12_days 64 = .ok (.istore_n 3, 1) := by decide +kernel
theorem dX12_days_65 : decode cX12_days 65 = .ok (.iinc 4 1, 3) := by decide +kernel
theorem dX12_days_68 : decode cX12_days 68 = .ok (.goto (-31), 3) := by decide +kernel
theorem dX12_days_71 : decode cX12_days 71 = .ok (.aload_n 0, 1) := by decide +kernel
theorem dX12_days_72 : decode cX12_days 72 = .ok (.iconst 0, 1) := by decide +kernel
theorem dX12_days_73 : decode cX12_days 73 = .ok (.putfield 127, 3) := by decide +kernel
theorem dX12_days_76 : decode cX12_days 76 = .ok (.aload_n 0, 1) := by decide +kernel
theorem dX12_days_77 : decode cX12_days 77 = .ok (.iload_n 3, 1) := by decide +kernel
theorem dX12_days_78 : decode cX12_days 78 = .ok (.invokevirtual 324, 3) := by decide +kernel
theorem dX12_days_81 : decode cX12_days 81 = .ok (.aload_n 0, 1) := by decide +kernel
theorem dX12_days_82 : decode cX12_days 82 = .ok (.aload_n 0, 1) := by decide +kernel
theorem dX12_days_83 : decode cX12_days 83 = .ok (.aload_n 0, 1) := by decide +kernel
theorem dX12_days_84 : decode cX12_days 84 = .ok (.getfield 9, 3) := by decide +kernel
theorem dX12_days_87 : decode cX12_days 87 = .ok (.invokevirtual 327, 3) := by decide +kernel
theorem dX12_days_90 : decode cX12_days 90 = .ok (.invokevirtual 324, 3) := by decide +kernel
theorem dX12_days_93 : decode cX12_days 93 = .ok (.iload_n 2, 1) := by decide +kernel
theorem dX12_days_94 : decode cX12_days 94 = .ok (.ireturn, 1) := by decide +kernel
theorem dX12_drive_0 : decode cX12_drive 0 = .ok (.aload_n 0, 1) := by decide +kernel
theorem dX12_drive_1 : decode cX12_drive 1 = .ok (.iconst 0, 1) := by decide +kernel
theorem dX12_drive_2 : decode cX12_drive 2 = .ok (.putfield 124, 3) := by decide +kernel
theorem dX12_drive_5 : decode cX12_drive 5 = .ok (.aload_n 0, 1) := by decide +kernel
theorem dX12_drive_6 : decode cX12_drive 6 = .ok (.iload_n 1, 1) := by decide +kernel
theorem dX12_drive_7 : decode cX12_drive 7 = .ok (.invokevirtual 261, 3) := by decide +kernel
theorem dX12_drive_10 : decode cX12_drive 10 = .ok (.ifCond .eq 10, 3) := by decide +kernel
theorem dX12_drive_20 : decode cX12_drive 20 = .ok (.iconst (-1), 1) := by decide +kernel
theorem dX12_drive_21 : decode cX12_drive 21 = .ok (.ireturn, 1) := by decide +kernel
theorem dX12_end_0 : decode cX12_end 0 = .ok (.aload_n 0, 1) := by decide +kernel
theorem dX12_end_1 : decode cX12_end 1 = .ok (.iconst 0, 1) := by decide +kernel
theorem dX12_end_2 : decode cX12_end 2 = .ok (.putfield 124, 3) := by decide +kernel
theorem dX12_end_5 : decode cX12_end 5 = .ok (.iload_n 1, 1) := by decide +kernel
theorem dX12_end_6 : decode cX12_end 6 = .ok (.iconst 0, 1) := by decide +kernel
theorem dX12_end_7 : decode cX12_end 7 = .ok (.aload_n 0, 1) := by decide +kernel
theorem dX12_end_8 : decode cX12_end 8 = .ok (.getfield 143, 3) := by decide +kernel
theorem dX12_end_11 : decode cX12_end 11 = .ok (.invokestatic 133, 3) := by decide +kernel
theorem dX12_end_14 : decode cX12_end 14 = .ok (.ifCond .ne 5, 3) := by decide +kernel
theorem dX12_end_17 : decode cX12_end 17 = .ok (.iconst 0, 1) := by decide +kernel
theorem dX12_end_18 : decode cX12_end 18 = .ok (.ireturn, 1) := by decide +kernel
theorem dX12_end_19 : decode cX12_end 19 = .ok (.aload_n 0, 1) := by decide +kernel
theorem dX12_end_20 : decode cX12_end 20 = .ok (.iload_n 1, 1) := by decide +kernel
theorem dX12_end_21 : decode cX12_end 21 = .ok (.putfield 143, 3) := by decide +kernel
theorem dX12_end_24 : decode cX12_end 24 = .ok (.iconst 1, 1) := by decide +kernel
theorem dX12_end_25 : decode cX12_end 25 = .ok (.ireturn, 1) := by decide +kernel
theorem dX12_fewest_0 : decode cX12_fewest 0 = .ok (.aload_n 0, 1) := by decide +kernel
theorem dX12_fewest_1 : decode cX12_fewest 1 = .ok (.iconst 0, 1) := by decide +kernel
theorem dX12_fewest_2 : decode cX12_fewest 2 = .ok (.putfield 124, 3) := by decide +kernel
theorem dX12_fewest_5 : decode cX12_fewest 5 = .ok (.aload_n 0, 1) := by decide +kernel
theorem dX12_fewest_6 : decode cX12_fewest 6 = .ok (.invokevirtual 396, 3) := by decide +kernel
theorem dX12_fewest_9 : decode cX12_fewest 9 = .ok (.ifCond .ne 6, 3) := by decide +kernel
theorem dX12_fewest_12 : decode cX12_fewest 12 = .ok (.bipush (-4), 2) := by decide +kernel
theorem dX12_fewest_14 : decode cX12_fewest 14 = .ok (.ireturn, 1) := by decide +kernel
theorem dX12_findWheel_0 : decode cX12_findWheel 0 = .ok (.aload_n 0, 1) := by decide +kernel
theorem dX12_findWheel_1 : decode cX12_findWheel 1 = .ok (.iload_n 2, 1) := by decide +kernel
theorem dX12_findWheel_2 : decode cX12_findWheel 2 = .ok (.invokevirtual 348, 3) := by decide +kernel
theorem dX12_findWheel_5 : decode cX12_findWheel 5 = .ok (.aload_n 0, 1) := by decide +kernel
theorem dX12_findWheel_6 : decode cX12_findWheel 6 = .ok (.aload_n 0, 1) := by decide +kernel
theorem dX12_findWheel_7 : decode cX12_findWheel 7 = .ok (.aload_n 0, 1) := by decide +kernel
theorem dX12_findWheel_8 : decode cX12_findWheel 8 = .ok (.getfield 81, 3) := by decide +kernel
theorem dX12_findWheel_11 : decode cX12_findWheel 11 = .ok (.iload_n 1, 1) := by decide +kernel
theorem dX12_findWheel_12 : decode cX12_findWheel 12 = .ok (.invokevirtual 339, 3) := by decide +kernel
theorem dX12_findWheel_15 : decode cX12_findWheel 15 = .ok (.putfield 373, 3) := by decide +kernel
theorem dX12_findWheel_18 : decode cX12_findWheel 18 = .ok (.aload_n 0, 1) := by decide +kernel
theorem dX12_findWheel_19 : decode cX12_findWheel 19 = .ok (.bipush (-2), 2) := by decide +kernel
theorem dX12_findWheel_21 : decode cX12_findWheel 21 = .ok (.putfield 376, 3) := by decide +kernel
theorem dX12_findWheel_24 : decode cX12_findWheel 24 = .ok (.iconst 0, 1) := by decide +kernel
theorem dX12_findWheel_25 : decode cX12_findWheel 25 = .ok (.istore_n 3, 1) := by decide +kernel
theorem dX12_findWheel_26 : decode cX12_findWheel 26 = .ok (.iload_n 3, 1) := by decide +kernel
theorem dX12_findWheel_27 : decode cX12_findWheel 27 = .ok (.aload_n 0, 1) := by decide +kernel
theorem dX12_findWheel_28 : decode cX12_findWheel 28 = .ok (.getfield 130, 3) := by decide +kernel
theorem dX12_findWheel_31 : decode cX12_findWheel 31 = .ok (.if_icmp .ge 91, 3) := by decide +kernel
theorem dX12_findWheel_122 : decode cX12_findWheel 122 = .ok (.return_, 1) := by decide +kernel
theorem dX12_fine_0 : decode cX12_fine 0 = .ok (.aload_n 0, 1) := by decide +kernel
theorem dX12_fine_1 : decode cX12_fine 1 = .ok (.getfield 158, 3) := by decide +kernel
theorem dX12_fine_4 : decode cX12_fine 4 = .ok (.iconst (-1), 1) := by decide +kernel
theorem dX12_fine_5 : decode cX12_fine 5 = .ok (.if_icmp .ne 7, 3) := by decide +kernel
theorem dX12_fine_8 : decode cX12_fine 8 = .ok (.iconst 1, 1) := by decide +kernel
theorem dX12_fine_9 : decode cX12_fine 9 = .ok (.goto 4, 3) := by decide +kernel
theorem dX12_fine_13 : decode cX12_fine 13 = .ok (.ireturn, 1) := by decide +kernel
theorem dX12_forget_0 : decode cX12_forget 0 = .ok (.aload_n 0, 1) := by decide +kernel
theorem dX12_forget_1 : decode cX12_forget 1 = .ok (.iconst 0, 1) := by decide +kernel
theorem dX12_forget_2 : decode cX12_forget 2 = .ok (.putfield 124, 3) := by decide +kernel
theorem dX12_forget_5 : decode cX12_forget 5 = .ok (.aload_n 0, 1) := by decide +kernel
theorem dX12_forget_6 : decode cX12_forget 6 = .ok (.getfield 420, 3) := by decide +kernel
theorem dX12_forget_9 : decode cX12_forget 9 = .ok (.istore_n 1, 1) := by decide +kernel
theorem dX12_forget_10 : decode cX12_forget 10 = .ok (.aload_n 0, 1) := by decide +kernel
theorem dX12_forget_11 : decode cX12_forget 11 = .ok (.iconst 0, 1) := by decide +kernel
theorem dX12_forget_12 : decode cX12_forget 12 = .ok (.putfield 420, 3) := by decide +kernel
theorem dX12_forget_15 : decode cX12_forget 15 = .ok (.iload_n 1, 1) := by decide +kernel
theorem dX12_forget_16 : decode cX12_forget 16 = .ok (.ireturn, 1) := by decide +kernel
theorem dX12_frost_0 : decode cX12_frost 0 = .ok (.aload_n 0, 1) := by decide +kernel
theorem dX12_frost_1 : decode cX12_frost 1 = .ok (.iconst 0, 1) := by decide +kernel
theorem dX12_frost_2 : decode cX12_frost 2 = .ok (.putfield 124, 3) := by decide +kernel
theorem dX12_frost_5 : decode cX12_frost 5 = .ok (.aload_n 0, 1) := by decide +kernel
theorem dX12_frost_6 : decode cX12_frost 6 = .ok (.getfield 143, 3) := by decide +kernel
theorem dX12_frost_9 : decode cX12_frost 9 = .ok (.istore_n 1, 1) := by decide +kernel
theorem dX12_frost_10 : decode cX12_frost 10 = .ok (.aload_n 0, 1) := by decide +kernel
theorem dX12_frost_11 : decode cX12_frost 11 = .ok (.iconst 0, 1) := by decide +kernel
theorem dX12_frost_12 : decode cX12_frost 12 = .ok (.putfield 143, 3) := by decide +kernel
theorem dX12_frost_15 : decode cX12_frost 15 = .ok (.iconst 0, 1) := by decide +kernel
theorem dX12_frost_16 : decode cX12_frost 16 = .ok (.istore_n 2, 1) := by decide +kernel
theorem dX12_frost_17 : decode cX12_frost 17 = .ok (.iload_n 2, 1) := by decide +kernel
theorem dX12_frost_18 : decode cX12_frost 18 = .ok (.iload_n 1, 1) := by decide +kernel
theorem dX12_frost_19 : decode cX12_frost 19 = .ok (.if_icmp .ge 35, 3) := by decide +kernel
theorem dX12_frost_54 : decode cX12_frost 54 = .ok (.iconst 0, 1) := by decide +kernel
theorem dX12_frost_55 : decode cX12_frost 55 = .ok (.istore_n 2, 1) := by decide +kernel
theorem dX12_frost_56 : decode cX12_frost 56 = .ok (.iload_n 2, 1) := by decide +kernel
theorem dX12_frost_57 : decode cX12_frost 57 = .ok (.iload_n 1, 1) := by decide +kernel
theorem dX12_frost_58 : decode cX12_frost 58 = .ok (.if_icmp .ge 24, 3) := by decide +kernel
theorem dX12_frost_82 : decode cX12_frost 82 = .ok (.aload_n 0, 1) := by decide +kernel
theorem dX12_frost_83 : decode cX12_frost 83 = .ok (.iload_n 1, 1) := by decide +kernel
theorem dX12_frost_84 : decode cX12_frost 84 = .ok (.putfield 204, 3) := by decide +kernel
theorem dX12_frost_87 : decode cX12_frost 87 = .ok (.iload_n 1, 1) := by decide +kernel
theorem dX12_frost_88 : decode cX12_frost 88 = .ok (.ireturn, 1) := by decide +kernel
theorem dX12_frostOf_0 : decode cX12_frostOf 0 = .ok (.aload_n 0, 1) := by decide +kernel
theorem dX12_frostOf_1 : decode cX12_frostOf 1 = .ok (.getfield 43, 3) := by decide +kernel
theorem dX12_frostOf_4 : decode cX12_frostOf 4 = .ok (.iconst (-1), 1) := by decide +kernel
theorem dX12_frostOf_5 : decode cX12_frostOf 5 = .ok (.if_icmp .eq 8, 3) := by decide +kernel
theorem dX12_frostOf_8 : decode cX12_frostOf 8 = .ok (.aload_n 0, 1) := by decide +kernel
theorem dX12_frostOf_9 : decode cX12_frostOf 9 = .ok (.getfield 43, 3) := by decide +kernel
theorem dX12_frostOf_12 : decode cX12_frostOf 12 = .ok (.ireturn, 1) := by decide +kernel
theorem dX12_frostOf_13 : decode cX12_frostOf 13 = .ok (.aload_n 0, 1) := by decide +kernel
theorem dX12_frostOf_14 : decode cX12_frostOf 14 = .ok (.getfield 204, 3) := by decide +kernel
theorem dX12_frostOf_17 : decode cX12_frostOf 17 = .ok (.ifCond .ne 7, 3) := by decide +kernel
theorem dX12_frostOf_20 : decode cX12_frostOf 20 = .ok (.iconst 0, 1) := by decide +kernel
theorem dX12_frostOf_21 : decode cX12_frostOf 21 = .ok (.goto 14, 3) := by decide +kernel
theorem dX12_frostOf_35 : decode cX12_frostOf 35 = .ok (.ireturn, 1) := by decide +kernel
theorem dX12_gently_0 : decode cX12_gently 0 = .ok (.aload_n 0, 1) := by decide +kernel
theorem dX12_gently_1 : decode cX12_gently 1 = .ok (.iconst 0, 1) := by decide +kernel
theorem dX12_gently_2 : decode cX12_gently 2 = .ok (.putfield 124, 3) := by decide +kernel
theorem dX12_gently_5 : decode cX12_gently 5 = .ok (.aload_n 0, 1) := by decide +kernel
theorem dX12_gently_6 : decode cX12_gently 6 = .ok (.invokevirtual 396, 3) := by decide +kernel
theorem dX12_gently_9 : decode cX12_gently 9 = .ok (.ifCond .ne 6, 3) := by decide +kernel
theorem dX12_gently_12 : decode cX12_gently 12 = .ok (.bipush (-4), 2) := by decide +kernel
theorem dX12_gently_14 : decode cX12_gently 14 = .ok (.ireturn, 1) := by decide +kernel
theorem dX12_goDay_0 : decode cX12_goDay 0 = .ok (.aload_n 0, 1) := by decide +kernel
theorem dX12_goDay_1 : decode cX12_goDay 1 = .ok (.aload_n 1, 1) := by decide +kernel
theorem dX12_goDay_2 : decode cX12_goDay 2 = .ok (.bipush 54, 2) := by decide +kernel
theorem dX12_goDay_4 : decode cX12_goDay 4 = .ok (.iaload, 1) := by decide +kernel
theorem dX12_goDay_5 : decode cX12_goDay 5 = .ok (.invokevirtual 278, 3) := by decide +kernel
theorem dX12_goDay_8 : decode cX12_goDay 8 = .ok (.istore_n 2, 1) := by decide +kernel
theorem dX12_goDay_9 : decode cX12_goDay 9 = .ok (.iconst 0, 1) := by decide +kernel
theorem dX12_goDay_10 : decode cX12_goDay 10 = .ok (.istore_n 3, 1) := by decide +kernel
theorem dX12_goDay_11 : decode cX12_goDay 11 = .ok (.iconst 0, 1) := by decide +kernel
theorem dX12_goDay_12 : decode cX12_goDay 12 = .ok (.istore 4, 2) := by decide +kernel
theorem dX12_goDay_14 : decode cX12_goDay 14 = .ok (.iload 4, 2) := by decide +kernel
theorem dX12_goDay_16 : decode cX12_goDay 16 = .ok (.aload_n 0, 1) := by decide +kernel
theorem dX12_goDay_17 : decode cX12_goDay 17 = .ok (.getfield 137, 3) := by decide +kernel
theorem dX12_goDay_20 : decode cX12_goDay 20 = .ok (.if_icmp .ge 61, 3) := by decide +kernel
theorem dX12_goDay_81 : decode cX12_goDay 81 = .ok (.iconst 0, 1) := by decide +kernel
theorem dX12_goDay_82 : decode cX12_goDay 82 = .ok (.istore 4, 2) := by decide +kernel
theorem dX12_goDay_84 : decode cX12_goDay 84 = .ok (.iload 4, 2) := by decide +kernel
theorem dX12_goDay_86 : decode cX12_goDay 86 = .ok (.aload_n 0, 1) := by decide +kernel
theorem dX12_goDay_87 : decode cX12_goDay 87 = .ok (.getfield 137, 3) := by decide +kernel
theorem dX12_goDay_90 : decode cX12_goDay 90 = .ok (.if_icmp .ge 91, 3) := by decide +kernel
theorem dX12_goDay_181 : decode cX12_goDay 181 = .ok (.aload_n 0, 1) := by decide +kernel
theorem dX12_goDay_182 : decode cX12_goDay 182 = .ok (.iconst 0, 1) := by decide +kernel
theorem dX12_goDay_183 : decode cX12_goDay 183 = .ok (.putfield 291, 3) := by decide +kernel
theorem dX12_goDay_186 : decode cX12_goDay 186 = .ok (.aload_n 0, 1) := by decide +kernel
theorem dX12_goDay_187 : decode cX12_goDay 187 = .ok (.iconst 0, 1) := by decide +kernel
theorem dX12_goDay_188 : decode cX12_goDay 188 = .ok (.putfield 294, 3) := by decide +kernel
theorem dX12_goDay_191 : decode cX12_goDay 191 = .ok (.aload_n 0, 1) := by decide +kernel
theorem dX12_goDay_192 : decode cX12_goDay 192 = .ok (.iconst 0, 1) := by decide +kernel
theorem dX12_goDay_193 : decode cX12_goDay 193 = .ok (.putfield 297, 3) := by decide +kernel
theorem dX12_goDay_196 : decode cX12_goDay 196 = .ok (.iconst 0, 1) := by decide +kernel
theorem dX12_goDay_197 : decode cX12_goDay 197 = .ok (.istore 4, 2) := by decide +kernel
theorem dX12_goDay_199 : decode cX12_goDay 199 = .ok (.iload 4, 2) := by decide +kernel
theorem dX12_goDay_201 : decode cX12_goDay 201 = .ok (.iconst 4, 1) := by decide +kernel
theorem dX12_goDay_202 : decode cX12_goDay 202 = .ok (.if_icmp .ge 17, 3) := by decide +kernel
theorem dX12_goDay_205 : decode cX12_goDay 205 = .ok (.aload_n 0, 1) := by decide +kernel
theorem dX12_goDay_206 : decode cX12_goDay 206 = .ok (.getfield 66, 3) := by decide +kernel
theorem dX12_goDay_209 : decode cX12_goDay 209 = .ok (.iload 4, 2) := by decide +kernel
theorem dX12_goDay_211 : decode cX12_goDay 211 = .ok (.iconst 0, 1) := by decide +kernel
theorem dX12_goDay_212 : decode cX12_goDay 212 = .ok (.iastore, 1) := by decide +kernel
theorem dX12_goDay_213 : decode cX12_goDay 213 = .ok (.iinc 4 1, 3) := by decide +kernel
theorem dX12_goDay_216 : decode cX12_goDay 216 = .ok (.goto (-17), 3) := by decide +kernel
theorem dX12_goDay_219 : decode cX12_goDay 219 = .ok (.iconst 0, 1) := by decide +kernel
theorem dX12_goDay_220 : decode cX12_goDay 220 = .ok (.istore 4, 2) := by decide +kernel
theorem dX12_goDay_222 : decode cX12_goDay 222 = .ok (.iload 4, 2) := by decide +kernel
theorem dX12_goDay_224 : decode cX12_goDay 224 = .ok (.aload_n 0, 1) := by decide +kernel
theorem dX12_goDay_225 : decode cX12_goDay 225 = .ok (.getfield 140, 3) := by decide +kernel
theorem dX12_goDay_228 : decode cX12_goDay 228 = .ok (.if_icmp .ge 174, 3) := by decide +kernel
theorem dX12_goDay_402 : decode cX12_goDay 402 = .ok (.aload_n 1, 1) := by decide +kernel
theorem dX12_goDay_403 : decode cX12_goDay 403 = .ok (.bipush 54, 2) := by decide +kernel
theorem dX12_goDay_405 : decode cX12_goDay 405 = .ok (.dup2, 1) := by decide +kernel
theorem dX12_goDay_406 : decode cX12_goDay 406 = .ok (.iaload, 1) := by decide +kernel
theorem dX12_goDay_407 : decode cX12_goDay 407 = .ok (.iconst 1, 1) := by decide +kernel
theorem dX12_goDay_408 : decode cX12_goDay 408 = .ok (.iadd, 1) := by decide +kernel
theorem dX12_goDay_409 : decode cX12_goDay 409 = .ok (.iastore, 1) := by decide +kernel
theorem dX12_goDay_410 : decode cX12_goDay 410 = .ok (.return_, 1) := by decide +kernel
theorem dX12_goOn_0 : decode cX12_goOn 0 = .ok (.aload_n 0, 1) := by decide +kernel
theorem dX12_goOn_1 : decode cX12_goOn 1 = .ok (.invokevirtual 342, 3) := by decide +kernel
theorem dX12_goOn_4 : decode cX12_goOn 4 = .ok (.iconst 0, 1) := by decide +kernel
theorem dX12_goOn_5 : decode cX12_goOn 5 = .ok (.istore_n 2, 1) := by decide +kernel
theorem dX12_goOn_6 : decode cX12_goOn 6 = .ok (.iload_n 2, 1) := by decide +kernel
theorem dX12_goOn_7 : decode cX12_goOn 7 = .ok (.iload_n 1, 1) := by decide +kernel
theorem dX12_goOn_8 : decode cX12_goOn 8 = .ok (.if_icmp .ge 17, 3) := by decide +kernel
theorem dX12_goOn_11 : decode cX12_goOn 11 = .ok (.aload_n 0, 1) := by decide +kernel
theorem dX12_goOn_12 : decode cX12_goOn 12 = .ok (.aload_n 0, 1) := by decide +kernel
theorem dX12_goOn_13 : decode cX12_goOn 13 = .ok (.getfield 81, 3) := by decide +kernel
theorem dX12_goOn_16 : decode cX12_goOn 16 = .ok (.invokevirtual 320, 3) := by decide +kernel
theorem dX12_goOn_19 : decode cX12_goOn 19 = .ok (.iinc 2 1, 3) := by decide +kernel
theorem dX12_goOn_22 : decode cX12_goOn 22 = .ok (.goto (-16), 3) := by decide +kernel
theorem dX12_goOn_25 : decode cX12_goOn 25 = .ok (.return_, 1) := by decide +kernel
theorem dX12_hasAim_0 : decode cX12_hasAim 0 = .ok (.aload_n 0, 1) := by decide +kernel
theorem dX12_hasAim_1 : decode cX12_hasAim 1 = .ok (.getfield 389, 3) := by decide +kernel
theorem dX12_hasAim_4 : decode cX12_hasAim 4 = .ok (.ifCond .eq 18, 3) := by decide +kernel
theorem dX12_hasAim_22 : decode cX12_hasAim 22 = .ok (.iconst 0, 1) := by decide +kernel
theorem dX12_hasAim_23 : decode cX12_hasAim 23 = .ok (.ireturn, 1) := by decide +kernel
theorem dX12_homeless_0 : decode cX12_homeless 0 = .ok (.aload_n 0, 1) := by decide +kernel
theorem dX12_homeless_1 : decode cX12_homeless 1 = .ok (.iconst 0, 1) := by decide +kernel
theorem dX12_homeless_2 : decode cX12_homeless 2 = .ok (.putfield 124, 3) := by decide +kernel
theorem dX12_homeless_5 : decode cX12_homeless 5 = .ok (.aload_n 0, 1) := by decide +kernel
theorem dX12_homeless_6 : decode cX12_homeless 6 = .ok (.iload_n 1, 1) := by decide +kernel
theorem dX12_homeless_7 : decode cX12_homeless 7 = .ok (.invokevirtual 261, 3) := by decide +kernel
theorem dX12_homeless_10 : decode cX12_homeless 10 = .ok (.ifCond .ne 5, 3) := by decide +kernel
theorem dX12_homeless_13 : decode cX12_homeless 13 = .ok (.iconst (-1), 1) := by decide +kernel
theorem dX12_homeless_14 : decode cX12_homeless 14 = .ok (.ireturn, 1) := by decide +kernel
theorem dX12_housed_0 : decode cX12_housed 0 = .ok (.aload_n 0, 1) := by decide +kernel
theorem dX12_housed_1 : decode cX12_housed 1 = .ok (.aload_n 1, 1) := by decide +kernel
theorem dX12_housed_2 : decode cX12_housed 2 = .ok (.invokevirtual 300, 3) := by decide +kernel
theorem dX12_housed_5 : decode cX12_housed 5 = .ok (.invokestatic 304, 3) := by decide +kernel
theorem dX12_housed_8 : decode cX12_housed 8 = .ok (.ireturn, 1) := by decide +kernel
theorem dX12_in_0 : decode cX12_in 0 = .ok (.iload_n 0, 1) := by decide +kernel
theorem dX12_in_1 : decode cX12_in 1 = .ok (.iload_n 1, 1) := by decide +kernel
theorem dX12_in_2 : decode cX12_in 2 = .ok (.if_icmp .lt 12, 3) := by decide +kernel
theorem dX12_in_5 : decode cX12_in 5 = .ok (.iload_n 0, 1) := by decide +kernel
theorem dX12_in_6 : decode cX12_in 6 = .ok (.iload_n 2, 1) := by decide +kernel
theorem dX12_in_7 : decode cX12_in 7 = .ok (.if_icmp .gt 7, 3) := by decide +kernel
theorem dX12_in_10 : decode cX12_in 10 = .ok (.iconst 1, 1) := by decide +kernel
theorem dX12_in_11 : decode cX12_in 11 = .ok (.goto 4, 3) := by decide +kernel
theorem dX12_in_14 : decode cX12_in 14 = .ok (.iconst 0, 1) := by decide +kernel
theorem dX12_in_15 : decode cX12_in 15 = .ok (.ireturn, 1) := by decide +kernel
theorem dX12_income_0 : decode cX12_income 0 = .ok (.aload_n 0, 1) := by decide +kernel
theorem dX12_income_1 : decode cX12_income 1 = .ok (.iconst 0, 1) := by decide +kernel
theorem dX12_income_2 : decode cX12_income 2 = .ok (.putfield 124, 3) := by decide +kernel
theorem dX12_income_5 : decode cX12_income 5 = .ok (.iload_n 1, 1) := by decide +kernel
theorem dX12_income_6 : decode cX12_income 6 = .ok (.iconst 0, 1) := by decide +kernel
theorem dX12_income_7 : decode cX12_income 7 = .ok (.iconst 3, 1) := by decide +kernel
theorem dX12_income_8 : decode cX12_income 8 = .ok (.invokestatic 133, 3) := by decide +kernel
theorem dX12_income_11 : decode cX12_income 11 = .ok (.ifCond .eq 10, 3) := by decide +kernel
theorem dX12_income_14 : decode cX12_income 14 = .ok (.iload_n 2, 1) := by decide +kernel
theorem dX12_income_15 : decode cX12_income 15 = .ok (.invokestatic 345, 3) := by decide +kernel
theorem dX12_income_18 : decode cX12_income 18 = .ok (.ifCond .ne 5, 3) := by decide +kernel
theorem dX12_income_21 : decode cX12_income 21 = .ok (.iconst (-1), 1) := by decide +kernel
theorem dX12_income_22 : decode cX12_income 22 = .ok (.ireturn, 1) := by decide +kernel
theorem dX12_income_23 : decode cX12_income 23 = .ok (.iconst 0, 1) := by decide +kernel
theorem dX12_income_24 : decode cX12_income 24 = .ok (.istore_n 3, 1) := by decide +kernel
theorem dX12_income_25 : decode cX12_income 25 = .ok (.iload_n 3, 1) := by decide +kernel
theorem dX12_income_26 : decode cX12_income 26 = .ok (.iconst 4, 1) := by decide +kernel
theorem dX12_income_27 : decode cX12_income 27 = .ok (.if_icmp .ge 16, 3) := by decide +kernel
theorem dX12_income_30 : decode cX12_income 30 = .ok (.aload_n 0, 1) := by decide +kernel
theorem dX12_income_31 : decode cX12_income 31 = .ok (.getfield 87, 3) := by decide +kernel
theorem dX12_income_34 : decode cX12_income 34 = .ok (.iload_n 3, 1) := by decide +kernel
theorem dX12_income_35 : decode cX12_income 35 = .ok (.iconst 0, 1) := by decide +kernel
theorem dX12_income_36 : decode cX12_income 36 = .ok (.iastore, 1) := by decide +kernel
theorem dX12_income_37 : decode cX12_income 37 = .ok (.iinc 3 1, 3) := by decide +kernel
theorem dX12_income_40 : decode cX12_income 40 = .ok (.goto (-15), 3) := by decide +kernel
theorem dX12_income_43 : decode cX12_income 43 = .ok (.aload_n 0, 1) := by decide +kernel
theorem dX12_income_44 : decode cX12_income 44 = .ok (.invokevirtual 342, 3) := by decide +kernel
theorem dX12_income_47 : decode cX12_income 47 = .ok (.iconst 0, 1) := by decide +kernel
theorem dX12_income_48 : decode cX12_income 48 = .ok (.istore_n 3, 1) := by decide +kernel
theorem dX12_income_49 : decode cX12_income 49 = .ok (.iload_n 3, 1) := by decide +kernel
theorem dX12_income_50 : decode cX12_income 50 = .ok (.iload_n 2, 1) := by decide +kernel
theorem dX12_income_51 : decode cX12_income 51 = .ok (.if_icmp .ge 49, 3) := by decide +kernel
theorem dX12_income_54 : decode cX12_income 54 = .ok (.aload_n 0, 1) := by decide +kernel
theorem dX12_income_55 : decode cX12_income 55 = .ok (.aload_n 0, 1) := by decide +kernel
theorem dX12_income_56 : decode cX12_income 56 = .ok (.getfield 81, 3) := by decide +kernel
theorem dX12_income_59 : decode cX12_income 59 = .ok (.invokevirtual 320, 3) := by decide +kernel
theorem dX12_income_62 : decode cX12_income 62 = .ok (.iconst 0, 1) := by decide +kernel
theorem dX12_income_63 : decode cX12_income 63 = .ok (.istore 4, 2) := by decide +kernel
theorem dX12_income_65 : decode cX12_income 65 = .ok (.iload 4, 2) := by decide +kernel
theorem dX12_income_67 : decode cX12_income 67 = .ok (.iconst 4, 1) := by decide +kernel
theorem dX12_income_68 : decode cX12_income 68 = .ok (.if_icmp .ge 26, 3) := by decide +kernel
theorem dX12_income_71 : decode cX12_income 71 = .ok (.aload_n 0, 1) := by decide +kernel
theorem dX12_income_72 : decode cX12_income 72 = .ok (.getfield 87, 3) := by decide +kernel
theorem dX12_income_75 : decode cX12_income 75 = .ok (.iload 4, 2) := by decide +kernel
theorem dX12_income_77 : decode cX12_income 77 = .ok (.dup2, 1) := by decide +kernel
theorem dX12_income_78 : decode cX12_income 78 = .ok (.iaload, 1) := by decide +kernel
theorem dX12_income_79 : decode cX12_income 79 = .ok (.aload_n 0, 1) := by decide +kernel
theorem dX12_income_80 : decode cX12_income 80 = .ok (.getfield 66, 3) := by decide +kernel
theorem dX12_income_83 : decode cX12_income 83 = .ok (.iload 4, 2) := by decide +kernel
theorem dX12_income_85 : decode cX12_income 85 = .ok (.iaload, 1) := by decide +kernel
theorem dX12_income_86 : decode cX12_income 86 = .ok (.iadd, 1) := by decide +kernel
theorem dX12_income_87 : decode cX12_income 87 = .ok (.iastore, 1) := by decide +kernel
theorem dX12_income_88 : decode cX12_income 88 = .ok (.iinc 4 1, 3) := by decide +kernel
theorem dX12_income_91 : decode cX12_income 91 = .ok (.goto (-26), 3) := by decide +kernel
theorem dX12_income_94 : decode cX12_income 94 = .ok (.iinc 3 1, 3) := by decide +kernel
theorem dX12_income_97 : decode cX12_income 97 = .ok (.goto (-48), 3) := by decide +kernel
theorem dX12_income_100 : decode cX12_income 100 = .ok (.aload_n 0, 1) := by decide +kernel
theorem dX12_income_101 : decode cX12_income 101 = .ok (.iconst 0, 1) := by decide +kernel
theorem dX12_income_102 : decode cX12_income 102 = .ok (.putfield 127, 3) := by decide +kernel
theorem dX12_income_105 : decode cX12_income 105 = .ok (.aload_n 0, 1) := by decide +kernel
theorem dX12_income_106 : decode cX12_income 106 = .ok (.getfield 87, 3) := by decide +kernel
theorem dX12_income_109 : decode cX12_income 109 = .ok (.astore_n 3, 1) := by decide +kernel
theorem dX12_income_110 : decode cX12_income 110 = .ok (.aload_n 3, 1) := by decide +kernel
theorem dX12_income_111 : decode cX12_income 111 = .ok (.arraylength, 1) := by decide +kernel
theorem dX12_income_112 : decode cX12_income 112 = .ok (.istore 4, 2) := by decide +kernel
theorem dX12_income_114 : decode cX12_income 114 = .ok (.iconst 0, 1) := by decide +kernel
theorem dX12_income_115 : decode cX12_income 115 = .ok (.istore 5, 2) := by decide +kernel
theorem dX12_income_117 : decode cX12_income 117 = .ok (.iload 5, 2) := by decide +kernel
theorem dX12_income_119 : decode cX12_income 119 = .ok (.iload 4, 2) := by decide +kernel
theorem dX12_income_121 : decode cX12_income 121 = .ok (.if_icmp .ge 21, 3) := by decide +kernel
theorem dX12_income_124 : decode cX12_income 124 = .ok (.aload_n 3, 1) := by decide +kernel
theorem dX12_income_125 : decode cX12_income 125 = .ok (.iload 5, 2) := by decide +kernel
theorem dX12_income_127 : decode cX12_income 127 = .ok (.iaload, 1) := by decide +kernel
theorem dX12_income_128 : decode cX12_income 128 = .ok (.istore 6, 2) := by decide +kernel
theorem dX12_income_130 : decode cX12_income 130 = .ok (.aload_n 0, 1) := by decide +kernel
theorem dX12_income_131 : decode cX12_income 131 = .ok (.iload 6, 2) := by decide +kernel
theorem dX12_income_133 : decode cX12_income 133 = .ok (.invokevirtual 324, 3) := by decide +kernel
theorem dX12_income_136 : decode cX12_income 136 = .ok (.iinc 5 1, 3) := by decide +kernel
theorem dX12_income_139 : decode cX12_income 139 = .ok (.goto (-22), 3) := by decide +kernel
theorem dX12_income_142 : decode cX12_income 142 = .ok (.aload_n 0, 1) := by decide +kernel
theorem dX12_income_143 : decode cX12_income 143 = .ok (.getfield 87, 3) := by decide +kernel
theorem dX12_income_146 : decode cX12_income 146 = .ok (.iload_n 1, 1) := by decide +kernel
theorem dX12_income_147 : decode cX12_income 147 = .ok (.iaload, 1) := by decide +kernel
theorem dX12_income_148 : decode cX12_income 148 = .ok (.ireturn, 1) := by decide +kernel
theorem dX12_isBird_0 : decode cX12_isBird 0 = .ok (.iload_n 1, 1) := by decide +kernel
theorem dX12_isBird_1 : decode cX12_isBird 1 = .ok (.iconst 0, 1) := by decide +kernel
theorem dX12_isBird_2 : decode cX12_isBird 2 = .ok (.aload_n 0, 1) := by decide +kernel
theorem dX12_isBird_3 : decode cX12_isBird 3 = .ok (.getfield 137, 3) := by decide +kernel
theorem dX12_isBird_6 : decode cX12_isBird 6 = .ok (.iconst 1, 1) := by decide +kernel
theorem dX12_isBird_7 : decode cX12_isBird 7 = .ok (.isub, 1) := by decide +kernel
theorem dX12_isBird_8 : decode cX12_isBird 8 = .ok (.invokestatic 133, 3) := by decide +kernel
theorem dX12_isBird_11 : decode cX12_isBird 11 = .ok (.ireturn, 1) := by decide +kernel
theorem dX12_isDays_0 : decode cX12_isDays 0 = .ok (.iload_n 0, 1) := by decide +kernel
theorem dX12_isDays_1 : decode cX12_isDays 1 = .ok (.iconst 0, 1) := by decide +kernel
theorem dX12_isDays_2 : decode cX12_isDays 2 = .ok (.bipush 60, 2) := by decide +kernel
theorem dX12_isDays_4 : decode cX12_isDays 4 = .ok (.invokestatic 133, 3) := by decide +kernel
theorem dX12_isDays_7 : decode cX12_isDays 7 = .ok (.ireturn, 1) := by decide +kernel
theorem dX12_isFamily_0 : decode cX12_isFamily 0 = .ok (.iload_n 1, 1) := by decide +kernel
theorem dX12_isFamily_1 : decode cX12_isFamily 1 = .ok (.iconst 0, 1) := by decide +kernel
theorem dX12_isFamily_2 : decode cX12_isFamily 2 = .ok (.aload_n 0, 1) := by decide +kernel
theorem dX12_isFamily_3 : decode cX12_isFamily 3 = .ok (.getfield 140, 3) := by decide +kernel
theorem dX12_isFamily_6 : decode cX12_isFamily 6 = .ok (.iconst 1, 1) := by decide +kernel
theorem dX12_isFamily_7 : decode cX12_isFamily 7 = .ok (.isub, 1) := by decide +kernel
theorem dX12_isFamily_8 : decode cX12_isFamily 8 = .ok (.invokestatic 133, 3) := by decide +kernel
theorem dX12_isFamily_11 : decode cX12_isFamily 11 = .ok (.ireturn, 1) := by decide +kernel
theorem dX12_isMore_0 : decode cX12_isMore 0 = .ok (.iload_n 0, 1) := by decide +kernel
theorem dX12_isMore_1 : decode cX12_isMore 1 = .ok (.iconst 1, 1) := by decide +kernel
theorem dX12_isMore_2 : decode cX12_isMore 2 = .ok (.bipush 60, 2) := by decide +kernel
theorem dX12_isMore_4 : decode cX12_isMore 4 = .ok (.invokestatic 133, 3) := by decide +kernel
theorem dX12_isMore_7 : decode cX12_isMore 7 = .ok (.ireturn, 1) := by decide +kernel
theorem dX12_isRoof_0 : decode cX12_isRoof 0 = .ok (.iload_n 1, 1) := by decide +kernel
theorem dX12_isRoof_1 : decode cX12_isRoof 1 = .ok (.iconst 0, 1) := by decide +kernel
theorem dX12_isRoof_2 : decode cX12_isRoof 2 = .ok (.aload_n 0, 1) := by decide +kernel
theorem dX12_isRoof_3 : decode cX12_isRoof 3 = .ok (.getfield 130, 3) := by decide +kernel
theorem dX12_isRoof_6 : decode cX12_isRoof 6 = .ok (.iconst 1, 1) := by decide +kernel
theorem dX12_isRoof_7 : decode cX12_isRoof 7 = .ok (.isub, 1) := by decide +kernel
theorem dX12_isRoof_8 : decode cX12_isRoof 8 = .ok (.invokestatic 133, 3) := by decide +kernel
theorem dX12_isRoof_11 : decode cX12_isRoof 11 = .ok (.ireturn, 1) := by decide +kernel
theorem dX12_isSo_0 : decode cX12_isSo 0 = .ok (.aload_n 0, 1) := by decide +kernel
theorem dX12_isSo_1 : decode cX12_isSo 1 = .ok (.invokevirtual 342, 3) := by decide +kernel
theorem dX12_isSo_4 : decode cX12_isSo 4 = .ok (.iconst 0, 1) := by decide +kernel
theorem dX12_isSo_5 : decode cX12_isSo 5 = .ok (.istore_n 1, 1) := by decide +kernel
theorem dX12_isSo_6 : decode cX12_isSo 6 = .ok (.iconst 0, 1) := by decide +kernel
theorem dX12_isSo_7 : decode cX12_isSo 7 = .ok (.istore_n 2, 1) := by decide +kernel
theorem dX12_isSo_8 : decode cX12_isSo 8 = .ok (.iload_n 2, 1) := by decide +kernel
theorem dX12_isSo_9 : decode cX12_isSo 9 = .ok (.aload_n 0, 1) := by decide +kernel
theorem dX12_isSo_10 : decode cX12_isSo 10 = .ok (.getfield 420, 3) := by decide +kernel
theorem dX12_isSo_13 : decode cX12_isSo 13 = .ok (.if_icmp .ge 24, 3) := by decide +kernel
theorem dX12_isSo_37 : decode cX12_isSo 37 = .ok (.iconst 1, 1) := by decide +kernel
theorem dX12_isSo_38 : decode cX12_isSo 38 = .ok (.istore_n 2, 1) := by decide +kernel
theorem dX12_isSo_39 : decode cX12_isSo 39 = .ok (.iload_n 2, 1) := by decide +kernel
theorem dX12_isSo_40 : decode cX12_isSo 40 = .ok (.iload_n 1, 1) := by decide +kernel
theorem dX12_isSo_41 : decode cX12_isSo 41 = .ok (.if_icmp .gt 75, 3) := by decide +kernel
theorem dX12_isSo_116 : decode cX12_isSo 116 = .ok (.iconst 1, 1) := by decide +kernel
theorem dX12_isSo_117 : decode cX12_isSo 117 = .ok (.ireturn, 1) := by decide +kernel
theorem dX12_keep_0 : decode cX12_keep 0 = .ok (.aload_n 0, 1) := by decide +kernel
theorem dX12_keep_1 : decode cX12_keep 1 = .ok (.iconst 0, 1) := by decide +kernel
theorem dX12_keep_2 : decode cX12_keep 2 = .ok (.putfield 124, 3) := by decide +kernel
theorem dX12_keep_5 : decode cX12_keep 5 = .ok (.iload_n 1, 1) := by decide +kernel
theorem dX12_keep_6 : decode cX12_keep 6 = .ok (.iconst 0, 1) := by decide +kernel
theorem dX12_keep_7 : decode cX12_keep 7 = .ok (.iconst 1, 1) := by decide +kernel
theorem dX12_keep_8 : decode cX12_keep 8 = .ok (.invokestatic 133, 3) := by decide +kernel
theorem dX12_keep_11 : decode cX12_keep 11 = .ok (.ifCond .ne 5, 3) := by decide +kernel
theorem dX12_keep_14 : decode cX12_keep 14 = .ok (.iconst 0, 1) := by decide +kernel
theorem dX12_keep_15 : decode cX12_keep 15 = .ok (.ireturn, 1) := by decide +kernel
theorem dX12_keep_16 : decode cX12_keep 16 = .ok (.aload_n 0, 1) := by decide +kernel
theorem dX12_keep_17 : decode cX12_keep 17 = .ok (.getfield 117, 3) := by decide +kernel
theorem dX12_keep_20 : decode cX12_keep 20 = .ok (.iload_n 1, 1) := by decide +kernel
theorem dX12_keep_21 : decode cX12_keep 21 = .ok (.iconst 1, 1) := by decide +kernel
theorem dX12_keep_22 : decode cX12_keep 22 = .ok (.bastore, 1) := by decide +kernel
theorem dX12_keep_23 : decode cX12_keep 23 = .ok (.aload_n 0, 1) := by decide +kernel
theorem dX12_keep_24 : decode cX12_keep 24 = .ok (.getfield 121, 3) := by decide +kernel
theorem dX12_keep_27 : decode cX12_keep 27 = .ok (.iload_n 1, 1) := by decide +kernel
theorem dX12_keep_28 : decode cX12_keep 28 = .ok (.aload_n 0, 1) := by decide +kernel
theorem dX12_keep_29 : decode cX12_keep 29 = .ok (.getfield 194, 3) := by decide +kernel
theorem dX12_keep_32 : decode cX12_keep 32 = .ok (.iastore, 1) := by decide +kernel
theorem dX12_keep_33 : decode cX12_keep 33 = .ok (.aload_n 0, 1) := by decide +kernel
theorem dX12_keep_34 : decode cX12_keep 34 = .ok (.getfield 9, 3) := by decide +kernel
theorem dX12_keep_37 : decode cX12_keep 37 = .ok (.aload_n 0, 1) := by decide +kernel
theorem dX12_keep_38 : decode cX12_keep 38 = .ok (.getfield 114, 3) := by decide +kernel
theorem dX12_keep_41 : decode cX12_keep 41 = .ok (.bipush 55, 2) := by decide +kernel
theorem dX12_keep_43 : decode cX12_keep 43 = .ok (.iload_n 1, 1) := by decide +kernel
theorem dX12_keep_44 : decode cX12_keep 44 = .ok (.imul, 1) := by decide +kernel
theorem dX12_keep_45 : decode cX12_keep 45 = .ok (.invokestatic 309, 3) := by decide +kernel
theorem dX12_keep_48 : decode cX12_keep 48 = .ok (.iconst 1, 1) := by decide +kernel
theorem dX12_keep_49 : decode cX12_keep 49 = .ok (.ireturn, 1) := by decide +kernel
theorem dX12_kindest_0 : decode cX12_kindest 0 = .ok (.aload_n 0, 1) := by decide +kernel
theorem dX12_kindest_1 : decode cX12_kindest 1 = .ok (.iconst 0, 1) := by decide +kernel
theorem dX12_kindest_2 : decode cX12_kindest 2 = .ok (.putfield 124, 3) := by decide +kernel
theorem dX12_kindest_5 : decode cX12_kindest 5 = .ok (.aload_n 0, 1) := by decide +kernel
theorem dX12_kindest_6 : decode cX12_kindest 6 = .ok (.invokevirtual 364, 3) := by decide +kernel
theorem dX12_kindest_9 : decode cX12_kindest 9 = .ok (.istore_n 1, 1) := by decide +kernel
theorem dX12_kindest_10 : decode cX12_kindest 10 = .ok (.iload_n 1, 1) := by decide +kernel
theorem dX12_kindest_11 : decode cX12_kindest 11 = .ok (.sipush 20000, 3) := by decide +kernel
theorem dX12_kindest_14 : decode cX12_kindest 14 = .ok (.if_icmp .le 6, 3) := by decide +kernel
theorem dX12_kindest_20 : decode cX12_kindest 20 = .ok (.iconst (-1), 1) := by decide +kernel
theorem dX12_kindest_21 : decode cX12_kindest 21 = .ok (.istore_n 2, 1) := by decide +kernel
theorem dX12_kindest_22 : decode cX12_kindest 22 = .ok (.iconst 0, 1) := by decide +kernel
theorem dX12_kindest_23 : decode cX12_kindest 23 = .ok (.istore_n 3, 1) := by decide +kernel
theorem dX12_kindest_24 : decode cX12_kindest 24 = .ok (.iload_n 3, 1) := by decide +kernel
theorem dX12_kindest_25 : decode cX12_kindest 25 = .ok (.iload_n 1, 1) := by decide +kernel
theorem dX12_kindest_26 : decode cX12_kindest 26 = .ok (.if_icmp .ge 94, 3) := by decide +kernel
theorem dX12_kindest_29 : decode cX12_kindest 29 = .ok (.aload_n 0, 1) := by decide +kernel
theorem dX12_kindest_30 : decode cX12_kindest 30 = .ok (.iload_n 3, 1) := by decide +kernel
theorem dX12_kindest_31 : decode cX12_kindest 31 = .ok (.invokevirtual 367, 3) := by decide +kernel
theorem dX12_kindest_34 : decode cX12_kindest 34 = .ok (.ifCond .eq 80, 3) := by decide +kernel
theorem dX12_kindest_37 : decode cX12_kindest 37 = .ok (.aload_n 0, 1) := by decide +kernel
theorem dX12_kindest_38 : decode cX12_kindest 38 = .ok (.aload_n 0, 1) := by decide +kernel
theorem dX12_kindest_39 : decode cX12_kindest 39 = .ok (.getfield 81, 3) := by decide +kernel
theorem dX12_kindest_42 : decode cX12_kindest 42 = .ok (.invokevirtual 360, 3) := by decide +kernel
theorem dX12_kindest_45 : decode cX12_kindest 45 = .ok (.ifCond .eq 6, 3) := by decide +kernel
theorem dX12_kindest_51 : decode cX12_kindest 51 = .ok (.iconst 0, 1) := by decide +kernel
theorem dX12_kindest_52 : decode cX12_kindest 52 = .ok (.istore 4, 2) := by decide +kernel
theorem dX12_kindest_54 : decode cX12_kindest 54 = .ok (.iconst 0, 1) := by decide +kernel
theorem dX12_kindest_55 : decode cX12_kindest 55 = .ok (.istore 5, 2) := by decide +kernel
theorem dX12_kindest_57 : decode cX12_kindest 57 = .ok (.iload 5, 2) := by decide +kernel
theorem dX12_kindest_59 : decode cX12_kindest 59 = .ok (.aload_n 0, 1) := by decide +kernel
theorem dX12_kindest_60 : decode cX12_kindest 60 = .ok (.getfield 140, 3) := by decide +kernel
theorem dX12_kindest_63 : decode cX12_kindest 63 = .ok (.if_icmp .ge 35, 3) := by decide +kernel
theorem dX12_kindest_98 : decode cX12_kindest 98 = .ok (.iload 4, 2) := by decide +kernel
theorem dX12_kindest_100 : decode cX12_kindest 100 = .ok (.iload_n 2, 1) := by decide +kernel
theorem dX12_kindest_101 : decode cX12_kindest 101 = .ok (.if_icmp .gt 6, 3) := by decide +kernel
theorem dX12_kindest_107 : decode cX12_kindest 107 = .ok (.iload 4, 2) := by decide +kernel
theorem dX12_kindest_109 : decode cX12_kindest 109 = .ok (.istore_n 2, 1) := by decide +kernel
theorem dX12_kindest_110 : decode cX12_kindest 110 = .ok (.aload_n 0, 1) := by decide +kernel
theorem dX12_kindest_111 : decode cX12_kindest 111 = .ok (.invokevirtual 370, 3) := by decide +kernel
theorem dX12_kindest_114 : decode cX12_kindest 114 = .ok (.iinc 3 1, 3) := by decide +kernel
theorem dX12_kindest_117 : decode cX12_kindest 117 = .ok (.goto (-93), 3) := by decide +kernel
theorem dX12_kindest_120 : decode cX12_kindest 120 = .ok (.iload_n 2, 1) := by decide +kernel
theorem dX12_kindest_121 : decode cX12_kindest 121 = .ok (.iconst (-1), 1) := by decide +kernel
theorem dX12_kindest_122 : decode cX12_kindest 122 = .ok (.if_icmp .ne 6, 3) := by decide +kernel
theorem dX12_kindest_128 : decode cX12_kindest 128 = .ok (.aload_n 0, 1) := by decide +kernel
theorem dX12_kindest_129 : decode cX12_kindest 129 = .ok (.iconst 0, 1) := by decide +kernel
theorem dX12_kindest_130 : decode cX12_kindest 130 = .ok (.putfield 127, 3) := by decide +kernel
theorem dX12_kindest_133 : decode cX12_kindest 133 = .ok (.aload_n 0, 1) := by decide +kernel
theorem dX12_kindest_134 : decode cX12_kindest 134 = .ok (.aload_n 0, 1) := by decide +kernel
theorem dX12_kindest_135 : decode cX12_kindest 135 = .ok (.getfield 90, 3) := by decide +kernel
theorem dX12_kindest_138 : decode cX12_kindest 138 = .ok (.invokevirtual 351, 3) := by decide +kernel
theorem dX12_kindest_141 : decode cX12_kindest 141 = .ok (.iload_n 2, 1) := by decide +kernel
theorem dX12_kindest_142 : decode cX12_kindest 142 = .ok (.ireturn, 1) := by decide +kernel
theorem dX12_later_0 : decode cX12_later 0 = .ok (.aload_n 0, 1) := by decide +kernel
theorem dX12_later_1 : decode cX12_later 1 = .ok (.iconst 0, 1) := by decide +kernel
theorem dX12_later_2 : decode cX12_later 2 = .ok (.putfield 124, 3) := by decide +kernel
theorem dX12_later_5 : decode cX12_later 5 = .ok (.aload_n 0, 1) := by decide +kernel
theorem dX12_later_6 : decode cX12_later 6 = .ok (.iload_n 1, 1) := by decide +kernel
theorem dX12_later_7 : decode cX12_later 7 = .ok (.invokevirtual 261, 3) := by decide +kernel
theorem dX12_later_10 : decode cX12_later 10 = .ok (.ifCond .eq 10, 3) := by decide +kernel
theorem dX12_later_20 : decode cX12_later 20 = .ok (.bipush (-2), 2) := by decide +kernel
theorem dX12_later_22 : decode cX12_later 22 = .ok (.ireturn, 1) := by decide +kernel
theorem dX12_latest_0 : decode cX12_latest 0 = .ok (.aload_n 0, 1) := by decide +kernel
theorem dX12_latest_1 : decode cX12_latest 1 = .ok (.iconst 0, 1) := by decide +kernel
theorem dX12_latest_2 : decode cX12_latest 2 = .ok (.putfield 124, 3) := by decide +kernel
theorem dX12_latest_5 : decode cX12_latest 5 = .ok (.aload_n 0, 1) := by decide +kernel
theorem dX12_latest_6 : decode cX12_latest 6 = .ok (.iload_n 1, 1) := by decide +kernel
theorem dX12_latest_7 : decode cX12_latest 7 = .ok (.invokevirtual 261, 3) := by decide +kernel
theorem dX12_latest_10 : decode cX12_latest 10 = .ok (.ifCond .ne 5, 3) := by decide +kernel
theorem dX12_latest_13 : decode cX12_latest 13 = .ok (.iconst (-1), 1) := by decide +kernel
theorem dX12_latest_14 : decode cX12_latest 14 = .ok (.ireturn, 1) := by decide +kernel
theorem dX12_lay_0 : decode cX12_lay 0 = .ok (.iconst 0, 1) := by decide +kernel
theorem dX12_lay_1 : decode cX12_lay 1 = .ok (.istore_n 3, 1) := by decide +kernel
theorem dX12_lay_2 : decode cX12_lay 2 = .ok (.iload_n 3, 1) := by decide +kernel
theorem dX12_lay_3 : decode cX12_lay 3 = .ok (.bipush 55, 2) := by decide +kernel
theorem dX12_lay_5 : decode cX12_lay 5 = .ok (.if_icmp .ge 17, 3) := by decide +kernel
theorem dX12_lay_8 : decode cX12_lay 8 = .ok (.aload_n 1, 1) := by decide +kernel
theorem dX12_lay_9 : decode cX12_lay 9 = .ok (.iload_n 2, 1) := by decide +kernel
theorem dX12_lay_10 : decode cX12_lay 10 = .ok (.iload_n 3, 1) := by decide +kernel
theorem dX12_lay_11 : decode cX12_lay 11 = .ok (.iadd, 1) := by decide +kernel
theorem dX12_lay_12 : decode cX12_lay 12 = .ok (.aload_n 0, 1) := by decide +kernel
theorem dX12_lay_13 : decode cX12_lay 13 = .ok (.iload_n 3, 1) := by decide +kernel
theorem dX12_lay_14 : decode cX12_lay 14 = .ok (.iaload, 1) := by decide +kernel
theorem dX12_lay_15 : decode cX12_lay 15 = .ok (.iastore, 1) := by decide +kernel
theorem dX12_lay_16 : decode cX12_lay 16 = .ok (.iinc 3 1, 3) := by decide +kernel
theorem dX12_lay_19 : decode cX12_lay 19 = .ok (.goto (-17), 3) := by decide +kernel
theorem dX12_lay_22 : decode cX12_lay 22 = .ok (.return_, 1) := by decide +kernel
theorem dX12_laySide_0 : decode cX12_laySide 0 = .ok (.aload_n 0, 1) := by decide +kernel
theorem dX12_laySide_1 : decode cX12_laySide 1 = .ok (.getfield 9, 3) := by decide +kernel
theorem dX12_laySide_4 : decode cX12_laySide 4 = .ok (.aload_n 0, 1) := by decide +kernel
theorem dX12_laySide_5 : decode cX12_laySide 5 = .ok (.getfield 75, 3) := by decide +kernel
theorem dX12_laySide_8 : decode cX12_laySide 8 = .ok (.iconst 0, 1) := by decide +kernel
theorem dX12_laySide_9 : decode cX12_laySide 9 = .ok (.invokestatic 309, 3) := by decide +kernel
theorem dX12_laySide_12 : decode cX12_laySide 12 = .ok (.aload_n 0, 1) := by decide +kernel
theorem dX12_laySide_13 : decode cX12_laySide 13 = .ok (.getfield 75, 3) := by decide +kernel
theorem dX12_laySide_16 : decode cX12_laySide 16 = .ok (.bipush 55, 2) := by decide +kernel
theorem dX12_laySide_18 : decode cX12_laySide 18 = .ok (.iload_n 1, 1) := by decide +kernel
theorem dX12_laySide_19 : decode cX12_laySide 19 = .ok (.ifCond .eq 7, 3) := by decide +kernel
theorem dX12_laySide_22 : decode cX12_laySide 22 = .ok (.iconst 1, 1) := by decide +kernel
theorem dX12_laySide_23 : decode cX12_laySide 23 = .ok (.goto 4, 3) := by decide +kernel
theorem dX12_laySide_26 : decode cX12_laySide 26 = .ok (.iconst 0, 1) := by decide +kernel
theorem dX12_laySide_27 : decode cX12_laySide 27 = .ok (.iastore, 1) := by decide +kernel
theorem dX12_laySide_28 : decode cX12_laySide 28 = .ok (.iconst 0, 1) := by decide +kernel
theorem dX12_laySide_29 : decode cX12_laySide 29 = .ok (.istore_n 2, 1) := by decide +kernel
theorem dX12_laySide_30 : decode cX12_laySide 30 = .ok (.iload_n 2, 1) := by decide +kernel
theorem dX12_laySide_31 : decode cX12_laySide 31 = .ok (.bipush 6, 2) := by decide +kernel
theorem dX12_laySide_33 : decode cX12_laySide 33 = .ok (.if_icmp .ge 39, 3) := by decide +kernel
theorem dX12_laySide_36 : decode cX12_laySide 36 = .ok (.aload_n 0, 1) := by decide +kernel
theorem dX12_laySide_37 : decode cX12_laySide 37 = .ok (.getfield 75, 3) := by decide +kernel
theorem dX12_laySide_40 : decode cX12_laySide 40 = .ok (.bipush 56, 2) := by decide +kernel
theorem dX12_laySide_42 : decode cX12_laySide 42 = .ok (.iload_n 2, 1) := by decide +kernel
theorem dX12_laySide_43 : decode cX12_laySide 43 = .ok (.iadd, 1) := by decide +kernel
theorem dX12_laySide_44 : decode cX12_laySide 44 = .ok (.aload_n 0, 1) := by decide +kernel
theorem dX12_laySide_45 : decode cX12_laySide 45 = .ok (.getfield 22, 3) := by decide +kernel
theorem dX12_laySide_48 : decode cX12_laySide 48 = .ok (.iload_n 2, 1) := by decide +kernel
theorem dX12_laySide_49 : decode cX12_laySide 49 = .ok (.iaload, 1) := by decide +kernel
theorem dX12_laySide_50 : decode cX12_laySide 50 = .ok (.iastore, 1) := by decide +kernel
theorem dX12_laySide_51 : decode cX12_laySide 51 = .ok (.aload_n 0, 1) := by decide +kernel
theorem dX12_laySide_52 : decode cX12_laySide 52 = .ok (.getfield 75, 3) := by decide +kernel
theorem dX12_laySide_55 : decode cX12_laySide 55 = .ok (.bipush 62, 2) := by decide +kernel
theorem dX12_laySide_57 : decode cX12_laySide 57 = .ok (.iload_n 2, 1) := by decide +kernel
theorem dX12_laySide_58 : decode cX12_laySide 58 = .ok (.iadd, 1) := by decide +kernel
theorem dX12_laySide_59 : decode cX12_laySide 59 = .ok (.aload_n 0, 1) := by decide +kernel
theorem dX12_laySide_60 : decode cX12_laySide 60 = .ok (.getfield 16, 3) := by decide +kernel
theorem dX12_laySide_63 : decode cX12_laySide 63 = .ok (.iload_n 2, 1) := by decide +kernel
theorem dX12_laySide_64 : decode cX12_laySide 64 = .ok (.iaload, 1) := by decide +kernel
theorem dX12_laySide_65 : decode cX12_laySide 65 = .ok (.iastore, 1) := by decide +kernel
theorem dX12_laySide_66 : decode cX12_laySide 66 = .ok (.iinc 2 1, 3) := by decide +kernel
theorem dX12_laySide_69 : decode cX12_laySide 69 = .ok (.goto (-39), 3) := by decide +kernel
theorem dX12_laySide_72 : decode cX12_laySide 72 = .ok (.iconst 0, 1) := by decide +kernel
theorem dX12_laySide_73 : decode cX12_laySide 73 = .ok (.istore_n 2, 1) := by decide +kernel
theorem dX12_laySide_74 : decode cX12_laySide 74 = .ok (.iload_n 2, 1) := by decide +kernel
theorem dX12_laySide_75 : decode cX12_laySide 75 = .ok (.bipush 8, 2) := by decide +kernel
theorem dX12_laySide_77 : decode cX12_laySide 77 = .ok (.if_icmp .ge 24, 3) := by decide +kernel
theorem dX12_laySide_80 : decode cX12_laySide 80 = .ok (.aload_n 0, 1) := by decide +kernel
theorem dX12_laySide_81 : decode cX12_laySide 81 = .ok (.getfield 75, 3) := by decide +kernel
theorem dX12_laySide_84 : decode cX12_laySide 84 = .ok (.bipush 68, 2) := by decide +kernel
theorem dX12_laySide_86 : decode cX12_laySide 86 = .ok (.iload_n 2, 1) := by decide +kernel
theorem dX12_laySide_87 : decode cX12_laySide 87 = .ok (.iadd, 1) := by decide +kernel
theorem dX12_laySide_88 : decode cX12_laySide 88 = .ok (.aload_n 0, 1) := by decide +kernel
theorem dX12_laySide_89 : decode cX12_laySide 89 = .ok (.getfield 34, 3) := by decide +kernel
theorem dX12_laySide_92 : decode cX12_laySide 92 = .ok (.iload_n 2, 1) := by decide +kernel
theorem dX12_laySide_93 : decode cX12_laySide 93 = .ok (.iaload, 1) := by decide +kernel
theorem dX12_laySide_94 : decode cX12_laySide 94 = .ok (.iastore, 1) := by decide +kernel
theorem dX12_laySide_95 : decode cX12_laySide 95 = .ok (.iinc 2 1, 3) := by decide +kernel
theorem dX12_laySide_98 : decode cX12_laySide 98 = .ok (.goto (-24), 3) := by decide +kernel
theorem dX12_laySide_101 : decode cX12_laySide 101 = .ok (.return_, 1) := by decide +kernel
theorem dX12_layWay_0 : decode cX12_layWay 0 = .ok (.aload_n 0, 1) := by decide +kernel
theorem dX12_layWay_1 : decode cX12_layWay 1 = .ok (.getfield 9, 3) := by decide +kernel
theorem dX12_layWay_4 : decode cX12_layWay 4 = .ok (.aload_n 0, 1) := by decide +kernel
theorem dX12_layWay_5 : decode cX12_layWay 5 = .ok (.getfield 81, 3) := by decide +kernel
theorem dX12_layWay_8 : decode cX12_layWay 8 = .ok (.iconst 0, 1) := by decide +kernel
theorem dX12_layWay_9 : decode cX12_layWay 9 = .ok (.invokestatic 309, 3) := by decide +kernel
theorem dX12_layWay_12 : decode cX12_layWay 12 = .ok (.iload_n 1, 1) := by decide +kernel
theorem dX12_layWay_13 : decode cX12_layWay 13 = .ok (.istore_n 2, 1) := by decide +kernel
theorem dX12_layWay_14 : decode cX12_layWay 14 = .ok (.iconst 0, 1) := by decide +kernel
theorem dX12_layWay_15 : decode cX12_layWay 15 = .ok (.istore_n 3, 1) := by decide +kernel
theorem dX12_layWay_16 : decode cX12_layWay 16 = .ok (.iconst 1, 1) := by decide +kernel
theorem dX12_layWay_17 : decode cX12_layWay 17 = .ok (.istore 4, 2) := by decide +kernel
theorem dX12_layWay_19 : decode cX12_layWay 19 = .ok (.aload_n 0, 1) := by decide +kernel
theorem dX12_layWay_20 : decode cX12_layWay 20 = .ok (.getfield 137, 3) := by decide +kernel
theorem dX12_layWay_23 : decode cX12_layWay 23 = .ok (.iconst 1, 1) := by decide +kernel
theorem dX12_layWay_24 : decode cX12_layWay 24 = .ok (.isub, 1) := by decide +kernel
theorem dX12_layWay_25 : decode cX12_layWay 25 = .ok (.istore 5, 2) := by decide +kernel
theorem dX12_layWay_27 : decode cX12_layWay 27 = .ok (.iload 5, 2) := by decide +kernel
theorem dX12_layWay_29 : decode cX12_layWay 29 = .ok (.ifCond .lt 87, 3) := by decide +kernel
theorem dX12_layWay_116 : decode cX12_layWay 116 = .ok (.iload 4, 2) := by decide +kernel
theorem dX12_layWay_118 : decode cX12_layWay 118 = .ok (.ireturn, 1) := by decide +kernel
theorem dX12_living_0 : decode cX12_living 0 = .ok (.iconst 0, 1) := by decide +kernel
theorem dX12_living_1 : decode cX12_living 1 = .ok (.istore_n 2, 1) := by decide +kernel
theorem dX12_living_2 : decode cX12_living 2 = .ok (.iconst 0, 1) := by decide +kernel
theorem dX12_living_3 : decode cX12_living 3 = .ok (.istore_n 3, 1) := by decide +kernel
theorem dX12_living_4 : decode cX12_living 4 = .ok (.iload_n 3, 1) := by decide +kernel
theorem dX12_living_5 : decode cX12_living 5 = .ok (.aload_n 0, 1) := by decide +kernel
theorem dX12_living_6 : decode cX12_living 6 = .ok (.getfield 140, 3) := by decide +kernel
theorem dX12_living_9 : decode cX12_living 9 = .ok (.if_icmp .ge 29, 3) := by decide +kernel
theorem dX12_living_38 : decode cX12_living 38 = .ok (.iload_n 2, 1) := by decide +kernel
theorem dX12_living_39 : decode cX12_living 39 = .ok (.ireturn, 1) := by decide +kernel
theorem dX12_lord_0 : decode cX12_lord 0 = .ok (.aload_n 0, 1) := by decide +kernel
theorem dX12_lord_1 : decode cX12_lord 1 = .ok (.iconst 0, 1) := by decide +kernel
theorem dX12_lord_2 : decode cX12_lord 2 = .ok (.putfield 124, 3) := by decide +kernel
theorem dX12_lord_5 : decode cX12_lord 5 = .ok (.iload_n 1, 1) := by decide +kernel
theorem dX12_lord_6 : decode cX12_lord 6 = .ok (.iconst 0, 1) := by decide +kernel
theorem dX12_lord_7 : decode cX12_lord 7 = .ok (.iconst 3, 1) := by decide +kernel
theorem dX12_lord_8 : decode cX12_lord 8 = .ok (.invokestatic 133, 3) := by decide +kernel
theorem dX12_lord_11 : decode cX12_lord 11 = .ok (.ifCond .ne 5, 3) := by decide +kernel
theorem dX12_lord_14 : decode cX12_lord 14 = .ok (.iconst (-1), 1) := by decide +kernel
theorem dX12_lord_15 : decode cX12_lord 15 = .ok (.ireturn, 1) := by decide +kernel
theorem dX12_lord_16 : decode cX12_lord 16 = .ok (.iconst 0, 1) := by decide +kernel
theorem dX12_lord_17 : decode cX12_lord 17 = .ok (.istore_n 2, 1) := by decide +kernel
theorem dX12_lord_18 : decode cX12_lord 18 = .ok (.iconst 0, 1) := by decide +kernel
theorem dX12_lord_19 : decode cX12_lord 19 = .ok (.istore_n 3, 1) := by decide +kernel
theorem dX12_lord_20 : decode cX12_lord 20 = .ok (.iconst 0, 1) := by decide +kernel
theorem dX12_lord_21 : decode cX12_lord 21 = .ok (.istore 4, 2) := by decide +kernel
theorem dX12_lord_23 : decode cX12_lord 23 = .ok (.iload 4, 2) := by decide +kernel
theorem dX12_lord_25 : decode cX12_lord 25 = .ok (.aload_n 0, 1) := by decide +kernel
theorem dX12_lord_26 : decode cX12_lord 26 = .ok (.getfield 140, 3) := by decide +kernel
theorem dX12_lord_29 : decode cX12_lord 29 = .ok (.if_icmp .ge 26, 3) := by decide +kernel
theorem dX12_lord_55 : decode cX12_lord 55 = .ok (.iconst 0, 1) := by decide +kernel
theorem dX12_lord_56 : decode cX12_lord 56 = .ok (.istore 4, 2) := by decide +kernel
theorem dX12_lord_58 : decode cX12_lord 58 = .ok (.iload 4, 2) := by decide +kernel
theorem dX12_lord_60 : decode cX12_lord 60 = .ok (.aload_n 0, 1) := by decide +kernel
theorem dX12_lord_61 : decode cX12_lord 61 = .ok (.getfield 130, 3) := by decide +kernel
theorem dX12_lord_64 : decode cX12_lord 64 = .ok (.if_icmp .ge 42, 3) := by decide +kernel
theorem dX12_lord_106 : decode cX12_lord 106 = .ok (.aload_n 0, 1) := by decide +kernel
theorem dX12_lord_107 : decode cX12_lord 107 = .ok (.iconst 0, 1) := by decide +kernel
theorem dX12_lord_108 : decode cX12_lord 108 = .ok (.putfield 127, 3) := by decide +kernel
theorem dX12_lord_111 : decode cX12_lord 111 = .ok (.aload_n 0, 1) := by decide +kernel
theorem dX12_lord_112 : decode cX12_lord 112 = .ok (.iload_n 3, 1) := by decide +kernel
theorem dX12_lord_113 : decode cX12_lord 113 = .ok (.invokevirtual 324, 3) := by decide +kernel
theorem dX12_lord_116 : decode cX12_lord 116 = .ok (.aload_n 0, 1) := by decide +kernel
theorem dX12_lord_117 : decode cX12_lord 117 = .ok (.aload_n 0, 1) := by decide +kernel
theorem dX12_lord_118 : decode cX12_lord 118 = .ok (.aload_n 0, 1) := by decide +kernel
theorem dX12_lord_119 : decode cX12_lord 119 = .ok (.getfield 9, 3) := by decide +kernel
theorem dX12_lord_122 : decode cX12_lord 122 = .ok (.iload_n 1, 1) := by decide +kernel
theorem dX12_lord_123 : decode cX12_lord 123 = .ok (.invokevirtual 339, 3) := by decide +kernel
theorem dX12_lord_126 : decode cX12_lord 126 = .ok (.invokevirtual 324, 3) := by decide +kernel
theorem dX12_lord_129 : decode cX12_lord 129 = .ok (.iload_n 2, 1) := by decide +kernel
theorem dX12_lord_130 : decode cX12_lord 130 = .ok (.ireturn, 1) := by decide +kernel
theorem dX12_moves_0 : decode cX12_moves 0 = .ok (.aload_n 0, 1) := by decide +kernel
theorem dX12_moves_1 : decode cX12_moves 1 = .ok (.iconst 0, 1) := by decide +kernel
theorem dX12_moves_2 : decode cX12_moves 2 = .ok (.putfield 124, 3) := by decide +kernel
theorem dX12_moves_5 : decode cX12_moves 5 = .ok (.aload_n 0, 1) := by decide +kernel
theorem dX12_moves_6 : decode cX12_moves 6 = .ok (.iload_n 1, 1) := by decide +kernel
theorem dX12_moves_7 : decode cX12_moves 7 = .ok (.invokevirtual 268, 3) := by decide +kernel
theorem dX12_moves_10 : decode cX12_moves 10 = .ok (.ifCond .eq 10, 3) := by decide +kernel
theorem dX12_moves_20 : decode cX12_moves 20 = .ok (.iconst (-1), 1) := by decide +kernel
theorem dX12_moves_21 : decode cX12_moves 21 = .ok (.ireturn, 1) := by decide +kernel
theorem dX12_nowhere_0 : decode cX12_nowhere 0 = .ok (.aload_n 0, 1) := by decide +kernel
theorem dX12_nowhere_1 : decode cX12_nowhere 1 = .ok (.getfield 140, 3) := by decide +kernel
theorem dX12_nowhere_4 : decode cX12_nowhere 4 = .ok (.aload_n 0, 1) := by decide +kernel
theorem dX12_nowhere_5 : decode cX12_nowhere 5 = .ok (.aload_n 1, 1) := by decide +kernel
theorem dX12_nowhere_6 : decode cX12_nowhere 6 = .ok (.invokevirtual 300, 3) := by decide +kernel
theorem dX12_nowhere_9 : decode cX12_nowhere 9 = .ok (.invokestatic 304, 3) := by decide +kernel
theorem dX12_nowhere_12 : decode cX12_nowhere 12 = .ok (.isub, 1) := by decide +kernel
theorem dX12_nowhere_13 : decode cX12_nowhere 13 = .ok (.ireturn, 1) := by decide +kernel
theorem dX12_owes_0 : decode cX12_owes 0 = .ok (.aload_n 0, 1) := by decide +kernel
theorem dX12_owes_1 : decode cX12_owes 1 = .ok (.iconst 0, 1) := by decide +kernel
theorem dX12_owes_2 : decode cX12_owes 2 = .ok (.putfield 124, 3) := by decide +kernel
theorem dX12_owes_5 : decode cX12_owes 5 = .ok (.aload_n 0, 1) := by decide +kernel
theorem dX12_owes_6 : decode cX12_owes 6 = .ok (.iload_n 1, 1) := by decide +kernel
theorem dX12_owes_7 : decode cX12_owes 7 = .ok (.invokevirtual 268, 3) := by decide +kernel
theorem dX12_owes_10 : decode cX12_owes 10 = .ok (.ifCond .eq 28, 3) := by decide +kernel
theorem dX12_owes_38 : decode cX12_owes 38 = .ok (.iconst (-1), 1) := by decide +kernel
theorem dX12_owes_39 : decode cX12_owes 39 = .ok (.ireturn, 1) := by decide +kernel
theorem dX12_pay_0 : decode cX12_pay 0 = .ok (.aload_n 0, 1) := by decide +kernel
theorem dX12_pay_1 : decode cX12_pay 1 = .ok (.iconst 0, 1) := by decide +kernel
theorem dX12_pay_2 : decode cX12_pay 2 = .ok (.putfield 124, 3) := by decide +kernel
theorem dX12_pay_5 : decode cX12_pay 5 = .ok (.aload_n 0, 1) := by decide +kernel
theorem dX12_pay_6 : decode cX12_pay 6 = .ok (.iload_n 1, 1) := by decide +kernel
theorem dX12_pay_7 : decode cX12_pay 7 = .ok (.invokevirtual 268, 3) := by decide +kernel
theorem dX12_pay_10 : decode cX12_pay 10 = .ok (.ifCond .eq 23, 3) := by decide +kernel
theorem dX12_pay_33 : decode cX12_pay 33 = .ok (.iconst (-1), 1) := by decide +kernel
theorem dX12_pay_34 : decode cX12_pay 34 = .ok (.ireturn, 1) := by decide +kernel
theorem dX12_remember_0 : decode cX12_remember 0 = .ok (.aload_n 0, 1) := by decide +kernel
theorem dX12_remember_1 : decode cX12_remember 1 = .ok (.getfield 197, 3) := by decide +kernel
theorem dX12_remember_4 : decode cX12_remember 4 = .ok (.bipush 12, 2) := by decide +kernel
theorem dX12_remember_6 : decode cX12_remember 6 = .ok (.if_icmp .ne 43, 3) := by decide +kernel
theorem dX12_remember_49 : decode cX12_remember 49 = .ok (.iconst 0, 1) := by decide +kernel
theorem dX12_remember_50 : decode cX12_remember 50 = .ok (.istore_n 1, 1) := by decide +kernel
theorem dX12_remember_51 : decode cX12_remember 51 = .ok (.iload_n 1, 1) := by decide +kernel
theorem dX12_remember_52 : decode cX12_remember 52 = .ok (.bipush 76, 2) := by decide +kernel
theorem dX12_remember_54 : decode cX12_remember 54 = .ok (.if_icmp .ge 29, 3) := by decide +kernel
theorem dX12_remember_57 : decode cX12_remember 57 = .ok (.aload_n 0, 1) := by decide +kernel
theorem dX12_remember_58 : decode cX12_remember 58 = .ok (.getfield 72, 3) := by decide +kernel
theorem dX12_remember_61 : decode cX12_remember 61 = .ok (.bipush 76, 2) := by decide +kernel
theorem dX12_remember_63 : decode cX12_remember 63 = .ok (.aload_n 0, 1) := by decide +kernel
theorem dX12_remember_64 : decode cX12_remember 64 = .ok (.getfield 197, 3) := by decide +kernel
theorem dX12_remember_67 : decode cX12_remember 67 = .ok (.imul, 1) := by decide +kernel
theorem dX12_remember_68 : decode cX12_remember 68 = .ok (.iload_n 1, 1) := by decide +kernel
theorem dX12_remember_69 : decode cX12_remember 69 = .ok (.iadd, 1) := by decide +kernel
theorem dX12_remember_70 : decode cX12_remember 70 = .ok (.aload_n 0, 1) := by decide +kernel
theorem dX12_remember_71 : decode cX12_remember 71 = .ok (.getfield 75, 3) := by decide +kernel
theorem dX12_remember_74 : decode cX12_remember 74 = .ok (.iload_n 1, 1) := by decide +kernel
theorem dX12_remember_75 : decode cX12_remember 75 = .ok (.iaload, 1) := by decide +kernel
theorem dX12_remember_76 : decode cX12_remember 76 = .ok (.iastore, 1) := by decide +kernel
theorem dX12_remember_77 : decode cX12_remember 77 = .ok (.iinc 1 1, 3) := by decide +kernel
theorem dX12_remember_80 : decode cX12_remember 80 = .ok (.goto (-29), 3) := by decide +kernel
theorem dX12_remember_83 : decode cX12_remember 83 = .ok (.aload_n 0, 1) := by decide +kernel
theorem dX12_remember_84 : decode cX12_remember 84 = .ok (.dup, 1) := by decide +kernel
theorem dX12_remember_85 : decode cX12_remember 85 = .ok (.getfield 197, 3) := by decide +kernel
theorem dX12_remember_88 : decode cX12_remember 88 = .ok (.iconst 1, 1) := by decide +kernel
theorem dX12_remember_89 : decode cX12_remember 89 = .ok (.iadd, 1) := by decide +kernel
theorem dX12_remember_90 : decode cX12_remember 90 = .ok (.putfield 197, 3) := by decide +kernel
theorem dX12_remember_93 : decode cX12_remember 93 = .ok (.return_, 1) := by decide +kernel
theorem dX12_restless_0 : decode cX12_restless 0 = .ok (.iconst 0, 1) := by decide +kernel
theorem dX12_restless_1 : decode cX12_restless 1 = .ok (.istore_n 2, 1) := by decide +kernel
theorem dX12_restless_2 : decode cX12_restless 2 = .ok (.iconst 0, 1) := by decide +kernel
theorem dX12_restless_3 : decode cX12_restless 3 = .ok (.istore_n 3, 1) := by decide +kernel
theorem dX12_restless_4 : decode cX12_restless 4 = .ok (.iload_n 3, 1) := by decide +kernel
theorem dX12_restless_5 : decode cX12_restless 5 = .ok (.aload_n 0, 1) := by decide +kernel
theorem dX12_restless_6 : decode cX12_restless 6 = .ok (.getfield 137, 3) := by decide +kernel
theorem dX12_restless_9 : decode cX12_restless 9 = .ok (.if_icmp .ge 29, 3) := by decide +kernel
theorem dX12_restless_38 : decode cX12_restless 38 = .ok (.iload_n 2, 1) := by decide +kernel
theorem dX12_restless_39 : decode cX12_restless 39 = .ok (.ireturn, 1) := by decide +kernel
theorem dX12_rests_0 : decode cX12_rests 0 = .ok (.aload_n 0, 1) := by decide +kernel
theorem dX12_rests_1 : decode cX12_rests 1 = .ok (.iconst 0, 1) := by decide +kernel
theorem dX12_rests_2 : decode cX12_rests 2 = .ok (.putfield 124, 3) := by decide +kernel
theorem dX12_rests_5 : decode cX12_rests 5 = .ok (.aload_n 0, 1) := by decide +kernel
theorem dX12_rests_6 : decode cX12_rests 6 = .ok (.aload_n 0, 1) := by decide +kernel
theorem dX12_rests_7 : decode cX12_rests 7 = .ok (.getfield 9, 3) := by decide +kernel
theorem dX12_rests_10 : decode cX12_rests 10 = .ok (.invokevirtual 360, 3) := by decide +kernel
theorem dX12_rests_13 : decode cX12_rests 13 = .ok (.istore_n 1, 1) := by decide +kernel
theorem dX12_rests_14 : decode cX12_rests 14 = .ok (.aload_n 0, 1) := by decide +kernel
theorem dX12_rests_15 : decode cX12_rests 15 = .ok (.iconst 0, 1) := by decide +kernel
theorem dX12_rests_16 : decode cX12_rests 16 = .ok (.putfield 127, 3) := by decide +kernel
theorem dX12_rests_19 : decode cX12_rests 19 = .ok (.aload_n 0, 1) := by decide +kernel
theorem dX12_rests_20 : decode cX12_rests 20 = .ok (.iload_n 1, 1) := by decide +kernel
theorem dX12_rests_21 : decode cX12_rests 21 = .ok (.invokevirtual 324, 3) := by decide +kernel
theorem dX12_rests_24 : decode cX12_rests 24 = .ok (.iload_n 1, 1) := by decide +kernel
theorem dX12_rests_25 : decode cX12_rests 25 = .ok (.ifCond .ne 7, 3) := by decide +kernel
theorem dX12_rests_28 : decode cX12_rests 28 = .ok (.iconst 1, 1) := by decide +kernel
theorem dX12_rests_29 : decode cX12_rests 29 = .ok (.goto 4, 3) := by decide +kernel
theorem dX12_rests_33 : decode cX12_rests 33 = .ok (.ireturn, 1) := by decide +kernel
theorem dX12_ring_0 : decode cX12_ring 0 = .ok (.aload_n 0, 1) := by decide +kernel
theorem dX12_ring_1 : decode cX12_ring 1 = .ok (.iconst 0, 1) := by decide +kernel
theorem dX12_ring_2 : decode cX12_ring 2 = .ok (.putfield 124, 3) := by decide +kernel
theorem dX12_ring_5 : decode cX12_ring 5 = .ok (.aload_n 0, 1) := by decide +kernel
theorem dX12_ring_6 : decode cX12_ring 6 = .ok (.iload_n 1, 1) := by decide +kernel
theorem dX12_ring_7 : decode cX12_ring 7 = .ok (.invokevirtual 261, 3) := by decide +kernel
theorem dX12_ring_10 : decode cX12_ring 10 = .ok (.ifCond .eq 39, 3) := by decide +kernel
theorem dX12_ring_49 : decode cX12_ring 49 = .ok (.iconst (-1), 1) := by decide +kernel
theorem dX12_ring_50 : decode cX12_ring 50 = .ok (.ireturn, 1) := by decide +kernel
theorem dX12_rule_0 : decode cX12_rule 0 = .ok (.aload_n 0, 1) := by decide +kernel
theorem dX12_rule_1 : decode cX12_rule 1 = .ok (.iconst 0, 1) := by decide +kernel
theorem dX12_rule_2 : decode cX12_rule 2 = .ok (.putfield 124, 3) := by decide +kernel
theorem dX12_rule_5 : decode cX12_rule 5 = .ok (.aload_n 0, 1) := by decide +kernel
theorem dX12_rule_6 : decode cX12_rule 6 = .ok (.getfield 143, 3) := by decide +kernel
theorem dX12_rule_9 : decode cX12_rule 9 = .ok (.istore_n 1, 1) := by decide +kernel
theorem dX12_rule_10 : decode cX12_rule 10 = .ok (.aload_n 0, 1) := by decide +kernel
theorem dX12_rule_11 : decode cX12_rule 11 = .ok (.aload_n 0, 1) := by decide +kernel
theorem dX12_rule_12 : decode cX12_rule 12 = .ok (.getfield 47, 3) := by decide +kernel
theorem dX12_rule_15 : decode cX12_rule 15 = .ok (.iload_n 1, 1) := by decide +kernel
theorem dX12_rule_16 : decode cX12_rule 16 = .ok (.bipush 40, 2) := by decide +kernel
theorem dX12_rule_18 : decode cX12_rule 18 = .ok (.invokevirtual 177, 3) := by decide +kernel
theorem dX12_rule_21 : decode cX12_rule 21 = .ok (.aload_n 0, 1) := by decide +kernel
theorem dX12_rule_22 : decode cX12_rule 22 = .ok (.iconst 0, 1) := by decide +kernel
theorem dX12_rule_23 : decode cX12_rule 23 = .ok (.putfield 143, 3) := by decide +kernel
theorem dX12_rule_26 : decode cX12_rule 26 = .ok (.aload_n 0, 1) := by decide +kernel
theorem dX12_rule_27 : decode cX12_rule 27 = .ok (.aconst_null, 1) := by decide +kernel
theorem dX12_rule_28 : decode cX12_rule 28 = .ok (.putfield 220, 3) := by decide +kernel
theorem dX12_rule_31 : decode cX12_rule 31 = .ok (.iload_n 1, 1) := by decide +kernel
theorem dX12_rule_32 : decode cX12_rule 32 = .ok (.ifCond .le 39, 3) := by decide +kernel
theorem dX12_rule_71 : decode cX12_rule 71 = .ok (.iconst 0, 1) := by decide +kernel
theorem dX12_rule_72 : decode cX12_rule 72 = .ok (.istore_n 2, 1) := by decide +kernel
theorem dX12_rule_73 : decode cX12_rule 73 = .ok (.iload_n 2, 1) := by decide +kernel
theorem dX12_rule_74 : decode cX12_rule 74 = .ok (.iload_n 1, 1) := by decide +kernel
theorem dX12_rule_75 : decode cX12_rule 75 = .ok (.if_icmp .ge 21, 3) := by decide +kernel
theorem dX12_rule_96 : decode cX12_rule 96 = .ok (.aload_n 0, 1) := by decide +kernel
theorem dX12_rule_97 : decode cX12_rule 97 = .ok (.iload_n 1, 1) := by decide +kernel
theorem dX12_rule_98 : decode cX12_rule 98 = .ok (.putfield 236, 3) := by decide +kernel
theorem dX12_rule_101 : decode cX12_rule 101 = .ok (.iconst 0, 1) := by decide +kernel
theorem dX12_rule_102 : decode cX12_rule 102 = .ok (.ireturn, 1) := by decide +kernel
theorem dX12_safest_0 : decode cX12_safest 0 = .ok (.aload_n 0, 1) := by decide +kernel
theorem dX12_safest_1 : decode cX12_safest 1 = .ok (.iconst 0, 1) := by decide +kernel
theorem dX12_safest_2 : decode cX12_safest 2 = .ok (.putfield 124, 3) := by decide +kernel
theorem dX12_safest_5 : decode cX12_safest 5 = .ok (.iload_n 1, 1) := by decide +kernel
theorem dX12_safest_6 : decode cX12_safest 6 = .ok (.iconst 0, 1) := by decide +kernel
theorem dX12_safest_7 : decode cX12_safest 7 = .ok (.bipush 30, 2) := by decide +kernel
theorem dX12_safest_9 : decode cX12_safest 9 = .ok (.invokestatic 133, 3) := by decide +kernel
theorem dX12_safest_12 : decode cX12_safest 12 = .ok (.ifCond .eq 13, 3) := by decide +kernel
theorem dX12_safest_15 : decode cX12_safest 15 = .ok (.iload_n 2, 1) := by decide +kernel
theorem dX12_safest_16 : decode cX12_safest 16 = .ok (.iconst 0, 1) := by decide +kernel
theorem dX12_safest_17 : decode cX12_safest 17 = .ok (.bipush 10, 2) := by decide +kernel
theorem dX12_safest_19 : decode cX12_safest 19 = .ok (.invokestatic 133, 3) := by decide +kernel
theorem dX12_safest_22 : decode cX12_safest 22 = .ok (.ifCond .ne 5, 3) := by decide +kernel
theorem dX12_safest_25 : decode cX12_safest 25 = .ok (.iconst (-1), 1) := by decide +kernel
theorem dX12_safest_26 : decode cX12_safest 26 = .ok (.ireturn, 1) := by decide +kernel
theorem dX12_safest_27 : decode cX12_safest 27 = .ok (.aload_n 0, 1) := by decide +kernel
theorem dX12_safest_28 : decode cX12_safest 28 = .ok (.getfield 140, 3) := by decide +kernel
theorem dX12_safest_31 : decode cX12_safest 31 = .ok (.ifCond .ne 6, 3) := by decide +kernel
theorem dX12_safest_34 : decode cX12_safest 34 = .ok (.bipush (-2), 2) := by decide +kernel
theorem dX12_safest_36 : decode cX12_safest 36 = .ok (.ireturn, 1) := by decide +kernel
theorem dX12_seen_0 : decode cX12_seen 0 = .ok (.aload_n 0, 1) := by decide +kernel
theorem dX12_seen_1 : decode cX12_seen 1 = .ok (.iconst 0, 1) := by decide +kernel
theorem dX12_seen_2 : decode cX12_seen 2 = .ok (.putfield 124, 3) := by decide +kernel
theorem dX12_seen_5 : decode cX12_seen 5 = .ok (.aload_n 0, 1) := by decide +kernel
theorem dX12_seen_6 : decode cX12_seen 6 = .ok (.iload_n 1, 1) := by decide +kernel
theorem dX12_seen_7 : decode cX12_seen 7 = .ok (.invokevirtual 261, 3) := by decide +kernel
theorem dX12_seen_10 : decode cX12_seen 10 = .ok (.ifCond .eq 32, 3) := by decide +kernel
theorem dX12_seen_42 : decode cX12_seen 42 = .ok (.iconst (-1), 1) := by decide +kernel
theorem dX12_seen_43 : decode cX12_seen 43 = .ok (.ireturn, 1) := by decide +kernel
theorem dX12_sheet_0 : decode cX12_sheet 0 = .ok (.aload_n 0, 1) := by decide +kernel
theorem dX12_sheet_1 : decode cX12_sheet 1 = .ok (.iconst 0, 1) := by decide +kernel
theorem dX12_sheet_2 : decode cX12_sheet 2 = .ok (.putfield 124, 3) := by decide +kernel
theorem dX12_sheet_5 : decode cX12_sheet 5 = .ok (.iload_n 1, 1) := by decide +kernel
theorem dX12_sheet_6 : decode cX12_sheet 6 = .ok (.iconst 0, 1) := by decide +kernel
theorem dX12_sheet_7 : decode cX12_sheet 7 = .ok (.iconst 3, 1) := by decide +kernel
theorem dX12_sheet_8 : decode cX12_sheet 8 = .ok (.invokestatic 133, 3) := by decide +kernel
theorem dX12_sheet_11 : decode cX12_sheet 11 = .ok (.ifCond .eq 9, 3) := by decide +kernel
theorem dX12_sheet_14 : decode cX12_sheet 14 = .ok (.iload_n 2, 1) := by decide +kernel
theorem dX12_sheet_15 : decode cX12_sheet 15 = .ok (.bipush 6, 2) := by decide +kernel
theorem dX12_sheet_17 : decode cX12_sheet 17 = .ok (.if_icmp .le 5, 3) := by decide +kernel
theorem dX12_sheet_20 : decode cX12_sheet 20 = .ok (.iconst (-1), 1) := by decide +kernel
theorem dX12_sheet_21 : decode cX12_sheet 21 = .ok (.ireturn, 1) := by decide +kernel
theorem dX12_sheet_22 : decode cX12_sheet 22 = .ok (.iload_n 1, 1) := by decide +kernel
theorem dX12_sheet_23 : decode cX12_sheet 23 = .ok (.iconst 3, 1) := by decide +kernel
theorem dX12_sheet_24 : decode cX12_sheet 24 = .ok (.if_icmp .ge 10, 3) := by decide +kernel
theorem dX12_sheet_27 : decode cX12_sheet 27 = .ok (.iload_n 2, 1) := by decide +kernel
theorem dX12_sheet_28 : decode cX12_sheet 28 = .ok (.ifCond .ge 6, 3) := by decide +kernel
theorem dX12_sheet_31 : decode cX12_sheet 31 = .ok (.bipush (-2), 2) := by decide +kernel
theorem dX12_sheet_33 : decode cX12_sheet 33 = .ok (.ireturn, 1) := by decide +kernel
theorem dX12_sheet_34 : decode cX12_sheet 34 = .ok (.iconst 0, 1) := by decide +kernel
theorem dX12_sheet_35 : decode cX12_sheet 35 = .ok (.istore 5, 2) := by decide +kernel
theorem dX12_sheet_37 : decode cX12_sheet 37 = .ok (.iload_n 3, 1) := by decide +kernel
theorem dX12_sheet_38 : decode cX12_sheet 38 = .ok (.istore 6, 2) := by decide +kernel
theorem dX12_sheet_40 : decode cX12_sheet 40 = .ok (.iconst 0, 1) := by decide +kernel
theorem dX12_sheet_41 : decode cX12_sheet 41 = .ok (.istore 7, 2) := by decide +kernel
theorem dX12_sheet_43 : decode cX12_sheet 43 = .ok (.iload 7, 2) := by decide +kernel
theorem dX12_sheet_45 : decode cX12_sheet 45 = .ok (.aload_n 0, 1) := by decide +kernel
theorem dX12_sheet_46 : decode cX12_sheet 46 = .ok (.getfield 130, 3) := by decide +kernel
theorem dX12_sheet_49 : decode cX12_sheet 49 = .ok (.if_icmp .ge 86, 3) := by decide +kernel
theorem dX12_sheet_135 : decode cX12_sheet 135 = .ok (.iload_n 1, 1) := by decide +kernel
theorem dX12_sheet_136 : decode cX12_sheet 136 = .ok (.iconst 3, 1) := by decide +kernel
theorem dX12_sheet_137 : decode cX12_sheet 137 = .ok (.if_icmp .ne 8, 3) := by decide +kernel
theorem dX12_sheet_140 : decode cX12_sheet 140 = .ok (.bipush (-3), 2) := by decide +kernel
theorem dX12_sheet_142 : decode cX12_sheet 142 = .ok (.goto 5, 3) := by decide +kernel
theorem dX12_sheet_145 : decode cX12_sheet 145 = .ok (.iload 5, 2) := by decide +kernel
theorem dX12_sheet_147 : decode cX12_sheet 147 = .ok (.ireturn, 1) := by decide +kernel
theorem dX12_sign_0 : decode cX12_sign 0 = .ok (.aload_n 0, 1) := by decide +kernel
theorem dX12_sign_1 : decode cX12_sign 1 = .ok (.iconst 0, 1) := by decide +kernel
theorem dX12_sign_2 : decode cX12_sign 2 = .ok (.putfield 124, 3) := by decide +kernel
theorem dX12_sign_5 : decode cX12_sign 5 = .ok (.aload_n 0, 1) := by decide +kernel
theorem dX12_sign_6 : decode cX12_sign 6 = .ok (.getfield 143, 3) := by decide +kernel
theorem dX12_sign_9 : decode cX12_sign 9 = .ok (.iconst 4, 1) := by decide +kernel
theorem dX12_sign_10 : decode cX12_sign 10 = .ok (.iadd, 1) := by decide +kernel
theorem dX12_sign_11 : decode cX12_sign 11 = .ok (.bipush 80, 2) := by decide +kernel
theorem dX12_sign_13 : decode cX12_sign 13 = .ok (.if_icmp .le 5, 3) := by decide +kernel
theorem dX12_sign_18 : decode cX12_sign 18 = .ok (.iconst 3, 1) := by decide +kernel
theorem dX12_sign_19 : decode cX12_sign 19 = .ok (.istore_n 2, 1) := by decide +kernel
theorem dX12_sign_20 : decode cX12_sign 20 = .ok (.iload_n 2, 1) := by decide +kernel
theorem dX12_sign_21 : decode cX12_sign 21 = .ok (.ifCond .lt 32, 3) := by decide +kernel
theorem dX12_sign_24 : decode cX12_sign 24 = .ok (.aload_n 0, 1) := by decide +kernel
theorem dX12_sign_25 : decode cX12_sign 25 = .ok (.getfield 47, 3) := by decide +kernel
theorem dX12_sign_28 : decode cX12_sign 28 = .ok (.aload_n 0, 1) := by decide +kernel
theorem dX12_sign_29 : decode cX12_sign 29 = .ok (.dup, 1) := by decide +kernel
theorem dX12_sign_30 : decode cX12_sign 30 = .ok (.getfield 143, 3) := by decide +kernel
theorem dX12_sign_33 : decode cX12_sign 33 = .ok (.dup_x1, 1) := by decide +kernel
theorem dX12_sign_34 : decode cX12_sign 34 = .ok (.iconst 1, 1) := by decide +kernel
theorem dX12_sign_35 : decode cX12_sign 35 = .ok (.iadd, 1) := by decide +kernel
theorem dX12_sign_36 : decode cX12_sign 36 = .ok (.putfield 143, 3) := by decide +kernel
theorem dX12_sign_39 : decode cX12_sign 39 = .ok (.iload_n 1, 1) := by decide +kernel
theorem dX12_sign_40 : decode cX12_sign 40 = .ok (.bipush 8, 2) := by decide +kernel
theorem dX12_sign_42 : decode cX12_sign 42 = .ok (.iload_n 2, 1) := by decide +kernel
theorem dX12_sign_43 : decode cX12_sign 43 = .ok (.imul, 1) := by decide +kernel
theorem dX12_sign_44 : decode cX12_sign 44 = .ok (.ishr, 1) := by decide +kernel
theorem dX12_sign_45 : decode cX12_sign 45 = .ok (.i2b, 1) := by decide +kernel
theorem dX12_sign_46 : decode cX12_sign 46 = .ok (.bastore, 1) := by decide +kernel
theorem dX12_sign_47 : decode cX12_sign 47 = .ok (.iinc 2 (-1), 3) := by decide +kernel
theorem dX12_sign_50 : decode cX12_sign 50 = .ok (.goto (-30), 3) := by decide +kernel
theorem dX12_sign_53 : decode cX12_sign 53 = .ok (.aload_n 0, 1) := by decide +kernel
theorem dX12_sign_54 : decode cX12_sign 54 = .ok (.getfield 143, 3) := by decide +kernel
theorem dX12_sign_57 : decode cX12_sign 57 = .ok (.ireturn, 1) := by decide +kernel
theorem dX12_spring_0 : decode cX12_spring 0 = .ok (.aload_n 0, 1) := by decide +kernel
theorem dX12_spring_1 : decode cX12_spring 1 = .ok (.iconst 0, 1) := by decide +kernel
theorem dX12_spring_2 : decode cX12_spring 2 = .ok (.putfield 124, 3) := by decide +kernel
theorem dX12_spring_5 : decode cX12_spring 5 = .ok (.aload_n 0, 1) := by decide +kernel
theorem dX12_spring_6 : decode cX12_spring 6 = .ok (.aload_n 0, 1) := by decide +kernel
theorem dX12_spring_7 : decode cX12_spring 7 = .ok (.getfield 47, 3) := by decide +kernel
theorem dX12_spring_10 : decode cX12_spring 10 = .ok (.aload_n 0, 1) := by decide +kernel
theorem dX12_spring_11 : decode cX12_spring 11 = .ok (.getfield 143, 3) := by decide +kernel
theorem dX12_spring_14 : decode cX12_spring 14 = .ok (.bipush 60, 2) := by decide +kernel
theorem dX12_spring_16 : decode cX12_spring 16 = .ok (.invokevirtual 177, 3) := by decide +kernel
theorem dX12_spring_19 : decode cX12_spring 19 = .ok (.aload_n 0, 1) := by decide +kernel
theorem dX12_spring_20 : decode cX12_spring 20 = .ok (.iconst 0, 1) := by decide +kernel
theorem dX12_spring_21 : decode cX12_spring 21 = .ok (.putfield 143, 3) := by decide +kernel
theorem dX12_spring_24 : decode cX12_spring 24 = .ok (.iconst 0, 1) := by decide +kernel
theorem dX12_spring_25 : decode cX12_spring 25 = .ok (.istore_n 1, 1) := by decide +kernel
theorem dX12_spring_26 : decode cX12_spring 26 = .ok (.aload_n 0, 1) := by decide +kernel
theorem dX12_spring_27 : decode cX12_spring 27 = .ok (.getfield 149, 3) := by decide +kernel
theorem dX12_spring_30 : decode cX12_spring 30 = .ok (.ifCond .le 7, 3) := by decide +kernel
theorem dX12_spring_37 : decode cX12_spring 37 = .ok (.iconst 0, 1) := by decide +kernel
theorem dX12_spring_38 : decode cX12_spring 38 = .ok (.istore_n 2, 1) := by decide +kernel
theorem dX12_spring_39 : decode cX12_spring 39 = .ok (.iload_n 2, 1) := by decide +kernel
theorem dX12_spring_40 : decode cX12_spring 40 = .ok (.ifCond .eq 30, 3) := by decide +kernel
theorem dX12_spring_70 : decode cX12_spring 70 = .ok (.aload_n 0, 1) := by decide +kernel
theorem dX12_spring_71 : decode cX12_spring 71 = .ok (.getfield 155, 3) := by decide +kernel
theorem dX12_spring_74 : decode cX12_spring 74 = .ok (.aload_n 0, 1) := by decide +kernel
theorem dX12_spring_75 : decode cX12_spring 75 = .ok (.getfield 149, 3) := by decide +kernel
theorem dX12_spring_78 : decode cX12_spring 78 = .ok (.if_icmp .ge 11, 3) := by decide +kernel
theorem dX12_spring_89 : decode cX12_spring 89 = .ok (.aload_n 0, 1) := by decide +kernel
theorem dX12_spring_90 : decode cX12_spring 90 = .ok (.invokevirtual 161, 3) := by decide +kernel
theorem dX12_spring_93 : decode cX12_spring 93 = .ok (.ifCond .ne 10, 3) := by decide +kernel
theorem dX12_spring_103 : decode cX12_spring 103 = .ok (.aload_n 0, 1) := by decide +kernel
theorem dX12_spring_104 : decode cX12_spring 104 = .ok (.iconst 1, 1) := by decide +kernel
theorem dX12_spring_105 : decode cX12_spring 105 = .ok (.invokevirtual 313, 3) := by decide +kernel
theorem dX12_spring_108 : decode cX12_spring 108 = .ok (.iconst 0, 1) := by decide +kernel
theorem dX12_spring_109 : decode cX12_spring 109 = .ok (.istore_n 3, 1) := by decide +kernel
theorem dX12_spring_110 : decode cX12_spring 110 = .ok (.aload_n 0, 1) := by decide +kernel
theorem dX12_spring_111 : decode cX12_spring 111 = .ok (.iconst 0, 1) := by decide +kernel
theorem dX12_spring_112 : decode cX12_spring 112 = .ok (.putfield 333, 3) := by decide +kernel
theorem dX12_spring_115 : decode cX12_spring 115 = .ok (.iload_n 3, 1) := by decide +kernel
theorem dX12_spring_116 : decode cX12_spring 116 = .ok (.iload_n 1, 1) := by decide +kernel
theorem dX12_spring_117 : decode cX12_spring 117 = .ok (.if_icmp .ge 19, 3) := by decide +kernel
theorem dX12_spring_136 : decode cX12_spring 136 = .ok (.iload_n 3, 1) := by decide +kernel
theorem dX12_spring_137 : decode cX12_spring 137 = .ok (.ifCond .le 7, 3) := by decide +kernel
theorem dX12_spring_144 : decode cX12_spring 144 = .ok (.aload_n 0, 1) := by decide +kernel
theorem dX12_spring_145 : decode cX12_spring 145 = .ok (.iconst 0, 1) := by decide +kernel
theorem dX12_spring_146 : decode cX12_spring 146 = .ok (.putfield 127, 3) := by decide +kernel
theorem dX12_spring_149 : decode cX12_spring 149 = .ok (.aload_n 0, 1) := by decide +kernel
theorem dX12_spring_150 : decode cX12_spring 150 = .ok (.iload_n 3, 1) := by decide +kernel
theorem dX12_spring_151 : decode cX12_spring 151 = .ok (.iload_n 1, 1) := by decide +kernel
theorem dX12_spring_152 : decode cX12_spring 152 = .ok (.if_icmp .ge 7, 3) := by decide +kernel
theorem dX12_spring_159 : decode cX12_spring 159 = .ok (.iconst 0, 1) := by decide +kernel
theorem dX12_spring_160 : decode cX12_spring 160 = .ok (.invokevirtual 324, 3) := by decide +kernel
theorem dX12_spring_163 : decode cX12_spring 163 = .ok (.aload_n 0, 1) := by decide +kernel
theorem dX12_spring_164 : decode cX12_spring 164 = .ok (.aload_n 0, 1) := by decide +kernel
theorem dX12_spring_165 : decode cX12_spring 165 = .ok (.getfield 333, 3) := by decide +kernel
theorem dX12_spring_168 : decode cX12_spring 168 = .ok (.invokevirtual 324, 3) := by decide +kernel
theorem dX12_spring_171 : decode cX12_spring 171 = .ok (.iload_n 3, 1) := by decide +kernel
theorem dX12_spring_172 : decode cX12_spring 172 = .ok (.ireturn, 1) := by decide +kernel
theorem dX12_strengths_0 : decode cX12_strengths 0 = .ok (.aload_n 0, 1) := by decide +kernel
theorem dX12_strengths_1 : decode cX12_strengths 1 = .ok (.iconst 0, 1) := by decide +kernel
theorem dX12_strengths_2 : decode cX12_strengths 2 = .ok (.putfield 124, 3) := by decide +kernel
theorem dX12_strengths_5 : decode cX12_strengths 5 = .ok (.aload_n 0, 1) := by decide +kernel
theorem dX12_strengths_6 : decode cX12_strengths 6 = .ok (.iload_n 1, 1) := by decide +kernel
theorem dX12_strengths_7 : decode cX12_strengths 7 = .ok (.invokevirtual 261, 3) := by decide +kernel
theorem dX12_strengths_10 : decode cX12_strengths 10 = .ok (.ifCond .ne 5, 3) := by decide +kernel
theorem dX12_strengths_13 : decode cX12_strengths 13 = .ok (.iconst (-1), 1) := by decide +kernel
theorem dX12_strengths_14 : decode cX12_strengths 14 = .ok (.ireturn, 1) := by decide +kernel
theorem dX12_swear_0 : decode cX12_swear 0 = .ok (.aload_n 0, 1) := by decide +kernel
theorem dX12_swear_1 : decode cX12_swear 1 = .ok (.iconst 0, 1) := by decide +kernel
theorem dX12_swear_2 : decode cX12_swear 2 = .ok (.putfield 124, 3) := by decide +kernel
theorem dX12_swear_5 : decode cX12_swear 5 = .ok (.aload_n 0, 1) := by decide +kernel
theorem dX12_swear_6 : decode cX12_swear 6 = .ok (.iload_n 1, 1) := by decide +kernel
theorem dX12_swear_7 : decode cX12_swear 7 = .ok (.invokevirtual 268, 3) := by decide +kernel
theorem dX12_swear_10 : decode cX12_swear 10 = .ok (.ifCond .eq 11, 3) := by decide +kernel
theorem dX12_swear_21 : decode cX12_swear 21 = .ok (.iconst (-1), 1) := by decide +kernel
theorem dX12_swear_22 : decode cX12_swear 22 = .ok (.ireturn, 1) := by decide +kernel
theorem dX12_take_0 : decode cX12_take 0 = .ok (.iconst 0, 1) := by decide +kernel
theorem dX12_take_1 : decode cX12_take 1 = .ok (.istore_n 1, 1) := by decide +kernel
theorem dX12_take_2 : decode cX12_take 2 = .ok (.iload_n 1, 1) := by decide +kernel
theorem dX12_take_3 : decode cX12_take 3 = .ok (.aload_n 0, 1) := by decide +kernel
theorem dX12_take_4 : decode cX12_take 4 = .ok (.getfield 137, 3) := by decide +kernel
theorem dX12_take_7 : decode cX12_take 7 = .ok (.if_icmp .ge 21, 3) := by decide +kernel
theorem dX12_take_28 : decode cX12_take 28 = .ok (.return_, 1) := by decide +kernel
theorem dX12_tell_0 : decode cX12_tell 0 = .ok (.aload_n 0, 1) := by decide +kernel
theorem dX12_tell_1 : decode cX12_tell 1 = .ok (.getfield 51, 3) := by decide +kernel
theorem dX12_tell_4 : decode cX12_tell 4 = .ok (.aload_n 0, 1) := by decide +kernel
theorem dX12_tell_5 : decode cX12_tell 5 = .ok (.getfield 127, 3) := by decide +kernel
theorem dX12_tell_8 : decode cX12_tell 8 = .ok (.iload_n 1, 1) := by decide +kernel
theorem dX12_tell_9 : decode cX12_tell 9 = .ok (.iastore, 1) := by decide +kernel
theorem dX12_tell_10 : decode cX12_tell 10 = .ok (.aload_n 0, 1) := by decide +kernel
theorem dX12_tell_11 : decode cX12_tell 11 = .ok (.dup, 1) := by decide +kernel
theorem dX12_tell_12 : decode cX12_tell 12 = .ok (.getfield 127, 3) := by decide +kernel
theorem dX12_tell_15 : decode cX12_tell 15 = .ok (.iconst 1, 1) := by decide +kernel
theorem dX12_tell_16 : decode cX12_tell 16 = .ok (.iadd, 1) := by decide +kernel
theorem dX12_tell_17 : decode cX12_tell 17 = .ok (.putfield 127, 3) := by decide +kernel
theorem dX12_tell_20 : decode cX12_tell 20 = .ok (.return_, 1) := by decide +kernel
theorem dX12_tellNests_0 : decode cX12_tellNests 0 = .ok (.iconst 0, 1) := by decide +kernel
theorem dX12_tellNests_1 : decode cX12_tellNests 1 = .ok (.istore_n 2, 1) := by decide +kernel
theorem dX12_tellNests_2 : decode cX12_tellNests 2 = .ok (.iload_n 2, 1) := by decide +kernel
theorem dX12_tellNests_3 : decode cX12_tellNests 3 = .ok (.aload_n 0, 1) := by decide +kernel
theorem dX12_tellNests_4 : decode cX12_tellNests 4 = .ok (.getfield 137, 3) := by decide +kernel
theorem dX12_tellNests_7 : decode cX12_tellNests 7 = .ok (.if_icmp .ge 16, 3) := by decide +kernel
theorem dX12_tellNests_23 : decode cX12_tellNests 23 = .ok (.return_, 1) := by decide +kernel
theorem dX12_town_0 : decode cX12_town 0 = .ok (.aload_n 0, 1) := by decide +kernel
theorem dX12_town_1 : decode cX12_town 1 = .ok (.iconst 0, 1) := by decide +kernel
theorem dX12_town_2 : decode cX12_town 2 = .ok (.putfield 124, 3) := by decide +kernel
theorem dX12_town_5 : decode cX12_town 5 = .ok (.aload_n 0, 1) := by decide +kernel
theorem dX12_town_6 : decode cX12_town 6 = .ok (.aload_n 0, 1) := by decide +kernel
theorem dX12_town_7 : decode cX12_town 7 = .ok (.getfield 47, 3) := by decide +kernel
theorem dX12_town_10 : decode cX12_town 10 = .ok (.aload_n 0, 1) := by decide +kernel
theorem dX12_town_11 : decode cX12_town 11 = .ok (.getfield 143, 3) := by decide +kernel
theorem dX12_town_14 : decode cX12_town 14 = .ok (.bipush 76, 2) := by decide +kernel
theorem dX12_town_16 : decode cX12_town 16 = .ok (.invokevirtual 177, 3) := by decide +kernel
theorem dX12_town_19 : decode cX12_town 19 = .ok (.aload_n 0, 1) := by decide +kernel
theorem dX12_town_20 : decode cX12_town 20 = .ok (.iconst 0, 1) := by decide +kernel
theorem dX12_town_21 : decode cX12_town 21 = .ok (.putfield 143, 3) := by decide +kernel
theorem dX12_town_24 : decode cX12_town 24 = .ok (.aload_n 0, 1) := by decide +kernel
theorem dX12_town_25 : decode cX12_town 25 = .ok (.getfield 149, 3) := by decide +kernel
theorem dX12_town_28 : decode cX12_town 28 = .ok (.ifCond .ne 5, 3) := by decide +kernel
theorem dX12_town_31 : decode cX12_town 31 = .ok (.iconst 0, 1) := by decide +kernel
theorem dX12_town_32 : decode cX12_town 32 = .ok (.ireturn, 1) := by decide +kernel
theorem dX12_under_0 : decode cX12_under 0 = .ok (.iconst 0, 1) := by decide +kernel
theorem dX12_under_1 : decode cX12_under 1 = .ok (.istore_n 3, 1) := by decide +kernel
theorem dX12_under_2 : decode cX12_under 2 = .ok (.iconst 0, 1) := by decide +kernel
theorem dX12_under_3 : decode cX12_under 3 = .ok (.istore 4, 2) := by decide +kernel
theorem dX12_under_5 : decode cX12_under 5 = .ok (.iload 4, 2) := by decide +kernel
theorem dX12_under_7 : decode cX12_under 7 = .ok (.aload_n 0, 1) := by decide +kernel
theorem dX12_under_8 : decode cX12_under 8 = .ok (.getfield 130, 3) := by decide +kernel
theorem dX12_under_11 : decode cX12_under 11 = .ok (.if_icmp .ge 34, 3) := by decide +kernel
theorem dX12_under_45 : decode cX12_under 45 = .ok (.iload_n 3, 1) := by decide +kernel
theorem dX12_under_46 : decode cX12_under 46 = .ok (.ireturn, 1) := by decide +kernel
theorem dX12_undo_0 : decode cX12_undo 0 = .ok (.aload_n 0, 1) := by decide +kernel
theorem dX12_undo_1 : decode cX12_undo 1 = .ok (.iconst 0, 1) := by decide +kernel
theorem dX12_undo_2 : decode cX12_undo 2 = .ok (.putfield 124, 3) := by decide +kernel
theorem dX12_undo_5 : decode cX12_undo 5 = .ok (.aload_n 0, 1) := by decide +kernel
theorem dX12_undo_6 : decode cX12_undo 6 = .ok (.getfield 197, 3) := by decide +kernel
theorem dX12_undo_9 : decode cX12_undo 9 = .ok (.ifCond .ne 5, 3) := by decide +kernel
theorem dX12_undo_12 : decode cX12_undo 12 = .ok (.iconst (-1), 1) := by decide +kernel
theorem dX12_undo_13 : decode cX12_undo 13 = .ok (.ireturn, 1) := by decide +kernel
theorem dX12_ways_0 : decode cX12_ways 0 = .ok (.aload_n 0, 1) := by decide +kernel
theorem dX12_ways_1 : decode cX12_ways 1 = .ok (.iconst 0, 1) := by decide +kernel
theorem dX12_ways_2 : decode cX12_ways 2 = .ok (.putfield 124, 3) := by decide +kernel
theorem dX12_ways_5 : decode cX12_ways 5 = .ok (.aload_n 0, 1) := by decide +kernel
theorem dX12_ways_6 : decode cX12_ways 6 = .ok (.invokevirtual 364, 3) := by decide +kernel
theorem dX12_ways_9 : decode cX12_ways 9 = .ok (.istore_n 1, 1) := by decide +kernel
theorem dX12_ways_10 : decode cX12_ways 10 = .ok (.iload_n 1, 1) := by decide +kernel
theorem dX12_ways_11 : decode cX12_ways 11 = .ok (.sipush 20000, 3) := by decide +kernel
theorem dX12_ways_14 : decode cX12_ways 14 = .ok (.if_icmp .le 6, 3) := by decide +kernel
theorem dX12_ways_20 : decode cX12_ways 20 = .ok (.iconst 0, 1) := by decide +kernel
theorem dX12_ways_21 : decode cX12_ways 21 = .ok (.istore_n 2, 1) := by decide +kernel
theorem dX12_ways_22 : decode cX12_ways 22 = .ok (.iconst 0, 1) := by decide +kernel
theorem dX12_ways_23 : decode cX12_ways 23 = .ok (.istore_n 3, 1) := by decide +kernel
theorem dX12_ways_24 : decode cX12_ways 24 = .ok (.iload_n 3, 1) := by decide +kernel
theorem dX12_ways_25 : decode cX12_ways 25 = .ok (.iload_n 1, 1) := by decide +kernel
theorem dX12_ways_26 : decode cX12_ways 26 = .ok (.if_icmp .ge 42, 3) := by decide +kernel
theorem dX12_ways_29 : decode cX12_ways 29 = .ok (.aload_n 0, 1) := by decide +kernel
theorem dX12_ways_30 : decode cX12_ways 30 = .ok (.iload_n 3, 1) := by decide +kernel
theorem dX12_ways_31 : decode cX12_ways 31 = .ok (.invokevirtual 367, 3) := by decide +kernel
theorem dX12_ways_34 : decode cX12_ways 34 = .ok (.ifCond .eq 28, 3) := by decide +kernel
theorem dX12_ways_37 : decode cX12_ways 37 = .ok (.aload_n 0, 1) := by decide +kernel
theorem dX12_ways_38 : decode cX12_ways 38 = .ok (.aload_n 0, 1) := by decide +kernel
theorem dX12_ways_39 : decode cX12_ways 39 = .ok (.getfield 81, 3) := by decide +kernel
theorem dX12_ways_42 : decode cX12_ways 42 = .ok (.invokevirtual 360, 3) := by decide +kernel
theorem dX12_ways_45 : decode cX12_ways 45 = .ok (.ifCond .eq 6, 3) := by decide +kernel
theorem dX12_ways_51 : decode cX12_ways 51 = .ok (.iload_n 2, 1) := by decide +kernel
theorem dX12_ways_52 : decode cX12_ways 52 = .ok (.ifCond .ne 7, 3) := by decide +kernel
theorem dX12_ways_55 : decode cX12_ways 55 = .ok (.aload_n 0, 1) := by decide +kernel
theorem dX12_ways_56 : decode cX12_ways 56 = .ok (.invokevirtual 370, 3) := by decide +kernel
theorem dX12_ways_59 : decode cX12_ways 59 = .ok (.iinc 2 1, 3) := by decide +kernel
theorem dX12_ways_62 : decode cX12_ways 62 = .ok (.iinc 3 1, 3) := by decide +kernel
theorem dX12_ways_65 : decode cX12_ways 65 = .ok (.goto (-41), 3) := by decide +kernel
theorem dX12_ways_68 : decode cX12_ways 68 = .ok (.aload_n 0, 1) := by decide +kernel
theorem dX12_ways_69 : decode cX12_ways 69 = .ok (.iconst 0, 1) := by decide +kernel
theorem dX12_ways_70 : decode cX12_ways 70 = .ok (.putfield 127, 3) := by decide +kernel
theorem dX12_ways_73 : decode cX12_ways 73 = .ok (.iload_n 2, 1) := by decide +kernel
theorem dX12_ways_74 : decode cX12_ways 74 = .ok (.ifCond .le 11, 3) := by decide +kernel
theorem dX12_ways_77 : decode cX12_ways 77 = .ok (.aload_n 0, 1) := by decide +kernel
theorem dX12_ways_78 : decode cX12_ways 78 = .ok (.aload_n 0, 1) := by decide +kernel
theorem dX12_ways_79 : decode cX12_ways 79 = .ok (.getfield 90, 3) := by decide +kernel
theorem dX12_ways_82 : decode cX12_ways 82 = .ok (.invokevirtual 351, 3) := by decide +kernel
theorem dX12_ways_85 : decode cX12_ways 85 = .ok (.iload_n 2, 1) := by decide +kernel
theorem dX12_ways_86 : decode cX12_ways 86 = .ok (.ireturn, 1) := by decide +kernel
theorem dX12_wheel_0 : decode cX12_wheel 0 = .ok (.aload_n 0, 1) := by decide +kernel
theorem dX12_wheel_1 : decode cX12_wheel 1 = .ok (.iconst 0, 1) := by decide +kernel
theorem dX12_wheel_2 : decode cX12_wheel 2 = .ok (.putfield 124, 3) := by decide +kernel
theorem dX12_wheel_5 : decode cX12_wheel 5 = .ok (.iload_n 1, 1) := by decide +kernel
theorem dX12_wheel_6 : decode cX12_wheel 6 = .ok (.iconst 0, 1) := by decide +kernel
theorem dX12_wheel_7 : decode cX12_wheel 7 = .ok (.iconst 3, 1) := by decide +kernel
theorem dX12_wheel_8 : decode cX12_wheel 8 = .ok (.invokestatic 133, 3) := by decide +kernel
theorem dX12_wheel_11 : decode cX12_wheel 11 = .ok (.ifCond .eq 10, 3) := by decide +kernel
theorem dX12_wheel_14 : decode cX12_wheel 14 = .ok (.iload_n 2, 1) := by decide +kernel
theorem dX12_wheel_15 : decode cX12_wheel 15 = .ok (.invokestatic 345, 3) := by decide +kernel
theorem dX12_wheel_18 : decode cX12_wheel 18 = .ok (.ifCond .ne 5, 3) := by decide +kernel
theorem dX12_wheel_21 : decode cX12_wheel 21 = .ok (.iconst (-1), 1) := by decide +kernel
theorem dX12_wheel_22 : decode cX12_wheel 22 = .ok (.ireturn, 1) := by decide +kernel
theorem dX12_wheel_23 : decode cX12_wheel 23 = .ok (.aload_n 0, 1) := by decide +kernel
theorem dX12_wheel_24 : decode cX12_wheel 24 = .ok (.iload_n 1, 1) := by decide +kernel
theorem dX12_wheel_25 : decode cX12_wheel 25 = .ok (.iload_n 2, 1) := by decide +kernel
theorem dX12_wheel_26 : decode cX12_wheel 26 = .ok (.invokevirtual 382, 3) := by decide +kernel
theorem dX12_wheel_29 : decode cX12_wheel 29 = .ok (.aload_n 0, 1) := by decide +kernel
theorem dX12_wheel_30 : decode cX12_wheel 30 = .ok (.getfield 376, 3) := by decide +kernel
theorem dX12_wheel_33 : decode cX12_wheel 33 = .ok (.ifCond .ge 6, 3) := by decide +kernel
theorem dX12_wheel_36 : decode cX12_wheel 36 = .ok (.bipush (-2), 2) := by decide +kernel
theorem dX12_wheel_38 : decode cX12_wheel 38 = .ok (.ireturn, 1) := by decide +kernel
theorem dX12_wheels_0 : decode cX12_wheels 0 = .ok (.iconst 0, 1) := by decide +kernel
theorem dX12_wheels_1 : decode cX12_wheels 1 = .ok (.istore_n 1, 1) := by decide +kernel
theorem dX12_wheels_2 : decode cX12_wheels 2 = .ok (.iconst 0, 1) := by decide +kernel
theorem dX12_wheels_3 : decode cX12_wheels 3 = .ok (.istore_n 2, 1) := by decide +kernel
theorem dX12_wheels_4 : decode cX12_wheels 4 = .ok (.iload_n 2, 1) := by decide +kernel
theorem dX12_wheels_5 : decode cX12_wheels 5 = .ok (.aload_n 0, 1) := by decide +kernel
theorem dX12_wheels_6 : decode cX12_wheels 6 = .ok (.getfield 130, 3) := by decide +kernel
theorem dX12_wheels_9 : decode cX12_wheels 9 = .ok (.if_icmp .ge 20, 3) := by decide +kernel
theorem dX12_wheels_29 : decode cX12_wheels 29 = .ok (.iload_n 1, 1) := by decide +kernel
theorem dX12_wheels_30 : decode cX12_wheels 30 = .ok (.ireturn, 1) := by decide +kernel
theorem dX12_win_0 : decode cX12_win 0 = .ok (.aload_n 0, 1) := by decide +kernel
theorem dX12_win_1 : decode cX12_win 1 = .ok (.iconst 0, 1) := by decide +kernel
theorem dX12_win_2 : decode cX12_win 2 = .ok (.putfield 124, 3) := by decide +kernel
theorem dX12_win_5 : decode cX12_win 5 = .ok (.aload_n 0, 1) := by decide +kernel
theorem dX12_win_6 : decode cX12_win 6 = .ok (.iload_n 1, 1) := by decide +kernel
theorem dX12_win_7 : decode cX12_win 7 = .ok (.invokevirtual 261, 3) := by decide +kernel
theorem dX12_win_10 : decode cX12_win 10 = .ok (.ifCond .eq 18, 3) := by decide +kernel
theorem dX12_win_28 : decode cX12_win 28 = .ok (.iconst (-1), 1) := by decide +kernel
theorem dX12_win_29 : decode cX12_win 29 = .ok (.ireturn, 1) := by decide +kernel
theorem dX1_readFrost_0 : decode cX1_readFrost 0 = .ok (.aload_n 0, 1) := by decide +kernel
theorem dX1_readFrost_1 : decode cX1_readFrost 1 = .ok (.bipush 40, 2) := by decide +kernel
theorem dX1_readFrost_3 : decode cX1_readFrost 3 = .ok (.invokevirtual 9, 3) := by decide +kernel
theorem dX1_readFrost_6 : decode cX1_readFrost 6 = .ok (.iconst 0, 1) := by decide +kernel
theorem dX1_readFrost_7 : decode cX1_readFrost 7 = .ok (.istore_n 2, 1) := by decide +kernel
theorem dX1_readFrost_8 : decode cX1_readFrost 8 = .ok (.aload_n 0, 1) := by decide +kernel
theorem dX1_readFrost_9 : decode cX1_readFrost 9 = .ok (.getfield 72, 3) := by decide +kernel
theorem dX1_readFrost_12 : decode cX1_readFrost 12 = .ok (.aload_n 0, 1) := by decide +kernel
theorem dX1_readFrost_13 : decode cX1_readFrost 13 = .ok (.getfield 75, 3) := by decide +kernel
theorem dX1_readFrost_16 : decode cX1_readFrost 16 = .ok (.if_icmp .ge 37, 3) := by decide +kernel
theorem dX1_readFrost_53 : decode cX1_readFrost 53 = .ok (.aload_n 0, 1) := by decide +kernel
theorem dX1_readFrost_54 : decode cX1_readFrost 54 = .ok (.invokevirtual 29, 3) := by decide +kernel
theorem dX1_readFrost_57 : decode cX1_readFrost 57 = .ok (.ifCond .eq 7, 3) := by decide +kernel
theorem dX1_readFrost_60 : decode cX1_readFrost 60 = .ok (.iload_n 2, 1) := by decide +kernel
theorem dX1_readFrost_61 : decode cX1_readFrost 61 = .ok (.goto 7, 3) := by decide +kernel
theorem dX1_readFrost_68 : decode cX1_readFrost 68 = .ok (.ireturn, 1) := by decide +kernel
theorem dX1_readTown_0 : decode cX1_readTown 0 = .ok (.aload_n 0, 1) := by decide +kernel
theorem dX1_readTown_1 : decode cX1_readTown 1 = .ok (.bipush 76, 2) := by decide +kernel
theorem dX1_readTown_3 : decode cX1_readTown 3 = .ok (.invokevirtual 9, 3) := by decide +kernel
theorem dX1_readTown_6 : decode cX1_readTown 6 = .ok (.aload_n 0, 1) := by decide +kernel
theorem dX1_readTown_7 : decode cX1_readTown 7 = .ok (.getfield 15, 3) := by decide +kernel
theorem dX1_readTown_10 : decode cX1_readTown 10 = .ok (.ifCond .ne 5, 3) := by decide +kernel
theorem dX1_readTown_13 : decode cX1_readTown 13 = .ok (.iconst 0, 1) := by decide +kernel
theorem dX1_readTown_14 : decode cX1_readTown 14 = .ok (.ireturn, 1) := by decide +kernel
theorem dX2_add_0 : decode cX2_add 0 = .ok (.aload_n 0, 1) := by decide +kernel
theorem dX2_add_1 : decode cX2_add 1 = .ok (.getfield 13, 3) := by decide +kernel
theorem dX2_add_4 : decode cX2_add 4 = .ok (.bipush 10, 2) := by decide +kernel
theorem dX2_add_6 : decode cX2_add 6 = .ok (.if_icmp .ge 23, 3) := by decide +kernel
theorem dX2_add_9 : decode cX2_add 9 = .ok (.aload_n 0, 1) := by decide +kernel
theorem dX2_add_10 : decode cX2_add 10 = .ok (.getfield 9, 3) := by decide +kernel
theorem dX2_add_13 : decode cX2_add 13 = .ok (.aload_n 0, 1) := by decide +kernel
theorem dX2_add_14 : decode cX2_add 14 = .ok (.getfield 13, 3) := by decide +kernel
theorem dX2_add_17 : decode cX2_add 17 = .ok (.iload_n 1, 1) := by decide +kernel
theorem dX2_add_18 : decode cX2_add 18 = .ok (.iastore, 1) := by decide +kernel
theorem dX2_add_19 : decode cX2_add 19 = .ok (.aload_n 0, 1) := by decide +kernel
theorem dX2_add_20 : decode cX2_add 20 = .ok (.dup, 1) := by decide +kernel
theorem dX2_add_21 : decode cX2_add 21 = .ok (.getfield 13, 3) := by decide +kernel
theorem dX2_add_24 : decode cX2_add 24 = .ok (.iconst 1, 1) := by decide +kernel
theorem dX2_add_25 : decode cX2_add 25 = .ok (.iadd, 1) := by decide +kernel
theorem dX2_add_26 : decode cX2_add 26 = .ok (.putfield 13, 3) := by decide +kernel
theorem dX2_add_29 : decode cX2_add 29 = .ok (.return_, 1) := by decide +kernel
theorem dX2_clear_0 : decode cX2_clear 0 = .ok (.aload_n 0, 1) := by decide +kernel
theorem dX2_clear_1 : decode cX2_clear 1 = .ok (.iconst 0, 1) := by decide +kernel
theorem dX2_clear_2 : decode cX2_clear 2 = .ok (.putfield 13, 3) := by decide +kernel
theorem dX2_clear_5 : decode cX2_clear 5 = .ok (.return_, 1) := by decide +kernel
theorem dX2_putAll_0 : decode cX2_putAll 0 = .ok (.aload_n 0, 1) := by decide +kernel
theorem dX2_putAll_1 : decode cX2_putAll 1 = .ok (.invokevirtual 17, 3) := by decide +kernel
theorem dX2_putAll_4 : decode cX2_putAll 4 = .ok (.iconst 0, 1) := by decide +kernel
theorem dX2_putAll_5 : decode cX2_putAll 5 = .ok (.istore_n 3, 1) := by decide +kernel
theorem dX2_putAll_6 : decode cX2_putAll 6 = .ok (.iload_n 3, 1) := by decide +kernel
theorem dX2_putAll_7 : decode cX2_putAll 7 = .ok (.iload_n 2, 1) := by decide +kernel
theorem dX2_putAll_8 : decode cX2_putAll 8 = .ok (.if_icmp .ge 22, 3) := by decide +kernel
theorem dX2_putAll_11 : decode cX2_putAll 11 = .ok (.iload_n 3, 1) := by decide +kernel
theorem dX2_putAll_12 : decode cX2_putAll 12 = .ok (.aload_n 1, 1) := by decide +kernel
theorem dX2_putAll_13 : decode cX2_putAll 13 = .ok (.arraylength, 1) := by decide +kernel
theorem dX2_putAll_14 : decode cX2_putAll 14 = .ok (.if_icmp .ge 16, 3) := by decide +kernel
theorem dX2_putAll_17 : decode cX2_putAll 17 = .ok (.aload_n 0, 1) := by decide +kernel
theorem dX2_putAll_18 : decode cX2_putAll 18 = .ok (.aload_n 1, 1) := by decide +kernel
theorem dX2_putAll_19 : decode cX2_putAll 19 = .ok (.iload_n 3, 1) := by decide +kernel
theorem dX2_putAll_20 : decode cX2_putAll 20 = .ok (.iaload, 1) := by decide +kernel
theorem dX2_putAll_21 : decode cX2_putAll 21 = .ok (.invokevirtual 20, 3) := by decide +kernel
theorem dX2_putAll_24 : decode cX2_putAll 24 = .ok (.iinc 3 1, 3) := by decide +kernel
theorem dX2_putAll_27 : decode cX2_putAll 27 = .ok (.goto (-21), 3) := by decide +kernel
theorem dX2_putAll_30 : decode cX2_putAll 30 = .ok (.return_, 1) := by decide +kernel
theorem dX2_putTwo_0 : decode cX2_putTwo 0 = .ok (.aload_n 0, 1) := by decide +kernel
theorem dX2_putTwo_1 : decode cX2_putTwo 1 = .ok (.invokevirtual 17, 3) := by decide +kernel
theorem dX2_putTwo_4 : decode cX2_putTwo 4 = .ok (.aload_n 0, 1) := by decide +kernel
theorem dX2_putTwo_5 : decode cX2_putTwo 5 = .ok (.iload_n 1, 1) := by decide +kernel
theorem dX2_putTwo_6 : decode cX2_putTwo 6 = .ok (.invokevirtual 20, 3) := by decide +kernel
theorem dX2_putTwo_9 : decode cX2_putTwo 9 = .ok (.aload_n 0, 1) := by decide +kernel
theorem dX2_putTwo_10 : decode cX2_putTwo 10 = .ok (.iload_n 2, 1) := by decide +kernel
theorem dX2_putTwo_11 : decode cX2_putTwo 11 = .ok (.invokevirtual 20, 3) := by decide +kernel
theorem dX2_putTwo_14 : decode cX2_putTwo 14 = .ok (.return_, 1) := by decide +kernel
theorem dX3_read_0 : decode cX3_read 0 = .ok (.aload_n 0, 1) := by decide +kernel
theorem dX3_read_1 : decode cX3_read 1 = .ok (.invokevirtual 47, 3) := by decide +kernel
theorem dX3_read_4 : decode cX3_read 4 = .ok (.aload_n 1, 1) := by decide +kernel
theorem dX3_read_5 : decode cX3_read 5 = .ok (.bipush 40, 2) := by decide +kernel
theorem dX3_read_7 : decode cX3_read 7 = .ok (.invokevirtual 50, 3) := by decide +kernel
theorem dX3_read_10 : decode cX3_read 10 = .ok (.aload_n 1, 1) := by decide +kernel
theorem dX3_read_11 : decode cX3_read 11 = .ok (.getfield 56, 3) := by decide +kernel
theorem dX3_read_14 : decode cX3_read 14 = .ok (.ifCond .ne 5, 3) := by decide +kernel
theorem dX3_read_17 : decode cX3_read 17 = .ok (.iconst (-1), 1) := by decide +kernel
theorem dX3_read_18 : decode cX3_read 18 = .ok (.ireturn, 1) := by decide +kernel
theorem dX3_reset_0 : decode cX3_reset 0 = .ok (.aload_n 0, 1) := by decide +kernel
theorem dX3_reset_1 : decode cX3_reset 1 = .ok (.iconst 0, 1) := by decide +kernel
theorem dX3_reset_2 : decode cX3_reset 2 = .ok (.putfield 21, 3) := by decide +kernel
theorem dX3_reset_5 : decode cX3_reset 5 = .ok (.aload_n 0, 1) := by decide +kernel
theorem dX3_reset_6 : decode cX3_reset 6 = .ok (.iconst 0, 1) := by decide +kernel
theorem dX3_reset_7 : decode cX3_reset 7 = .ok (.putfield 25, 3) := by decide +kernel
theorem dX3_reset_10 : decode cX3_reset 10 = .ok (.aload_n 0, 1) := by decide +kernel
theorem dX3_reset_11 : decode cX3_reset 11 = .ok (.iconst 0, 1) := by decide +kernel
theorem dX3_reset_12 : decode cX3_reset 12 = .ok (.putfield 28, 3) := by decide +kernel
theorem dX3_reset_15 : decode cX3_reset 15 = .ok (.aload_n 0, 1) := by decide +kernel
theorem dX3_reset_16 : decode cX3_reset 16 = .ok (.iconst 0, 1) := by decide +kernel
theorem dX3_reset_17 : decode cX3_reset 17 = .ok (.putfield 31, 3) := by decide +kernel
theorem dX3_reset_20 : decode cX3_reset 20 = .ok (.aload_n 0, 1) := by decide +kernel
theorem dX3_reset_21 : decode cX3_reset 21 = .ok (.iconst 0, 1) := by decide +kernel
theorem dX3_reset_22 : decode cX3_reset 22 = .ok (.putfield 34, 3) := by decide +kernel
theorem dX3_reset_25 : decode cX3_reset 25 = .ok (.aload_n 0, 1) := by decide +kernel
theorem dX3_reset_26 : decode cX3_reset 26 = .ok (.iconst 1, 1) := by decide +kernel
theorem dX3_reset_27 : decode cX3_reset 27 = .ok (.putfield 37, 3) := by decide +kernel
theorem dX3_reset_30 : decode cX3_reset 30 = .ok (.aload_n 0, 1) := by decide +kernel
theorem dX3_reset_31 : decode cX3_reset 31 = .ok (.iconst 0, 1) := by decide +kernel
theorem dX3_reset_32 : decode cX3_reset 32 = .ok (.putfield 41, 3) := by decide +kernel
theorem dX3_reset_35 : decode cX3_reset 35 = .ok (.aload_n 0, 1) := by decide +kernel
theorem dX3_reset_36 : decode cX3_reset 36 = .ok (.iconst 0, 1) := by decide +kernel
theorem dX3_reset_37 : decode cX3_reset 37 = .ok (.putfield 44, 3) := by decide +kernel
theorem dX3_reset_40 : decode cX3_reset 40 = .ok (.return_, 1) := by decide +kernel
theorem dX5_holdIn_0 : decode cX5_holdIn 0 = .ok (.aload_n 0, 1) := by decide +kernel
theorem dX5_holdIn_1 : decode cX5_holdIn 1 = .ok (.invokevirtual 29, 3) := by decide +kernel
theorem dX5_holdIn_4 : decode cX5_holdIn 4 = .ok (.istore_n 2, 1) := by decide +kernel
theorem dX5_holdIn_5 : decode cX5_holdIn 5 = .ok (.iconst 1, 1) := by decide +kernel
theorem dX5_holdIn_6 : decode cX5_holdIn 6 = .ok (.istore_n 3, 1) := by decide +kernel
theorem dX5_holdIn_7 : decode cX5_holdIn 7 = .ok (.iload_n 3, 1) := by decide +kernel
theorem dX5_holdIn_8 : decode cX5_holdIn 8 = .ok (.iload_n 2, 1) := by decide +kernel
theorem dX5_holdIn_9 : decode cX5_holdIn 9 = .ok (.if_icmp .gt 67, 3) := by decide +kernel
theorem dX5_holdIn_76 : decode cX5_holdIn 76 = .ok (.iconst 1, 1) := by decide +kernel
theorem dX5_holdIn_77 : decode cX5_holdIn 77 = .ok (.ireturn, 1) := by decide +kernel
theorem dX5_longest_0 : decode cX5_longest 0 = .ok (.iconst 0, 1) := by decide +kernel
theorem dX5_longest_1 : decode cX5_longest 1 = .ok (.istore_n 1, 1) := by decide +kernel
theorem dX5_longest_2 : decode cX5_longest 2 = .ok (.iconst 0, 1) := by decide +kernel
theorem dX5_longest_3 : decode cX5_longest 3 = .ok (.istore_n 2, 1) := by decide +kernel
theorem dX5_longest_4 : decode cX5_longest 4 = .ok (.iload_n 2, 1) := by decide +kernel
theorem dX5_longest_5 : decode cX5_longest 5 = .ok (.aload_n 0, 1) := by decide +kernel
theorem dX5_longest_6 : decode cX5_longest 6 = .ok (.getfield 19, 3) := by decide +kernel
theorem dX5_longest_9 : decode cX5_longest 9 = .ok (.if_icmp .ge 20, 3) := by decide +kernel
theorem dX5_longest_29 : decode cX5_longest 29 = .ok (.iload_n 1, 1) := by decide +kernel
theorem dX5_longest_30 : decode cX5_longest 30 = .ok (.ireturn, 1) := by decide +kernel
theorem dX6_addFour_0 : decode cX6_addFour 0 = .ok (.aload_n 0, 1) := by decide +kernel
theorem dX6_addFour_1 : decode cX6_addFour 1 = .ok (.getfield 15, 3) := by decide +kernel
theorem dX6_addFour_4 : decode cX6_addFour 4 = .ok (.iconst 4, 1) := by decide +kernel
theorem dX6_addFour_5 : decode cX6_addFour 5 = .ok (.iadd, 1) := by decide +kernel
theorem dX6_addFour_6 : decode cX6_addFour 6 = .ok (.bipush 80, 2) := by decide +kernel
theorem dX6_addFour_8 : decode cX6_addFour 8 = .ok (.if_icmp .le 5, 3) := by decide +kernel
theorem dX6_addFour_13 : decode cX6_addFour 13 = .ok (.bipush 24, 2) := by decide +kernel
theorem dX6_addFour_15 : decode cX6_addFour 15 = .ok (.istore_n 2, 1) := by decide +kernel
theorem dX6_addFour_16 : decode cX6_addFour 16 = .ok (.iload_n 2, 1) := by decide +kernel
theorem dX6_addFour_17 : decode cX6_addFour 17 = .ok (.ifCond .lt 36, 3) := by decide +kernel
theorem dX6_addFour_20 : decode cX6_addFour 20 = .ok (.aload_n 0, 1) := by decide +kernel
theorem dX6_addFour_21 : decode cX6_addFour 21 = .ok (.getfield 9, 3) := by decide +kernel
theorem dX6_addFour_24 : decode cX6_addFour 24 = .ok (.aload_n 0, 1) := by decide +kernel
theorem dX6_addFour_25 : decode cX6_addFour 25 = .ok (.getfield 15, 3) := by decide +kernel
theorem dX6_addFour_28 : decode cX6_addFour 28 = .ok (.iload_n 1, 1) := by decide +kernel
theorem dX6_addFour_29 : decode cX6_addFour 29 = .ok (.iload_n 2, 1) := by decide +kernel
theorem dX6_addFour_30 : decode cX6_addFour 30 = .ok (.iushr, 1) := by decide +kernel
theorem dX6_addFour_31 : decode cX6_addFour 31 = .ok (.sipush 255, 3) := by decide +kernel
theorem dX6_addFour_34 : decode cX6_addFour 34 = .ok (.iand, 1) := by decide +kernel
theorem dX6_addFour_35 : decode cX6_addFour 35 = .ok (.i2c, 1) := by decide +kernel
theorem dX6_addFour_36 : decode cX6_addFour 36 = .ok (.castore, 1) := by decide +kernel
theorem dX6_addFour_37 : decode cX6_addFour 37 = .ok (.aload_n 0, 1) := by decide +kernel
theorem dX6_addFour_38 : decode cX6_addFour 38 = .ok (.dup, 1) := by decide +kernel
theorem dX6_addFour_39 : decode cX6_addFour 39 = .ok (.getfield 15, 3) := by decide +kernel
theorem dX6_addFour_42 : decode cX6_addFour 42 = .ok (.iconst 1, 1) := by decide +kernel
theorem dX6_addFour_43 : decode cX6_addFour 43 = .ok (.iadd, 1) := by decide +kernel
theorem dX6_addFour_44 : decode cX6_addFour 44 = .ok (.putfield 15, 3) := by decide +kernel
theorem dX6_addFour_47 : decode cX6_addFour 47 = .ok (.iinc 2 (-8), 3) := by decide +kernel
theorem dX6_addFour_50 : decode cX6_addFour 50 = .ok (.goto (-34), 3) := by decide +kernel
theorem dX6_addFour_53 : decode cX6_addFour 53 = .ok (.iconst 1, 1) := by decide +kernel
theorem dX6_addFour_54 : decode cX6_addFour 54 = .ok (.ireturn, 1) := by decide +kernel
theorem dX6_cutTo_0 : decode cX6_cutTo 0 = .ok (.iload_n 1, 1) := by decide +kernel
theorem dX6_cutTo_1 : decode cX6_cutTo 1 = .ok (.ifCond .lt 11, 3) := by decide +kernel
theorem dX6_cutTo_4 : decode cX6_cutTo 4 = .ok (.iload_n 1, 1) := by decide +kernel
theorem dX6_cutTo_5 : decode cX6_cutTo 5 = .ok (.aload_n 0, 1) := by decide +kernel
theorem dX6_cutTo_6 : decode cX6_cutTo 6 = .ok (.getfield 15, 3) := by decide +kernel
theorem dX6_cutTo_9 : decode cX6_cutTo 9 = .ok (.if_icmp .le 5, 3) := by decide +kernel
theorem dX6_cutTo_12 : decode cX6_cutTo 12 = .ok (.iconst 0, 1) := by decide +kernel
theorem dX6_cutTo_13 : decode cX6_cutTo 13 = .ok (.ireturn, 1) := by decide +kernel
theorem dX6_cutTo_14 : decode cX6_cutTo 14 = .ok (.aload_n 0, 1) := by decide +kernel
theorem dX6_cutTo_15 : decode cX6_cutTo 15 = .ok (.iload_n 1, 1) := by decide +kernel
theorem dX6_cutTo_16 : decode cX6_cutTo 16 = .ok (.putfield 15, 3) := by decide +kernel
theorem dX6_cutTo_19 : decode cX6_cutTo 19 = .ok (.iconst 1, 1) := by decide +kernel
theorem dX6_cutTo_20 : decode cX6_cutTo 20 = .ok (.ireturn, 1) := by decide +kernel
theorem dX6_empty_0 : decode cX6_empty 0 = .ok (.aload_n 0, 1) := by decide +kernel
theorem dX6_empty_1 : decode cX6_empty 1 = .ok (.iconst 0, 1) := by decide +kernel
theorem dX6_empty_2 : decode cX6_empty 2 = .ok (.putfield 15, 3) := by decide +kernel
theorem dX6_empty_5 : decode cX6_empty 5 = .ok (.return_, 1) := by decide +kernel
theorem dX6_isReadWhole_0 : decode cX6_isReadWhole 0 = .ok (.aload_n 0, 1) := by decide +kernel
theorem dX6_isReadWhole_1 : decode cX6_isReadWhole 1 = .ok (.getfield 19, 3) := by decide +kernel
theorem dX6_isReadWhole_4 : decode cX6_isReadWhole 4 = .ok (.aload_n 0, 1) := by decide +kernel
theorem dX6_isReadWhole_5 : decode cX6_isReadWhole 5 = .ok (.getfield 15, 3) := by decide +kernel
theorem dX6_isReadWhole_8 : decode cX6_isReadWhole 8 = .ok (.if_icmp .ne 7, 3) := by decide +kernel
theorem dX6_isReadWhole_11 : decode cX6_isReadWhole 11 = .ok (.iconst 1, 1) := by decide +kernel
theorem dX6_isReadWhole_12 : decode cX6_isReadWhole 12 = .ok (.goto 4, 3) := by decide +kernel
theorem dX6_isReadWhole_16 : decode cX6_isReadWhole 16 = .ok (.ireturn, 1) := by decide +kernel
theorem dX6_open_0 : decode cX6_open 0 = .ok (.aload_n 0, 1) := by decide +kernel
theorem dX6_open_1 : decode cX6_open 1 = .ok (.iconst 0, 1) := by decide +kernel
theorem dX6_open_2 : decode cX6_open 2 = .ok (.putfield 19, 3) := by decide +kernel
theorem dX6_open_5 : decode cX6_open 5 = .ok (.aload_n 0, 1) := by decide +kernel
theorem dX6_open_6 : decode cX6_open 6 = .ok (.aload_n 0, 1) := by decide +kernel
theorem dX6_open_7 : decode cX6_open 7 = .ok (.getfield 15, 3) := by decide +kernel
theorem dX6_open_10 : decode cX6_open 10 = .ok (.iload_n 1, 1) := by decide +kernel
theorem dX6_open_11 : decode cX6_open 11 = .ok (.invokestatic 25, 3) := by decide +kernel
theorem dX6_open_14 : decode cX6_open 14 = .ok (.putfield 22, 3) := by decide +kernel
theorem dX6_open_17 : decode cX6_open 17 = .ok (.return_, 1) := by decide +kernel
theorem dX7_isGoalFor_0 : decode cX7_isGoalFor 0 = .ok (.aload_n 0, 1) := by decide +kernel
theorem dX7_isGoalFor_1 : decode cX7_isGoalFor 1 = .ok (.getfield 18, 3) := by decide +kernel
theorem dX7_isGoalFor_4 : decode cX7_isGoalFor 4 = .ok (.ifCond .eq 29, 3) := by decide +kernel
theorem dX7_isGoalFor_33 : decode cX7_isGoalFor 33 = .ok (.iconst 0, 1) := by decide +kernel
theorem dX7_isGoalFor_34 : decode cX7_isGoalFor 34 = .ok (.ireturn, 1) := by decide +kernel
theorem dX7_readGoal_0 : decode cX7_readGoal 0 = .ok (.aload_n 1, 1) := by decide +kernel
theorem dX7_readGoal_1 : decode cX7_readGoal 1 = .ok (.getfield 35, 3) := by decide +kernel
theorem dX7_readGoal_4 : decode cX7_readGoal 4 = .ok (.ifCond .ne 17, 3) := by decide +kernel
theorem dX7_readGoal_7 : decode cX7_readGoal 7 = .ok (.aload_n 2, 1) := by decide +kernel
theorem dX7_readGoal_8 : decode cX7_readGoal 8 = .ok (.getfield 40, 3) := by decide +kernel
theorem dX7_readGoal_11 : decode cX7_readGoal 11 = .ok (.ifCond .le 10, 3) := by decide +kernel
theorem dX7_readGoal_21 : decode cX7_readGoal 21 = .ok (.aload_n 1, 1) := by decide +kernel
theorem dX7_readGoal_22 : decode cX7_readGoal 22 = .ok (.bipush 80, 2) := by decide +kernel
theorem dX7_readGoal_24 : decode cX7_readGoal 24 = .ok (.invokevirtual 43, 3) := by decide +kernel
theorem dX7_readGoal_27 : decode cX7_readGoal 27 = .ok (.iconst 0, 1) := by decide +kernel
theorem dX7_readGoal_28 : decode cX7_readGoal 28 = .ok (.istore_n 3, 1) := by decide +kernel
theorem dX7_readGoal_29 : decode cX7_readGoal 29 = .ok (.iconst 0, 1) := by decide +kernel
theorem dX7_readGoal_30 : decode cX7_readGoal 30 = .ok (.istore 4, 2) := by decide +kernel
theorem dX7_readGoal_32 : decode cX7_readGoal 32 = .ok (.iload 4, 2) := by decide +kernel
theorem dX7_readGoal_34 : decode cX7_readGoal 34 = .ok (.aload_n 2, 1) := by decide +kernel
theorem dX7_readGoal_35 : decode cX7_readGoal 35 = .ok (.getfield 40, 3) := by decide +kernel
theorem dX7_readGoal_38 : decode cX7_readGoal 38 = .ok (.if_icmp .ge 112, 3) := by decide +kernel
theorem dX7_readGoal_150 : decode cX7_readGoal 150 = .ok (.aload_n 1, 1) := by decide +kernel
theorem dX7_readGoal_151 : decode cX7_readGoal 151 = .ok (.invokevirtual 59, 3) := by decide +kernel
theorem dX7_readGoal_154 : decode cX7_readGoal 154 = .ok (.ifCond .ne 8, 3) := by decide +kernel
theorem dX7_readGoal_162 : decode cX7_readGoal 162 = .ok (.aload_n 0, 1) := by decide +kernel
theorem dX7_readGoal_163 : decode cX7_readGoal 163 = .ok (.getfield 15, 3) := by decide +kernel
theorem dX7_readGoal_166 : decode cX7_readGoal 166 = .ok (.iconst 0, 1) := by decide +kernel
theorem dX7_readGoal_167 : decode cX7_readGoal 167 = .ok (.aload_n 0, 1) := by decide +kernel
theorem dX7_readGoal_168 : decode cX7_readGoal 168 = .ok (.getfield 9, 3) := by decide +kernel
theorem dX7_readGoal_171 : decode cX7_readGoal 171 = .ok (.iconst 0, 1) := by decide +kernel
theorem dX7_readGoal_172 : decode cX7_readGoal 172 = .ok (.aload_n 0, 1) := by decide +kernel
theorem dX7_readGoal_173 : decode cX7_readGoal 173 = .ok (.getfield 9, 3) := by decide +kernel
theorem dX7_readGoal_176 : decode cX7_readGoal 176 = .ok (.arraylength, 1) := by decide +kernel
theorem dX7_readGoal_177 : decode cX7_readGoal 177 = .ok (.invokestatic 67, 3) := by decide +kernel
theorem dX7_readGoal_180 : decode cX7_readGoal 180 = .ok (.aload_n 0, 1) := by decide +kernel
theorem dX7_readGoal_181 : decode cX7_readGoal 181 = .ok (.iconst 1, 1) := by decide +kernel
theorem dX7_readGoal_182 : decode cX7_readGoal 182 = .ok (.putfield 18, 3) := by decide +kernel
theorem dX7_readGoal_185 : decode cX7_readGoal 185 = .ok (.aload_n 0, 1) := by decide +kernel
theorem dX7_readGoal_186 : decode cX7_readGoal 186 = .ok (.aload_n 2, 1) := by decide +kernel
theorem dX7_readGoal_187 : decode cX7_readGoal 187 = .ok (.getfield 54, 3) := by decide +kernel
theorem dX7_readGoal_190 : decode cX7_readGoal 190 = .ok (.putfield 22, 3) := by decide +kernel
theorem dX7_readGoal_193 : decode cX7_readGoal 193 = .ok (.aload_n 0, 1) := by decide +kernel
theorem dX7_readGoal_194 : decode cX7_readGoal 194 = .ok (.aload_n 2, 1) := by decide +kernel
theorem dX7_readGoal_195 : decode cX7_readGoal 195 = .ok (.getfield 40, 3) := by decide +kernel
theorem dX7_readGoal_198 : decode cX7_readGoal 198 = .ok (.putfield 26, 3) := by decide +kernel
theorem dX7_readGoal_201 : decode cX7_readGoal 201 = .ok (.aload_n 0, 1) := by decide +kernel
theorem dX7_readGoal_202 : decode cX7_readGoal 202 = .ok (.getfield 26, 3) := by decide +kernel
theorem dX7_readGoal_205 : decode cX7_readGoal 205 = .ok (.ireturn, 1) := by decide +kernel
theorem dX8_changedNests_0 : decode cX8_changedNests 0 = .ok (.iconst 0, 1) := by decide +kernel
theorem dX8_changedNests_1 : decode cX8_changedNests 1 = .ok (.istore_n 1, 1) := by decide +kernel
theorem dX8_changedNests_2 : decode cX8_changedNests 2 = .ok (.iconst 0, 1) := by decide +kernel
theorem dX8_changedNests_3 : decode cX8_changedNests 3 = .ok (.istore_n 2, 1) := by decide +kernel
theorem dX8_changedNests_4 : decode cX8_changedNests 4 = .ok (.iload_n 2, 1) := by decide +kernel
theorem dX8_changedNests_5 : decode cX8_changedNests 5 = .ok (.aload_n 0, 1) := by decide +kernel
theorem dX8_changedNests_6 : decode cX8_changedNests 6 = .ok (.getfield 18, 3) := by decide +kernel
theorem dX8_changedNests_9 : decode cX8_changedNests 9 = .ok (.if_icmp .ge 27, 3) := by decide +kernel
theorem dX8_changedNests_36 : decode cX8_changedNests 36 = .ok (.iload_n 1, 1) := by decide +kernel
theorem dX8_changedNests_37 : decode cX8_changedNests 37 = .ok (.ireturn, 1) := by decide +kernel
theorem dX8_copyFrom_0 : decode cX8_copyFrom 0 = .ok (.aload_n 0, 1) := by decide +kernel
theorem dX8_copyFrom_1 : decode cX8_copyFrom 1 = .ok (.aload_n 1, 1) := by decide +kernel
theorem dX8_copyFrom_2 : decode cX8_copyFrom 2 = .ok (.getfield 9, 3) := by decide +kernel
theorem dX8_copyFrom_5 : decode cX8_copyFrom 5 = .ok (.putfield 9, 3) := by decide +kernel
theorem dX8_copyFrom_8 : decode cX8_copyFrom 8 = .ok (.aload_n 0, 1) := by decide +kernel
theorem dX8_copyFrom_9 : decode cX8_copyFrom 9 = .ok (.aload_n 1, 1) := by decide +kernel
theorem dX8_copyFrom_10 : decode cX8_copyFrom 10 = .ok (.getfield 15, 3) := by decide +kernel
theorem dX8_copyFrom_13 : decode cX8_copyFrom 13 = .ok (.putfield 15, 3) := by decide +kernel
theorem dX8_copyFrom_16 : decode cX8_copyFrom 16 = .ok (.aload_n 0, 1) := by decide +kernel
theorem dX8_copyFrom_17 : decode cX8_copyFrom 17 = .ok (.aload_n 1, 1) := by decide +kernel
theorem dX8_copyFrom_18 : decode cX8_copyFrom 18 = .ok (.getfield 18, 3) := by decide +kernel
theorem dX8_copyFrom_21 : decode cX8_copyFrom 21 = .ok (.putfield 18, 3) := by decide +kernel
theorem dX8_copyFrom_24 : decode cX8_copyFrom 24 = .ok (.aload_n 0, 1) := by decide +kernel
theorem dX8_copyFrom_25 : decode cX8_copyFrom 25 = .ok (.aload_n 1, 1) := by decide +kernel
theorem dX8_copyFrom_26 : decode cX8_copyFrom 26 = .ok (.getfield 21, 3) := by decide +kernel
theorem dX8_copyFrom_29 : decode cX8_copyFrom 29 = .ok (.putfield 21, 3) := by decide +kernel
theorem dX8_copyFrom_32 : decode cX8_copyFrom 32 = .ok (.aload_n 1, 1) := by decide +kernel
theorem dX8_copyFrom_33 : decode cX8_copyFrom 33 = .ok (.getfield 24, 3) := by decide +kernel
theorem dX8_copyFrom_36 : decode cX8_copyFrom 36 = .ok (.iconst 0, 1) := by decide +kernel
theorem dX8_copyFrom_37 : decode cX8_copyFrom 37 = .ok (.aload_n 0, 1) := by decide +kernel
theorem dX8_copyFrom_38 : decode cX8_copyFrom 38 = .ok (.getfield 24, 3) := by decide +kernel
theorem dX8_copyFrom_41 : decode cX8_copyFrom 41 = .ok (.iconst 0, 1) := by decide +kernel
theorem dX8_copyFrom_42 : decode cX8_copyFrom 42 = .ok (.aload_n 0, 1) := by decide +kernel
theorem dX8_copyFrom_43 : decode cX8_copyFrom 43 = .ok (.getfield 24, 3) := by decide +kernel
theorem dX8_copyFrom_46 : decode cX8_copyFrom 46 = .ok (.arraylength, 1) := by decide +kernel
theorem dX8_copyFrom_47 : decode cX8_copyFrom 47 = .ok (.invokestatic 74, 3) := by decide +kernel
theorem dX8_copyFrom_50 : decode cX8_copyFrom 50 = .ok (.aload_n 1, 1) := by decide +kernel
theorem dX8_copyFrom_51 : decode cX8_copyFrom 51 = .ok (.getfield 28, 3) := by decide +kernel
theorem dX8_copyFrom_54 : decode cX8_copyFrom 54 = .ok (.iconst 0, 1) := by decide +kernel
theorem dX8_copyFrom_55 : decode cX8_copyFrom 55 = .ok (.aload_n 0, 1) := by decide +kernel
theorem dX8_copyFrom_56 : decode cX8_copyFrom 56 = .ok (.getfield 28, 3) := by decide +kernel
theorem dX8_copyFrom_59 : decode cX8_copyFrom 59 = .ok (.iconst 0, 1) := by decide +kernel
theorem dX8_copyFrom_60 : decode cX8_copyFrom 60 = .ok (.aload_n 0, 1) := by decide +kernel
theorem dX8_copyFrom_61 : decode cX8_copyFrom 61 = .ok (.getfield 28, 3) := by decide +kernel
theorem dX8_copyFrom_64 : decode cX8_copyFrom 64 = .ok (.arraylength, 1) := by decide +kernel
theorem dX8_copyFrom_65 : decode cX8_copyFrom 65 = .ok (.invokestatic 74, 3) := by decide +kernel
theorem dX8_copyFrom_68 : decode cX8_copyFrom 68 = .ok (.aload_n 1, 1) := by decide +kernel
theorem dX8_copyFrom_69 : decode cX8_copyFrom 69 = .ok (.getfield 31, 3) := by decide +kernel
theorem dX8_copyFrom_72 : decode cX8_copyFrom 72 = .ok (.iconst 0, 1) := by decide +kernel
theorem dX8_copyFrom_73 : decode cX8_copyFrom 73 = .ok (.aload_n 0, 1) := by decide +kernel
theorem dX8_copyFrom_74 : decode cX8_copyFrom 74 = .ok (.getfield 31, 3) := by decide +kernel
theorem dX8_copyFrom_77 : decode cX8_copyFrom 77 = .ok (.iconst 0, 1) := by decide +kernel
theorem dX8_copyFrom_78 : decode cX8_copyFrom 78 = .ok (.aload_n 0, 1) := by decide +kernel
theorem dX8_copyFrom_79 : decode cX8_copyFrom 79 = .ok (.getfield 31, 3) := by decide +kernel
theorem dX8_copyFrom_82 : decode cX8_copyFrom 82 = .ok (.arraylength, 1) := by decide +kernel
theorem dX8_copyFrom_83 : decode cX8_copyFrom 83 = .ok (.invokestatic 74, 3) := by decide +kernel
theorem dX8_copyFrom_86 : decode cX8_copyFrom 86 = .ok (.aload_n 1, 1) := by decide +kernel
theorem dX8_copyFrom_87 : decode cX8_copyFrom 87 = .ok (.getfield 34, 3) := by decide +kernel
theorem dX8_copyFrom_90 : decode cX8_copyFrom 90 = .ok (.iconst 0, 1) := by decide +kernel
theorem dX8_copyFrom_91 : decode cX8_copyFrom 91 = .ok (.aload_n 0, 1) := by decide +kernel
theorem dX8_copyFrom_92 : decode cX8_copyFrom 92 = .ok (.getfield 34, 3) := by decide +kernel
theorem dX8_copyFrom_95 : decode cX8_copyFrom 95 = .ok (.iconst 0, 1) := by decide +kernel
theorem dX8_copyFrom_96 : decode cX8_copyFrom 96 = .ok (.aload_n 0, 1) := by decide +kernel
theorem dX8_copyFrom_97 : decode cX8_copyFrom 97 = .ok (.getfield 34, 3) := by decide +kernel
theorem dX8_copyFrom_100 : decode cX8_copyFrom 100 = .ok (.arraylength, 1) := by decide +kernel
theorem dX8_copyFrom_101 : decode cX8_copyFrom 101 = .ok (.invokestatic 74, 3) := by decide +kernel
theorem dX8_copyFrom_104 : decode cX8_copyFrom 104 = .ok (.aload_n 1, 1) := by decide +kernel
theorem dX8_copyFrom_105 : decode cX8_copyFrom 105 = .ok (.getfield 37, 3) := by decide +kernel
theorem dX8_copyFrom_108 : decode cX8_copyFrom 108 = .ok (.iconst 0, 1) := by decide +kernel
theorem dX8_copyFrom_109 : decode cX8_copyFrom 109 = .ok (.aload_n 0, 1) := by decide +kernel
theorem dX8_copyFrom_110 : decode cX8_copyFrom 110 = .ok (.getfield 37, 3) := by decide +kernel
theorem dX8_copyFrom_113 : decode cX8_copyFrom 113 = .ok (.iconst 0, 1) := by decide +kernel
theorem dX8_copyFrom_114 : decode cX8_copyFrom 114 = .ok (.aload_n 0, 1) := by decide +kernel
theorem dX8_copyFrom_115 : decode cX8_copyFrom 115 = .ok (.getfield 37, 3) := by decide +kernel
theorem dX8_copyFrom_118 : decode cX8_copyFrom 118 = .ok (.arraylength, 1) := by decide +kernel
theorem dX8_copyFrom_119 : decode cX8_copyFrom 119 = .ok (.invokestatic 74, 3) := by decide +kernel
theorem dX8_copyFrom_122 : decode cX8_copyFrom 122 = .ok (.aload_n 1, 1) := by decide +kernel
theorem dX8_copyFrom_123 : decode cX8_copyFrom 123 = .ok (.getfield 43, 3) := by decide +kernel
theorem dX8_copyFrom_126 : decode cX8_copyFrom 126 = .ok (.iconst 0, 1) := by decide +kernel
theorem dX8_copyFrom_127 : decode cX8_copyFrom 127 = .ok (.aload_n 0, 1) := by decide +kernel
theorem dX8_copyFrom_128 : decode cX8_copyFrom 128 = .ok (.getfield 43, 3) := by decide +kernel
theorem dX8_copyFrom_131 : decode cX8_copyFrom 131 = .ok (.iconst 0, 1) := by decide +kernel
theorem dX8_copyFrom_132 : decode cX8_copyFrom 132 = .ok (.aload_n 0, 1) := by decide +kernel
theorem dX8_copyFrom_133 : decode cX8_copyFrom 133 = .ok (.getfield 43, 3) := by decide +kernel
theorem dX8_copyFrom_136 : decode cX8_copyFrom 136 = .ok (.arraylength, 1) := by decide +kernel
theorem dX8_copyFrom_137 : decode cX8_copyFrom 137 = .ok (.invokestatic 74, 3) := by decide +kernel
theorem dX8_copyFrom_140 : decode cX8_copyFrom 140 = .ok (.aload_n 1, 1) := by decide +kernel
theorem dX8_copyFrom_141 : decode cX8_copyFrom 141 = .ok (.getfield 46, 3) := by decide +kernel
theorem dX8_copyFrom_144 : decode cX8_copyFrom 144 = .ok (.iconst 0, 1) := by decide +kernel
theorem dX8_copyFrom_145 : decode cX8_copyFrom 145 = .ok (.aload_n 0, 1) := by decide +kernel
theorem dX8_copyFrom_146 : decode cX8_copyFrom 146 = .ok (.getfield 46, 3) := by decide +kernel
theorem dX8_copyFrom_149 : decode cX8_copyFrom 149 = .ok (.iconst 0, 1) := by decide +kernel
theorem dX8_copyFrom_150 : decode cX8_copyFrom 150 = .ok (.aload_n 0, 1) := by decide +kernel
theorem dX8_copyFrom_151 : decode cX8_copyFrom 151 = .ok (.getfield 46, 3) := by decide +kernel
theorem dX8_copyFrom_154 : decode cX8_copyFrom 154 = .ok (.arraylength, 1) := by decide +kernel
theorem dX8_copyFrom_155 : decode cX8_copyFrom 155 = .ok (.invokestatic 74, 3) := by decide +kernel
theorem dX8_copyFrom_158 : decode cX8_copyFrom 158 = .ok (.aload_n 1, 1) := by decide +kernel
theorem dX8_copyFrom_159 : decode cX8_copyFrom 159 = .ok (.getfield 49, 3) := by decide +kernel
theorem dX8_copyFrom_162 : decode cX8_copyFrom 162 = .ok (.iconst 0, 1) := by decide +kernel
theorem dX8_copyFrom_163 : decode cX8_copyFrom 163 = .ok (.aload_n 0, 1) := by decide +kernel
theorem dX8_copyFrom_164 : decode cX8_copyFrom 164 = .ok (.getfield 49, 3) := by decide +kernel
theorem dX8_copyFrom_167 : decode cX8_copyFrom 167 = .ok (.iconst 0, 1) := by decide +kernel
theorem dX8_copyFrom_168 : decode cX8_copyFrom 168 = .ok (.aload_n 0, 1) := by decide +kernel
theorem dX8_copyFrom_169 : decode cX8_copyFrom 169 = .ok (.getfield 49, 3) := by decide +kernel
theorem dX8_copyFrom_172 : decode cX8_copyFrom 172 = .ok (.arraylength, 1) := by decide +kernel
theorem dX8_copyFrom_173 : decode cX8_copyFrom 173 = .ok (.invokestatic 74, 3) := by decide +kernel
theorem dX8_copyFrom_176 : decode cX8_copyFrom 176 = .ok (.aload_n 1, 1) := by decide +kernel
theorem dX8_copyFrom_177 : decode cX8_copyFrom 177 = .ok (.getfield 52, 3) := by decide +kernel
theorem dX8_copyFrom_180 : decode cX8_copyFrom 180 = .ok (.iconst 0, 1) := by decide +kernel
theorem dX8_copyFrom_181 : decode cX8_copyFrom 181 = .ok (.aload_n 0, 1) := by decide +kernel
theorem dX8_copyFrom_182 : decode cX8_copyFrom 182 = .ok (.getfield 52, 3) := by decide +kernel
theorem dX8_copyFrom_185 : decode cX8_copyFrom 185 = .ok (.iconst 0, 1) := by decide +kernel
theorem dX8_copyFrom_186 : decode cX8_copyFrom 186 = .ok (.aload_n 0, 1) := by decide +kernel
theorem dX8_copyFrom_187 : decode cX8_copyFrom 187 = .ok (.getfield 52, 3) := by decide +kernel
theorem dX8_copyFrom_190 : decode cX8_copyFrom 190 = .ok (.arraylength, 1) := by decide +kernel
theorem dX8_copyFrom_191 : decode cX8_copyFrom 191 = .ok (.invokestatic 74, 3) := by decide +kernel
theorem dX8_copyFrom_194 : decode cX8_copyFrom 194 = .ok (.aload_n 1, 1) := by decide +kernel
theorem dX8_copyFrom_195 : decode cX8_copyFrom 195 = .ok (.getfield 55, 3) := by decide +kernel
theorem dX8_copyFrom_198 : decode cX8_copyFrom 198 = .ok (.iconst 0, 1) := by decide +kernel
theorem dX8_copyFrom_199 : decode cX8_copyFrom 199 = .ok (.aload_n 0, 1) := by decide +kernel
theorem dX8_copyFrom_200 : decode cX8_copyFrom 200 = .ok (.getfield 55, 3) := by decide +kernel
theorem dX8_copyFrom_203 : decode cX8_copyFrom 203 = .ok (.iconst 0, 1) := by decide +kernel
theorem dX8_copyFrom_204 : decode cX8_copyFrom 204 = .ok (.aload_n 0, 1) := by decide +kernel
theorem dX8_copyFrom_205 : decode cX8_copyFrom 205 = .ok (.getfield 55, 3) := by decide +kernel
theorem dX8_copyFrom_208 : decode cX8_copyFrom 208 = .ok (.arraylength, 1) := by decide +kernel
theorem dX8_copyFrom_209 : decode cX8_copyFrom 209 = .ok (.invokestatic 74, 3) := by decide +kernel
theorem dX8_copyFrom_212 : decode cX8_copyFrom 212 = .ok (.aload_n 0, 1) := by decide +kernel
theorem dX8_copyFrom_213 : decode cX8_copyFrom 213 = .ok (.aload_n 1, 1) := by decide +kernel
theorem dX8_copyFrom_214 : decode cX8_copyFrom 214 = .ok (.getfield 61, 3) := by decide +kernel
theorem dX8_copyFrom_217 : decode cX8_copyFrom 217 = .ok (.putfield 61, 3) := by decide +kernel
theorem dX8_copyFrom_220 : decode cX8_copyFrom 220 = .ok (.aload_n 0, 1) := by decide +kernel
theorem dX8_copyFrom_221 : decode cX8_copyFrom 221 = .ok (.aload_n 1, 1) := by decide +kernel
theorem dX8_copyFrom_222 : decode cX8_copyFrom 222 = .ok (.getfield 64, 3) := by decide +kernel
theorem dX8_copyFrom_225 : decode cX8_copyFrom 225 = .ok (.putfield 64, 3) := by decide +kernel
theorem dX8_copyFrom_228 : decode cX8_copyFrom 228 = .ok (.aload_n 0, 1) := by decide +kernel
theorem dX8_copyFrom_229 : decode cX8_copyFrom 229 = .ok (.getfield 70, 3) := by decide +kernel
theorem dX8_copyFrom_232 : decode cX8_copyFrom 232 = .ok (.aload_n 1, 1) := by decide +kernel
theorem dX8_copyFrom_233 : decode cX8_copyFrom 233 = .ok (.getfield 70, 3) := by decide +kernel
theorem dX8_copyFrom_236 : decode cX8_copyFrom 236 = .ok (.invokevirtual 80, 3) := by decide +kernel
theorem dX8_copyFrom_239 : decode cX8_copyFrom 239 = .ok (.return_, 1) := by decide +kernel
theorem dX8_duesOfAll_0 : decode cX8_duesOfAll 0 = .ok (.iconst 0, 1) := by decide +kernel
theorem dX8_duesOfAll_1 : decode cX8_duesOfAll 1 = .ok (.istore_n 1, 1) := by decide +kernel
theorem dX8_duesOfAll_2 : decode cX8_duesOfAll 2 = .ok (.iconst 0, 1) := by decide +kernel
theorem dX8_duesOfAll_3 : decode cX8_duesOfAll 3 = .ok (.istore_n 2, 1) := by decide +kernel
theorem dX8_duesOfAll_4 : decode cX8_duesOfAll 4 = .ok (.iload_n 2, 1) := by decide +kernel
theorem dX8_duesOfAll_5 : decode cX8_duesOfAll 5 = .ok (.iconst 4, 1) := by decide +kernel
theorem dX8_duesOfAll_6 : decode cX8_duesOfAll 6 = .ok (.if_icmp .ge 18, 3) := by decide +kernel
theorem dX8_duesOfAll_9 : decode cX8_duesOfAll 9 = .ok (.iload_n 1, 1) := by decide +kernel
theorem dX8_duesOfAll_10 : decode cX8_duesOfAll 10 = .ok (.aload_n 0, 1) := by decide +kernel
theorem dX8_duesOfAll_11 : decode cX8_duesOfAll 11 = .ok (.getfield 58, 3) := by decide +kernel
theorem dX8_duesOfAll_14 : decode cX8_duesOfAll 14 = .ok (.iload_n 2, 1) := by decide +kernel
theorem dX8_duesOfAll_15 : decode cX8_duesOfAll 15 = .ok (.iaload, 1) := by decide +kernel
theorem dX8_duesOfAll_16 : decode cX8_duesOfAll 16 = .ok (.iadd, 1) := by decide +kernel
theorem dX8_duesOfAll_17 : decode cX8_duesOfAll 17 = .ok (.istore_n 1, 1) := by decide +kernel
theorem dX8_duesOfAll_18 : decode cX8_duesOfAll 18 = .ok (.iinc 2 1, 3) := by decide +kernel
theorem dX8_duesOfAll_21 : decode cX8_duesOfAll 21 = .ok (.goto (-17), 3) := by decide +kernel
theorem dX8_duesOfAll_24 : decode cX8_duesOfAll 24 = .ok (.iload_n 1, 1) := by decide +kernel
theorem dX8_duesOfAll_25 : decode cX8_duesOfAll 25 = .ok (.ireturn, 1) := by decide +kernel
theorem dX8_freeze_0 : decode cX8_freeze 0 = .ok (.iconst 0, 1) := by decide +kernel
theorem dX8_freeze_1 : decode cX8_freeze 1 = .ok (.istore_n 2, 1) := by decide +kernel
theorem dX8_freeze_2 : decode cX8_freeze 2 = .ok (.iload_n 2, 1) := by decide +kernel
theorem dX8_freeze_3 : decode cX8_freeze 3 = .ok (.aload_n 0, 1) := by decide +kernel
theorem dX8_freeze_4 : decode cX8_freeze 4 = .ok (.getfield 18, 3) := by decide +kernel
theorem dX8_freeze_7 : decode cX8_freeze 7 = .ok (.if_icmp .ge 37, 3) := by decide +kernel
theorem dX8_freeze_44 : decode cX8_freeze 44 = .ok (.return_, 1) := by decide +kernel
theorem dX8_frogsOfAll_0 : decode cX8_frogsOfAll 0 = .ok (.iconst 0, 1) := by decide +kernel
theorem dX8_frogsOfAll_1 : decode cX8_frogsOfAll 1 = .ok (.istore_n 1, 1) := by decide +kernel
theorem dX8_frogsOfAll_2 : decode cX8_frogsOfAll 2 = .ok (.iconst 0, 1) := by decide +kernel
theorem dX8_frogsOfAll_3 : decode cX8_frogsOfAll 3 = .ok (.istore_n 2, 1) := by decide +kernel
theorem dX8_frogsOfAll_4 : decode cX8_frogsOfAll 4 = .ok (.iload_n 2, 1) := by decide +kernel
theorem dX8_frogsOfAll_5 : decode cX8_frogsOfAll 5 = .ok (.aload_n 0, 1) := by decide +kernel
theorem dX8_frogsOfAll_6 : decode cX8_frogsOfAll 6 = .ok (.getfield 21, 3) := by decide +kernel
theorem dX8_frogsOfAll_9 : decode cX8_frogsOfAll 9 = .ok (.if_icmp .ge 17, 3) := by decide +kernel
theorem dX8_frogsOfAll_26 : decode cX8_frogsOfAll 26 = .ok (.iload_n 1, 1) := by decide +kernel
theorem dX8_frogsOfAll_27 : decode cX8_frogsOfAll 27 = .ok (.ireturn, 1) := by decide +kernel
theorem dX8_housedBits_0 : decode cX8_housedBits 0 = .ok (.iconst 0, 1) := by decide +kernel
theorem dX8_housedBits_1 : decode cX8_housedBits 1 = .ok (.istore_n 1, 1) := by decide +kernel
theorem dX8_housedBits_2 : decode cX8_housedBits 2 = .ok (.iconst 0, 1) := by decide +kernel
theorem dX8_housedBits_3 : decode cX8_housedBits 3 = .ok (.istore_n 2, 1) := by decide +kernel
theorem dX8_housedBits_4 : decode cX8_housedBits 4 = .ok (.iload_n 2, 1) := by decide +kernel
theorem dX8_housedBits_5 : decode cX8_housedBits 5 = .ok (.aload_n 0, 1) := by decide +kernel
theorem dX8_housedBits_6 : decode cX8_housedBits 6 = .ok (.getfield 21, 3) := by decide +kernel
theorem dX8_housedBits_9 : decode cX8_housedBits 9 = .ok (.if_icmp .ge 29, 3) := by decide +kernel
theorem dX8_housedBits_38 : decode cX8_housedBits 38 = .ok (.iload_n 1, 1) := by decide +kernel
theorem dX8_housedBits_39 : decode cX8_housedBits 39 = .ok (.ireturn, 1) := by decide +kernel
theorem dX8_isAtRest_0 : decode cX8_isAtRest 0 = .ok (.iconst 0, 1) := by decide +kernel
theorem dX8_isAtRest_1 : decode cX8_isAtRest 1 = .ok (.istore_n 1, 1) := by decide +kernel
theorem dX8_isAtRest_2 : decode cX8_isAtRest 2 = .ok (.iload_n 1, 1) := by decide +kernel
theorem dX8_isAtRest_3 : decode cX8_isAtRest 3 = .ok (.aload_n 0, 1) := by decide +kernel
theorem dX8_isAtRest_4 : decode cX8_isAtRest 4 = .ok (.getfield 18, 3) := by decide +kernel
theorem dX8_isAtRest_7 : decode cX8_isAtRest 7 = .ok (.if_icmp .ge 20, 3) := by decide +kernel
theorem dX8_isAtRest_27 : decode cX8_isAtRest 27 = .ok (.iconst 1, 1) := by decide +kernel
theorem dX8_isAtRest_28 : decode cX8_isAtRest 28 = .ok (.ireturn, 1) := by decide +kernel
theorem dX8_isBird_0 : decode cX8_isBird 0 = .ok (.iload_n 1, 1) := by decide +kernel
theorem dX8_isBird_1 : decode cX8_isBird 1 = .ok (.ifCond .lt 15, 3) := by decide +kernel
theorem dX8_isBird_4 : decode cX8_isBird 4 = .ok (.iload_n 1, 1) := by decide +kernel
theorem dX8_isBird_5 : decode cX8_isBird 5 = .ok (.aload_n 0, 1) := by decide +kernel
theorem dX8_isBird_6 : decode cX8_isBird 6 = .ok (.getfield 18, 3) := by decide +kernel
theorem dX8_isBird_9 : decode cX8_isBird 9 = .ok (.if_icmp .ge 7, 3) := by decide +kernel
theorem dX8_isBird_16 : decode cX8_isBird 16 = .ok (.iconst 0, 1) := by decide +kernel
theorem dX8_isBird_17 : decode cX8_isBird 17 = .ok (.ireturn, 1) := by decide +kernel
theorem dX8_isFamily_0 : decode cX8_isFamily 0 = .ok (.iload_n 1, 1) := by decide +kernel
theorem dX8_isFamily_1 : decode cX8_isFamily 1 = .ok (.ifCond .lt 15, 3) := by decide +kernel
theorem dX8_isFamily_4 : decode cX8_isFamily 4 = .ok (.iload_n 1, 1) := by decide +kernel
theorem dX8_isFamily_5 : decode cX8_isFamily 5 = .ok (.aload_n 0, 1) := by decide +kernel
theorem dX8_isFamily_6 : decode cX8_isFamily 6 = .ok (.getfield 21, 3) := by decide +kernel
theorem dX8_isFamily_9 : decode cX8_isFamily 9 = .ok (.if_icmp .ge 7, 3) := by decide +kernel
theorem dX8_isFamily_16 : decode cX8_isFamily 16 = .ok (.iconst 0, 1) := by decide +kernel
theorem dX8_isFamily_17 : decode cX8_isFamily 17 = .ok (.ireturn, 1) := by decide +kernel
theorem dX8_isRoof_0 : decode cX8_isRoof 0 = .ok (.iload_n 1, 1) := by decide +kernel
theorem dX8_isRoof_1 : decode cX8_isRoof 1 = .ok (.ifCond .lt 15, 3) := by decide +kernel
theorem dX8_isRoof_4 : decode cX8_isRoof 4 = .ok (.iload_n 1, 1) := by decide +kernel
theorem dX8_isRoof_5 : decode cX8_isRoof 5 = .ok (.aload_n 0, 1) := by decide +kernel
theorem dX8_isRoof_6 : decode cX8_isRoof 6 = .ok (.getfield 15, 3) := by decide +kernel
theorem dX8_isRoof_9 : decode cX8_isRoof 9 = .ok (.if_icmp .ge 7, 3) := by decide +kernel
theorem dX8_isRoof_16 : decode cX8_isRoof 16 = .ok (.iconst 0, 1) := by decide +kernel
theorem dX8_isRoof_17 : decode cX8_isRoof 17 = .ok (.ireturn, 1) := by decide +kernel
theorem dX8_livingOn_0 : decode cX8_livingOn 0 = .ok (.iconst 0, 1) := by decide +kernel
theorem dX8_livingOn_1 : decode cX8_livingOn 1 = .ok (.istore_n 2, 1) := by decide +kernel
theorem dX8_livingOn_2 : decode cX8_livingOn 2 = .ok (.iconst 0, 1) := by decide +kernel
theorem dX8_livingOn_3 : decode cX8_livingOn 3 = .ok (.istore_n 3, 1) := by decide +kernel
theorem dX8_livingOn_4 : decode cX8_livingOn 4 = .ok (.iload_n 3, 1) := by decide +kernel
theorem dX8_livingOn_5 : decode cX8_livingOn 5 = .ok (.aload_n 0, 1) := by decide +kernel
theorem dX8_livingOn_6 : decode cX8_livingOn 6 = .ok (.getfield 21, 3) := by decide +kernel
theorem dX8_livingOn_9 : decode cX8_livingOn 9 = .ok (.if_icmp .ge 22, 3) := by decide +kernel
theorem dX8_livingOn_31 : decode cX8_livingOn 31 = .ok (.iload_n 2, 1) := by decide +kernel
theorem dX8_livingOn_32 : decode cX8_livingOn 32 = .ok (.ireturn, 1) := by decide +kernel
theorem dX8_livingUnder_0 : decode cX8_livingUnder 0 = .ok (.iconst 0, 1) := by decide +kernel
theorem dX8_livingUnder_1 : decode cX8_livingUnder 1 = .ok (.istore_n 2, 1) := by decide +kernel
theorem dX8_livingUnder_2 : decode cX8_livingUnder 2 = .ok (.iconst 0, 1) := by decide +kernel
theorem dX8_livingUnder_3 : decode cX8_livingUnder 3 = .ok (.istore_n 3, 1) := by decide +kernel
theorem dX8_livingUnder_4 : decode cX8_livingUnder 4 = .ok (.iload_n 3, 1) := by decide +kernel
theorem dX8_livingUnder_5 : decode cX8_livingUnder 5 = .ok (.aload_n 0, 1) := by decide +kernel
theorem dX8_livingUnder_6 : decode cX8_livingUnder 6 = .ok (.getfield 15, 3) := by decide +kernel
theorem dX8_livingUnder_9 : decode cX8_livingUnder 9 = .ok (.if_icmp .ge 27, 3) := by decide +kernel
theorem dX8_livingUnder_36 : decode cX8_livingUnder 36 = .ok (.iload_n 2, 1) := by decide +kernel
theorem dX8_livingUnder_37 : decode cX8_livingUnder 37 = .ok (.ireturn, 1) := by decide +kernel
theorem dX8_movesOfAll_0 : decode cX8_movesOfAll 0 = .ok (.iconst 0, 1) := by decide +kernel
theorem dX8_movesOfAll_1 : decode cX8_movesOfAll 1 = .ok (.istore_n 1, 1) := by decide +kernel
theorem dX8_movesOfAll_2 : decode cX8_movesOfAll 2 = .ok (.iconst 0, 1) := by decide +kernel
theorem dX8_movesOfAll_3 : decode cX8_movesOfAll 3 = .ok (.istore_n 2, 1) := by decide +kernel
theorem dX8_movesOfAll_4 : decode cX8_movesOfAll 4 = .ok (.iload_n 2, 1) := by decide +kernel
theorem dX8_movesOfAll_5 : decode cX8_movesOfAll 5 = .ok (.aload_n 0, 1) := by decide +kernel
theorem dX8_movesOfAll_6 : decode cX8_movesOfAll 6 = .ok (.getfield 21, 3) := by decide +kernel
theorem dX8_movesOfAll_9 : decode cX8_movesOfAll 9 = .ok (.if_icmp .ge 18, 3) := by decide +kernel
theorem dX8_movesOfAll_27 : decode cX8_movesOfAll 27 = .ok (.iload_n 1, 1) := by decide +kernel
theorem dX8_movesOfAll_28 : decode cX8_movesOfAll 28 = .ok (.ireturn, 1) := by decide +kernel
theorem dX8_nestedBits_0 : decode cX8_nestedBits 0 = .ok (.iconst 0, 1) := by decide +kernel
theorem dX8_nestedBits_1 : decode cX8_nestedBits 1 = .ok (.istore_n 1, 1) := by decide +kernel
theorem dX8_nestedBits_2 : decode cX8_nestedBits 2 = .ok (.iconst 0, 1) := by decide +kernel
theorem dX8_nestedBits_3 : decode cX8_nestedBits 3 = .ok (.istore_n 2, 1) := by decide +kernel
theorem dX8_nestedBits_4 : decode cX8_nestedBits 4 = .ok (.iload_n 2, 1) := by decide +kernel
theorem dX8_nestedBits_5 : decode cX8_nestedBits 5 = .ok (.aload_n 0, 1) := by decide +kernel
theorem dX8_nestedBits_6 : decode cX8_nestedBits 6 = .ok (.getfield 18, 3) := by decide +kernel
theorem dX8_nestedBits_9 : decode cX8_nestedBits 9 = .ok (.if_icmp .ge 29, 3) := by decide +kernel
theorem dX8_nestedBits_38 : decode cX8_nestedBits 38 = .ok (.iload_n 1, 1) := by decide +kernel
theorem dX8_nestedBits_39 : decode cX8_nestedBits 39 = .ok (.ireturn, 1) := by decide +kernel
theorem dX8_nestedFamilies_0 : decode cX8_nestedFamilies 0 = .ok (.iconst 0, 1) := by decide +kernel
theorem dX8_nestedFamilies_1 : decode cX8_nestedFamilies 1 = .ok (.istore_n 1, 1) := by decide +kernel
theorem dX8_nestedFamilies_2 : decode cX8_nestedFamilies 2 = .ok (.iconst 0, 1) := by decide +kernel
theorem dX8_nestedFamilies_3 : decode cX8_nestedFamilies 3 = .ok (.istore_n 2, 1) := by decide +kernel
theorem dX8_nestedFamilies_4 : decode cX8_nestedFamilies 4 = .ok (.iload_n 2, 1) := by decide +kernel
theorem dX8_nestedFamilies_5 : decode cX8_nestedFamilies 5 = .ok (.aload_n 0, 1) := by decide +kernel
theorem dX8_nestedFamilies_6 : decode cX8_nestedFamilies 6 = .ok (.getfield 21, 3) := by decide +kernel
theorem dX8_nestedFamilies_9 : decode cX8_nestedFamilies 9 = .ok (.if_icmp .ge 27, 3) := by decide +kernel
theorem dX8_nestedFamilies_36 : decode cX8_nestedFamilies 36 = .ok (.iload_n 1, 1) := by decide +kernel
theorem dX8_nestedFamilies_37 : decode cX8_nestedFamilies 37 = .ok (.ireturn, 1) := by decide +kernel
theorem dX8_nestsUnder_0 : decode cX8_nestsUnder 0 = .ok (.iconst 0, 1) := by decide +kernel
theorem dX8_nestsUnder_1 : decode cX8_nestsUnder 1 = .ok (.istore_n 2, 1) := by decide +kernel
theorem dX8_nestsUnder_2 : decode cX8_nestsUnder 2 = .ok (.iconst 0, 1) := by decide +kernel
theorem dX8_nestsUnder_3 : decode cX8_nestsUnder 3 = .ok (.istore_n 3, 1) := by decide +kernel
theorem dX8_nestsUnder_4 : decode cX8_nestsUnder 4 = .ok (.iload_n 3, 1) := by decide +kernel
theorem dX8_nestsUnder_5 : decode cX8_nestsUnder 5 = .ok (.aload_n 0, 1) := by decide +kernel
theorem dX8_nestsUnder_6 : decode cX8_nestsUnder 6 = .ok (.getfield 15, 3) := by decide +kernel
theorem dX8_nestsUnder_9 : decode cX8_nestsUnder 9 = .ok (.if_icmp .ge 32, 3) := by decide +kernel
theorem dX8_nestsUnder_41 : decode cX8_nestsUnder 41 = .ok (.iload_n 2, 1) := by decide +kernel
theorem dX8_nestsUnder_42 : decode cX8_nestsUnder 42 = .ok (.ireturn, 1) := by decide +kernel
theorem dX8_nowhere_0 : decode cX8_nowhere 0 = .ok (.aload_n 0, 1) := by decide +kernel
theorem dX8_nowhere_1 : decode cX8_nowhere 1 = .ok (.iconst (-1), 1) := by decide +kernel
theorem dX8_nowhere_2 : decode cX8_nowhere 2 = .ok (.invokevirtual 105, 3) := by decide +kernel
theorem dX8_nowhere_5 : decode cX8_nowhere 5 = .ok (.ireturn, 1) := by decide +kernel
theorem dX8_owedByAll_0 : decode cX8_owedByAll 0 = .ok (.iconst 0, 1) := by decide +kernel
theorem dX8_owedByAll_1 : decode cX8_owedByAll 1 = .ok (.istore_n 2, 1) := by decide +kernel
theorem dX8_owedByAll_2 : decode cX8_owedByAll 2 = .ok (.iconst 0, 1) := by decide +kernel
theorem dX8_owedByAll_3 : decode cX8_owedByAll 3 = .ok (.istore_n 3, 1) := by decide +kernel
theorem dX8_owedByAll_4 : decode cX8_owedByAll 4 = .ok (.iload_n 3, 1) := by decide +kernel
theorem dX8_owedByAll_5 : decode cX8_owedByAll 5 = .ok (.aload_n 0, 1) := by decide +kernel
theorem dX8_owedByAll_6 : decode cX8_owedByAll 6 = .ok (.getfield 21, 3) := by decide +kernel
theorem dX8_owedByAll_9 : decode cX8_owedByAll 9 = .ok (.if_icmp .ge 18, 3) := by decide +kernel
theorem dX8_owedByAll_27 : decode cX8_owedByAll 27 = .ok (.iload_n 2, 1) := by decide +kernel
theorem dX8_owedByAll_28 : decode cX8_owedByAll 28 = .ok (.ireturn, 1) := by decide +kernel
theorem dX8_pack_0 : decode cX8_pack 0 = .ok (.aload_n 0, 1) := by decide +kernel
theorem dX8_pack_1 : decode cX8_pack 1 = .ok (.iload_n 1, 1) := by decide +kernel
theorem dX8_pack_2 : decode cX8_pack 2 = .ok (.aload_n 2, 1) := by decide +kernel
theorem dX8_pack_3 : decode cX8_pack 3 = .ok (.iload_n 3, 1) := by decide +kernel
theorem dX8_pack_4 : decode cX8_pack 4 = .ok (.iload 4, 2) := by decide +kernel
theorem dX8_pack_6 : decode cX8_pack 6 = .ok (.invokestatic 74, 3) := by decide +kernel
theorem dX8_pack_9 : decode cX8_pack 9 = .ok (.iload_n 3, 1) := by decide +kernel
theorem dX8_pack_10 : decode cX8_pack 10 = .ok (.iload 4, 2) := by decide +kernel
theorem dX8_pack_12 : decode cX8_pack 12 = .ok (.iadd, 1) := by decide +kernel
theorem dX8_pack_13 : decode cX8_pack 13 = .ok (.ireturn, 1) := by decide +kernel
theorem dX8_passDays_0 : decode cX8_passDays 0 = .ok (.iconst 0, 1) := by decide +kernel
theorem dX8_passDays_1 : decode cX8_passDays 1 = .ok (.istore_n 2, 1) := by decide +kernel
theorem dX8_passDays_2 : decode cX8_passDays 2 = .ok (.iload_n 2, 1) := by decide +kernel
theorem dX8_passDays_3 : decode cX8_passDays 3 = .ok (.iload_n 1, 1) := by decide +kernel
theorem dX8_passDays_4 : decode cX8_passDays 4 = .ok (.if_icmp .ge 155, 3) := by decide +kernel
theorem dX8_passDays_7 : decode cX8_passDays 7 = .ok (.aload_n 0, 1) := by decide +kernel
theorem dX8_passDays_8 : decode cX8_passDays 8 = .ok (.getfield 70, 3) := by decide +kernel
theorem dX8_passDays_11 : decode cX8_passDays 11 = .ok (.aload_n 0, 1) := by decide +kernel
theorem dX8_passDays_12 : decode cX8_passDays 12 = .ok (.invokevirtual 115, 3) := by decide +kernel
theorem dX8_passDays_15 : decode cX8_passDays 15 = .ok (.aload_n 0, 1) := by decide +kernel
theorem dX8_passDays_16 : decode cX8_passDays 16 = .ok (.getfield 34, 3) := by decide +kernel
theorem dX8_passDays_19 : decode cX8_passDays 19 = .ok (.iconst 0, 1) := by decide +kernel
theorem dX8_passDays_20 : decode cX8_passDays 20 = .ok (.aload_n 0, 1) := by decide +kernel
theorem dX8_passDays_21 : decode cX8_passDays 21 = .ok (.getfield 40, 3) := by decide +kernel
theorem dX8_passDays_24 : decode cX8_passDays 24 = .ok (.iconst 0, 1) := by decide +kernel
theorem dX8_passDays_25 : decode cX8_passDays 25 = .ok (.aload_n 0, 1) := by decide +kernel
theorem dX8_passDays_26 : decode cX8_passDays 26 = .ok (.getfield 18, 3) := by decide +kernel
theorem dX8_passDays_29 : decode cX8_passDays 29 = .ok (.invokestatic 74, 3) := by decide +kernel
theorem dX8_passDays_32 : decode cX8_passDays 32 = .ok (.aload_n 0, 1) := by decide +kernel
theorem dX8_passDays_33 : decode cX8_passDays 33 = .ok (.getfield 64, 3) := by decide +kernel
theorem dX8_passDays_36 : decode cX8_passDays 36 = .ok (.ifCond .le 27, 3) := by decide +kernel
theorem dX8_passDays_39 : decode cX8_passDays 39 = .ok (.aload_n 0, 1) := by decide +kernel
theorem dX8_passDays_40 : decode cX8_passDays 40 = .ok (.getfield 61, 3) := by decide +kernel
theorem dX8_passDays_43 : decode cX8_passDays 43 = .ok (.ifnull 20, 3) := by decide +kernel
theorem dX8_passDays_46 : decode cX8_passDays 46 = .ok (.aload_n 0, 1) := by decide +kernel
theorem dX8_passDays_47 : decode cX8_passDays 47 = .ok (.getfield 61, 3) := by decide +kernel
theorem dX8_passDays_50 : decode cX8_passDays 50 = .ok (.aload_n 0, 1) := by decide +kernel
theorem dX8_passDays_51 : decode cX8_passDays 51 = .ok (.getfield 9, 3) := by decide +kernel
theorem dX8_passDays_54 : decode cX8_passDays 54 = .ok (.aload_n 0, 1) := by decide +kernel
theorem dX8_passDays_55 : decode cX8_passDays 55 = .ok (.getfield 64, 3) := by decide +kernel
theorem dX8_passDays_58 : decode cX8_passDays 58 = .ok (.irem, 1) := by decide +kernel
theorem dX8_passDays_59 : decode cX8_passDays 59 = .ok (.iaload, 1) := by decide +kernel
theorem dX8_passDays_60 : decode cX8_passDays 60 = .ok (.goto 4, 3) := by decide +kernel
theorem dX8_passDays_63 : decode cX8_passDays 63 = .ok (.iconst 0, 1) := by decide +kernel
theorem dX8_passDays_64 : decode cX8_passDays 64 = .ok (.istore_n 3, 1) := by decide +kernel
theorem dX8_passDays_65 : decode cX8_passDays 65 = .ok (.aload_n 0, 1) := by decide +kernel
theorem dX8_passDays_66 : decode cX8_passDays 66 = .ok (.iload_n 3, 1) := by decide +kernel
theorem dX8_passDays_67 : decode cX8_passDays 67 = .ok (.invokevirtual 143, 3) := by decide +kernel
theorem dX8_passDays_70 : decode cX8_passDays 70 = .ok (.iconst 0, 1) := by decide +kernel
theorem dX8_passDays_71 : decode cX8_passDays 71 = .ok (.istore 4, 2) := by decide +kernel
theorem dX8_passDays_73 : decode cX8_passDays 73 = .ok (.iload 4, 2) := by decide +kernel
theorem dX8_passDays_75 : decode cX8_passDays 75 = .ok (.aload_n 0, 1) := by decide +kernel
theorem dX8_passDays_76 : decode cX8_passDays 76 = .ok (.getfield 18, 3) := by decide +kernel
theorem dX8_passDays_79 : decode cX8_passDays 79 = .ok (.if_icmp .ge 40, 3) := by decide +kernel
theorem dX8_passDays_119 : decode cX8_passDays 119 = .ok (.iconst 0, 1) := by decide +kernel
theorem dX8_passDays_120 : decode cX8_passDays 120 = .ok (.istore 4, 2) := by decide +kernel
theorem dX8_passDays_122 : decode cX8_passDays 122 = .ok (.iload 4, 2) := by decide +kernel
theorem dX8_passDays_124 : decode cX8_passDays 124 = .ok (.aload_n 0, 1) := by decide +kernel
theorem dX8_passDays_125 : decode cX8_passDays 125 = .ok (.getfield 21, 3) := by decide +kernel
theorem dX8_passDays_128 : decode cX8_passDays 128 = .ok (.if_icmp .ge 15, 3) := by decide +kernel
theorem dX8_passDays_143 : decode cX8_passDays 143 = .ok (.aload_n 0, 1) := by decide +kernel
theorem dX8_passDays_144 : decode cX8_passDays 144 = .ok (.dup, 1) := by decide +kernel
theorem dX8_passDays_145 : decode cX8_passDays 145 = .ok (.getfield 9, 3) := by decide +kernel
theorem dX8_passDays_148 : decode cX8_passDays 148 = .ok (.iconst 1, 1) := by decide +kernel
theorem dX8_passDays_149 : decode cX8_passDays 149 = .ok (.iadd, 1) := by decide +kernel
theorem dX8_passDays_150 : decode cX8_passDays 150 = .ok (.putfield 9, 3) := by decide +kernel
theorem dX8_passDays_153 : decode cX8_passDays 153 = .ok (.iinc 2 1, 3) := by decide +kernel
theorem dX8_passDays_156 : decode cX8_passDays 156 = .ok (.goto (-154), 3) := by decide +kernel
theorem dX8_passDays_159 : decode cX8_passDays 159 = .ok (.return_, 1) := by decide +kernel
theorem dX8_restlessBirds_0 : decode cX8_restlessBirds 0 = .ok (.aload_n 0, 1) := by decide +kernel
theorem dX8_restlessBirds_1 : decode cX8_restlessBirds 1 = .ok (.getfield 70, 3) := by decide +kernel
theorem dX8_restlessBirds_4 : decode cX8_restlessBirds 4 = .ok (.aload_n 0, 1) := by decide +kernel
theorem dX8_restlessBirds_5 : decode cX8_restlessBirds 5 = .ok (.invokevirtual 115, 3) := by decide +kernel
theorem dX8_restlessBirds_8 : decode cX8_restlessBirds 8 = .ok (.iconst 0, 1) := by decide +kernel
theorem dX8_restlessBirds_9 : decode cX8_restlessBirds 9 = .ok (.istore_n 1, 1) := by decide +kernel
theorem dX8_restlessBirds_10 : decode cX8_restlessBirds 10 = .ok (.iconst 0, 1) := by decide +kernel
theorem dX8_restlessBirds_11 : decode cX8_restlessBirds 11 = .ok (.istore_n 2, 1) := by decide +kernel
theorem dX8_restlessBirds_12 : decode cX8_restlessBirds 12 = .ok (.iload_n 2, 1) := by decide +kernel
theorem dX8_restlessBirds_13 : decode cX8_restlessBirds 13 = .ok (.aload_n 0, 1) := by decide +kernel
theorem dX8_restlessBirds_14 : decode cX8_restlessBirds 14 = .ok (.getfield 18, 3) := by decide +kernel
theorem dX8_restlessBirds_17 : decode cX8_restlessBirds 17 = .ok (.if_icmp .ge 28, 3) := by decide +kernel
theorem dX8_restlessBirds_45 : decode cX8_restlessBirds 45 = .ok (.iload_n 1, 1) := by decide +kernel
theorem dX8_restlessBirds_46 : decode cX8_restlessBirds 46 = .ok (.ireturn, 1) := by decide +kernel
theorem dX8_saveTo_0 : decode cX8_saveTo 0 = .ok (.aload_n 1, 1) := by decide +kernel
theorem dX8_saveTo_1 : decode cX8_saveTo 1 = .ok (.iconst 0, 1) := by decide +kernel
theorem dX8_saveTo_2 : decode cX8_saveTo 2 = .ok (.aload_n 0, 1) := by decide +kernel
theorem dX8_saveTo_3 : decode cX8_saveTo 3 = .ok (.getfield 9, 3) := by decide +kernel
theorem dX8_saveTo_6 : decode cX8_saveTo 6 = .ok (.iastore, 1) := by decide +kernel
theorem dX8_saveTo_7 : decode cX8_saveTo 7 = .ok (.iconst 1, 1) := by decide +kernel
theorem dX8_saveTo_8 : decode cX8_saveTo 8 = .ok (.istore_n 3, 1) := by decide +kernel
theorem dX8_saveTo_9 : decode cX8_saveTo 9 = .ok (.aload_n 0, 1) := by decide +kernel
theorem dX8_saveTo_10 : decode cX8_saveTo 10 = .ok (.getfield 34, 3) := by decide +kernel
theorem dX8_saveTo_13 : decode cX8_saveTo 13 = .ok (.iconst 0, 1) := by decide +kernel
theorem dX8_saveTo_14 : decode cX8_saveTo 14 = .ok (.aload_n 1, 1) := by decide +kernel
theorem dX8_saveTo_15 : decode cX8_saveTo 15 = .ok (.iload_n 3, 1) := by decide +kernel
theorem dX8_saveTo_16 : decode cX8_saveTo 16 = .ok (.bipush 6, 2) := by decide +kernel
theorem dX8_saveTo_18 : decode cX8_saveTo 18 = .ok (.invokestatic 163, 3) := by decide +kernel
theorem dX8_saveTo_21 : decode cX8_saveTo 21 = .ok (.istore_n 3, 1) := by decide +kernel
theorem dX8_saveTo_22 : decode cX8_saveTo 22 = .ok (.aload_n 0, 1) := by decide +kernel
theorem dX8_saveTo_23 : decode cX8_saveTo 23 = .ok (.getfield 49, 3) := by decide +kernel
theorem dX8_saveTo_26 : decode cX8_saveTo 26 = .ok (.iconst 0, 1) := by decide +kernel
theorem dX8_saveTo_27 : decode cX8_saveTo 27 = .ok (.aload_n 1, 1) := by decide +kernel
theorem dX8_saveTo_28 : decode cX8_saveTo 28 = .ok (.iload_n 3, 1) := by decide +kernel
theorem dX8_saveTo_29 : decode cX8_saveTo 29 = .ok (.bipush 8, 2) := by decide +kernel
theorem dX8_saveTo_31 : decode cX8_saveTo 31 = .ok (.invokestatic 163, 3) := by decide +kernel
theorem dX8_saveTo_34 : decode cX8_saveTo 34 = .ok (.istore_n 3, 1) := by decide +kernel
theorem dX8_saveTo_35 : decode cX8_saveTo 35 = .ok (.aload_n 0, 1) := by decide +kernel
theorem dX8_saveTo_36 : decode cX8_saveTo 36 = .ok (.getfield 52, 3) := by decide +kernel
theorem dX8_saveTo_39 : decode cX8_saveTo 39 = .ok (.iconst 0, 1) := by decide +kernel
theorem dX8_saveTo_40 : decode cX8_saveTo 40 = .ok (.aload_n 1, 1) := by decide +kernel
theorem dX8_saveTo_41 : decode cX8_saveTo 41 = .ok (.iload_n 3, 1) := by decide +kernel
theorem dX8_saveTo_42 : decode cX8_saveTo 42 = .ok (.bipush 8, 2) := by decide +kernel
theorem dX8_saveTo_44 : decode cX8_saveTo 44 = .ok (.invokestatic 163, 3) := by decide +kernel
theorem dX8_saveTo_47 : decode cX8_saveTo 47 = .ok (.istore_n 3, 1) := by decide +kernel
theorem dX8_saveTo_48 : decode cX8_saveTo 48 = .ok (.aload_n 0, 1) := by decide +kernel
theorem dX8_saveTo_49 : decode cX8_saveTo 49 = .ok (.getfield 55, 3) := by decide +kernel
theorem dX8_saveTo_52 : decode cX8_saveTo 52 = .ok (.iconst 0, 1) := by decide +kernel
theorem dX8_saveTo_53 : decode cX8_saveTo 53 = .ok (.aload_n 1, 1) := by decide +kernel
theorem dX8_saveTo_54 : decode cX8_saveTo 54 = .ok (.iload_n 3, 1) := by decide +kernel
theorem dX8_saveTo_55 : decode cX8_saveTo 55 = .ok (.bipush 32, 2) := by decide +kernel
theorem dX8_saveTo_57 : decode cX8_saveTo 57 = .ok (.invokestatic 163, 3) := by decide +kernel
theorem dX8_saveTo_60 : decode cX8_saveTo 60 = .ok (.istore_n 3, 1) := by decide +kernel
theorem dX8_saveTo_61 : decode cX8_saveTo 61 = .ok (.aload_n 0, 1) := by decide +kernel
theorem dX8_saveTo_62 : decode cX8_saveTo 62 = .ok (.getfield 24, 3) := by decide +kernel
theorem dX8_saveTo_65 : decode cX8_saveTo 65 = .ok (.bipush 18, 2) := by decide +kernel
theorem dX8_saveTo_67 : decode cX8_saveTo 67 = .ok (.aload_n 1, 1) := by decide +kernel
theorem dX8_saveTo_68 : decode cX8_saveTo 68 = .ok (.iload_n 3, 1) := by decide +kernel
theorem dX8_saveTo_69 : decode cX8_saveTo 69 = .ok (.bipush 6, 2) := by decide +kernel
theorem dX8_saveTo_71 : decode cX8_saveTo 71 = .ok (.invokestatic 163, 3) := by decide +kernel
theorem dX8_saveTo_74 : decode cX8_saveTo 74 = .ok (.istore_n 3, 1) := by decide +kernel
theorem dX8_saveTo_75 : decode cX8_saveTo 75 = .ok (.aload_n 0, 1) := by decide +kernel
theorem dX8_saveTo_76 : decode cX8_saveTo 76 = .ok (.getfield 24, 3) := by decide +kernel
theorem dX8_saveTo_79 : decode cX8_saveTo 79 = .ok (.bipush 6, 2) := by decide +kernel
theorem dX8_saveTo_81 : decode cX8_saveTo 81 = .ok (.aload_n 1, 1) := by decide +kernel
theorem dX8_saveTo_82 : decode cX8_saveTo 82 = .ok (.iload_n 3, 1) := by decide +kernel
theorem dX8_saveTo_83 : decode cX8_saveTo 83 = .ok (.bipush 6, 2) := by decide +kernel
theorem dX8_saveTo_85 : decode cX8_saveTo 85 = .ok (.invokestatic 163, 3) := by decide +kernel
theorem dX8_saveTo_88 : decode cX8_saveTo 88 = .ok (.istore_n 3, 1) := by decide +kernel
theorem dX8_saveTo_89 : decode cX8_saveTo 89 = .ok (.aload_n 0, 1) := by decide +kernel
theorem dX8_saveTo_90 : decode cX8_saveTo 90 = .ok (.getfield 43, 3) := by decide +kernel
theorem dX8_saveTo_93 : decode cX8_saveTo 93 = .ok (.iconst 0, 1) := by decide +kernel
theorem dX8_saveTo_94 : decode cX8_saveTo 94 = .ok (.aload_n 1, 1) := by decide +kernel
theorem dX8_saveTo_95 : decode cX8_saveTo 95 = .ok (.iload_n 3, 1) := by decide +kernel
theorem dX8_saveTo_96 : decode cX8_saveTo 96 = .ok (.bipush 8, 2) := by decide +kernel
theorem dX8_saveTo_98 : decode cX8_saveTo 98 = .ok (.invokestatic 163, 3) := by decide +kernel
theorem dX8_saveTo_101 : decode cX8_saveTo 101 = .ok (.istore_n 3, 1) := by decide +kernel
theorem dX8_saveTo_102 : decode cX8_saveTo 102 = .ok (.aload_n 1, 1) := by decide +kernel
theorem dX8_saveTo_103 : decode cX8_saveTo 103 = .ok (.iload_n 3, 1) := by decide +kernel
theorem dX8_saveTo_104 : decode cX8_saveTo 104 = .ok (.iload_n 2, 1) := by decide +kernel
theorem dX8_saveTo_105 : decode cX8_saveTo 105 = .ok (.ifCond .eq 7, 3) := by decide +kernel
theorem dX8_saveTo_108 : decode cX8_saveTo 108 = .ok (.iconst 1, 1) := by decide +kernel
theorem dX8_saveTo_109 : decode cX8_saveTo 109 = .ok (.goto 4, 3) := by decide +kernel
theorem dX8_saveTo_112 : decode cX8_saveTo 112 = .ok (.iconst 0, 1) := by decide +kernel
theorem dX8_saveTo_113 : decode cX8_saveTo 113 = .ok (.iastore, 1) := by decide +kernel
theorem dX8_saveTo_114 : decode cX8_saveTo 114 = .ok (.return_, 1) := by decide +kernel
theorem dX8_sizeMark_0 : decode cX8_sizeMark 0 = .ok (.iconst 1, 1) := by decide +kernel
theorem dX8_sizeMark_1 : decode cX8_sizeMark 1 = .ok (.aload_n 0, 1) := by decide +kernel
theorem dX8_sizeMark_2 : decode cX8_sizeMark 2 = .ok (.getfield 15, 3) := by decide +kernel
theorem dX8_sizeMark_5 : decode cX8_sizeMark 5 = .ok (.iadd, 1) := by decide +kernel
theorem dX8_sizeMark_6 : decode cX8_sizeMark 6 = .ok (.bipush 10, 2) := by decide +kernel
theorem dX8_sizeMark_8 : decode cX8_sizeMark 8 = .ok (.aload_n 0, 1) := by decide +kernel
theorem dX8_sizeMark_9 : decode cX8_sizeMark 9 = .ok (.getfield 18, 3) := by decide +kernel
theorem dX8_sizeMark_12 : decode cX8_sizeMark 12 = .ok (.imul, 1) := by decide +kernel
theorem dX8_sizeMark_13 : decode cX8_sizeMark 13 = .ok (.iadd, 1) := by decide +kernel
theorem dX8_sizeMark_14 : decode cX8_sizeMark 14 = .ok (.bipush 100, 2) := by decide +kernel
theorem dX8_sizeMark_16 : decode cX8_sizeMark 16 = .ok (.aload_n 0, 1) := by decide +kernel
theorem dX8_sizeMark_17 : decode cX8_sizeMark 17 = .ok (.getfield 21, 3) := by decide +kernel
theorem dX8_sizeMark_20 : decode cX8_sizeMark 20 = .ok (.imul, 1) := by decide +kernel
theorem dX8_sizeMark_21 : decode cX8_sizeMark 21 = .ok (.iadd, 1) := by decide +kernel
theorem dX8_sizeMark_22 : decode cX8_sizeMark 22 = .ok (.ireturn, 1) := by decide +kernel
theorem dX8_startDues_0 : decode cX8_startDues 0 = .ok (.aload_n 0, 1) := by decide +kernel
theorem dX8_startDues_1 : decode cX8_startDues 1 = .ok (.getfield 58, 3) := by decide +kernel
theorem dX8_startDues_4 : decode cX8_startDues 4 = .ok (.iconst 0, 1) := by decide +kernel
theorem dX8_startDues_5 : decode cX8_startDues 5 = .ok (.invokestatic 157, 3) := by decide +kernel
theorem dX8_startDues_8 : decode cX8_startDues 8 = .ok (.return_, 1) := by decide +kernel
theorem dX8_turnToNextNests_0 : decode cX8_turnToNextNests 0 = .ok (.aload_n 0, 1) := by decide +kernel
theorem dX8_turnToNextNests_1 : decode cX8_turnToNextNests 1 = .ok (.getfield 18, 3) := by decide +kernel
theorem dX8_turnToNextNests_4 : decode cX8_turnToNextNests 4 = .ok (.iconst 1, 1) := by decide +kernel
theorem dX8_turnToNextNests_5 : decode cX8_turnToNextNests 5 = .ok (.isub, 1) := by decide +kernel
theorem dX8_turnToNextNests_6 : decode cX8_turnToNextNests 6 = .ok (.istore_n 1, 1) := by decide +kernel
theorem dX8_turnToNextNests_7 : decode cX8_turnToNextNests 7 = .ok (.iload_n 1, 1) := by decide +kernel
theorem dX8_turnToNextNests_8 : decode cX8_turnToNextNests 8 = .ok (.ifCond .lt 57, 3) := by decide +kernel
theorem dX8_turnToNextNests_65 : decode cX8_turnToNextNests 65 = .ok (.iconst 0, 1) := by decide +kernel
theorem dX8_turnToNextNests_66 : decode cX8_turnToNextNests 66 = .ok (.ireturn, 1) := by decide +kernel
theorem dX8_wheelBits_0 : decode cX8_wheelBits 0 = .ok (.iconst 0, 1) := by decide +kernel
theorem dX8_wheelBits_1 : decode cX8_wheelBits 1 = .ok (.istore_n 1, 1) := by decide +kernel
theorem dX8_wheelBits_2 : decode cX8_wheelBits 2 = .ok (.iconst 0, 1) := by decide +kernel
theorem dX8_wheelBits_3 : decode cX8_wheelBits 3 = .ok (.istore_n 2, 1) := by decide +kernel
theorem dX8_wheelBits_4 : decode cX8_wheelBits 4 = .ok (.iload_n 2, 1) := by decide +kernel
theorem dX8_wheelBits_5 : decode cX8_wheelBits 5 = .ok (.aload_n 0, 1) := by decide +kernel
theorem dX8_wheelBits_6 : decode cX8_wheelBits 6 = .ok (.getfield 15, 3) := by decide +kernel
theorem dX8_wheelBits_9 : decode cX8_wheelBits 9 = .ok (.if_icmp .ge 20, 3) := by decide +kernel
theorem dX8_wheelBits_29 : decode cX8_wheelBits 29 = .ok (.iload_n 1, 1) := by decide +kernel
theorem dX8_wheelBits_30 : decode cX8_wheelBits 30 = .ok (.ireturn, 1) := by decide +kernel
theorem dX9_read_0 : decode cX9_read 0 = .ok (.aload_n 0, 1) := by decide +kernel
theorem dX9_read_1 : decode cX9_read 1 = .ok (.iconst 0, 1) := by decide +kernel
theorem dX9_read_2 : decode cX9_read 2 = .ok (.putfield 22, 3) := by decide +kernel
theorem dX9_read_5 : decode cX9_read 5 = .ok (.aload_n 1, 1) := by decide +kernel
theorem dX9_read_6 : decode cX9_read 6 = .ok (.bipush 60, 2) := by decide +kernel
theorem dX9_read_8 : decode cX9_read 8 = .ok (.invokevirtual 26, 3) := by decide +kernel
theorem dX9_read_11 : decode cX9_read 11 = .ok (.aload_n 1, 1) := by decide +kernel
theorem dX9_read_12 : decode cX9_read 12 = .ok (.getfield 32, 3) := by decide +kernel
theorem dX9_read_15 : decode cX9_read 15 = .ok (.ifCond .ne 5, 3) := by decide +kernel
theorem dX9_read_18 : decode cX9_read 18 = .ok (.iconst (-1), 1) := by decide +kernel
theorem dX9_read_19 : decode cX9_read 19 = .ok (.ireturn, 1) := by decide +kernel
