theorem dX0_init_0 : decode cX0_init 0 = .ok (.aload_n 0, 1) := by decide +kernel
theorem dX0_init_1 : decode cX0_init 1 = .ok (.invokespecial 3, 3) := by decide +kernel
theorem dX0_init_4 : decode cX0_init 4 = .ok (.aload_n 0, 1) := by decide +kernel
theorem dX0_init_5 : decode cX0_init 5 = .ok (.sipush 928, 3) := by decide +kernel
theorem dX0_init_8 : decode cX0_init 8 = .ok (.newarray .long, 2) := by decide +kernel
theorem dX0_init_10 : decode cX0_init 10 = .ok (.putfield 9, 3) := by decide +kernel
theorem dX0_init_13 : decode cX0_init 13 = .ok (.aload_n 0, 1) := by decide +kernel
theorem dX0_init_14 : decode cX0_init 14 = .ok (.sipush 160, 3) := by decide +kernel
theorem dX0_init_17 : decode cX0_init 17 = .ok (.newarray .int, 2) := by decide +kernel
theorem dX0_init_19 : decode cX0_init 19 = .ok (.putfield 15, 3) := by decide +kernel
theorem dX0_init_22 : decode cX0_init 22 = .ok (.iconst 0, 1) := by decide +kernel
theorem dX0_init_23 : decode cX0_init 23 = .ok (.istore_n 1, 1) := by decide +kernel
theorem dX0_init_24 : decode cX0_init 24 = .ok (.iload_n 1, 1) := by decide +kernel
theorem dX0_init_25 : decode cX0_init 25 = .ok (.bipush 32, 2) := by decide +kernel
theorem dX0_init_27 : decode cX0_init 27 = .ok (.if_icmp .ge 22, 3) := by decide +kernel
theorem dX0_init_30 : decode cX0_init 30 = .ok (.aload_n 0, 1) := by decide +kernel
theorem dX0_init_31 : decode cX0_init 31 = .ok (.getfield 9, 3) := by decide +kernel
theorem dX0_init_34 : decode cX0_init 34 = .ok (.iconst 4, 1) := by decide +kernel
theorem dX0_init_35 : decode cX0_init 35 = .ok (.iload_n 1, 1) := by decide +kernel
theorem dX0_init_36 : decode cX0_init 36 = .ok (.invokestatic 19, 3) := by decide +kernel
theorem dX0_init_39 : decode cX0_init 39 = .ok (.ldc2_w 23, 3) := by decide +kernel
theorem dX0_init_42 : decode cX0_init 42 = .ok (.lastore, 1) := by decide +kernel
theorem dX0_init_43 : decode cX0_init 43 = .ok (.iinc 1 1, 3) := by decide +kernel
theorem dX0_init_46 : decode cX0_init 46 = .ok (.goto (-22), 3) := by decide +kernel
theorem dX0_init_49 : decode cX0_init 49 = .ok (.return_, 1) := by decide +kernel
theorem dX0_home_0 : decode cX0_home 0 = .ok (.getstatic 25, 3) := by decide +kernel
theorem dX0_home_3 : decode cX0_home 3 = .ok (.iload_n 0, 1) := by decide +kernel
theorem dX0_home_4 : decode cX0_home 4 = .ok (.iaload, 1) := by decide +kernel
theorem dX0_home_5 : decode cX0_home 5 = .ok (.iload_n 1, 1) := by decide +kernel
theorem dX0_home_6 : decode cX0_home 6 = .ok (.getstatic 28, 3) := by decide +kernel
theorem dX0_home_9 : decode cX0_home 9 = .ok (.iload_n 0, 1) := by decide +kernel
theorem dX0_home_10 : decode cX0_home 10 = .ok (.iaload, 1) := by decide +kernel
theorem dX0_home_11 : decode cX0_home 11 = .ok (.imul, 1) := by decide +kernel
theorem dX0_home_12 : decode cX0_home 12 = .ok (.iadd, 1) := by decide +kernel
theorem dX0_home_13 : decode cX0_home 13 = .ok (.ireturn, 1) := by decide +kernel
theorem dX0_place_0 : decode cX0_place 0 = .ok (.iload_n 0, 1) := by decide +kernel
theorem dX0_place_1 : decode cX0_place 1 = .ok (.bipush 32, 2) := by decide +kernel
theorem dX0_place_3 : decode cX0_place 3 = .ok (.imul, 1) := by decide +kernel
theorem dX0_place_4 : decode cX0_place 4 = .ok (.iload_n 1, 1) := by decide +kernel
theorem dX0_place_5 : decode cX0_place 5 = .ok (.iadd, 1) := by decide +kernel
theorem dX0_place_6 : decode cX0_place 6 = .ok (.ireturn, 1) := by decide +kernel
theorem dX0_copyTo_0 : decode cX0_copyTo 0 = .ok (.aload_n 0, 1) := by decide +kernel
theorem dX0_copyTo_1 : decode cX0_copyTo 1 = .ok (.getfield 9, 3) := by decide +kernel
theorem dX0_copyTo_4 : decode cX0_copyTo 4 = .ok (.iload_n 2, 1) := by decide +kernel
theorem dX0_copyTo_5 : decode cX0_copyTo 5 = .ok (.iload_n 3, 1) := by decide +kernel
theorem dX0_copyTo_6 : decode cX0_copyTo 6 = .ok (.invokestatic 19, 3) := by decide +kernel
theorem dX0_copyTo_9 : decode cX0_copyTo 9 = .ok (.aload_n 1, 1) := by decide +kernel
theorem dX0_copyTo_10 : decode cX0_copyTo 10 = .ok (.iconst 0, 1) := by decide +kernel
theorem dX0_copyTo_11 : decode cX0_copyTo 11 = .ok (.getstatic 28, 3) := by decide +kernel
theorem dX0_copyTo_14 : decode cX0_copyTo 14 = .ok (.iload_n 2, 1) := by decide +kernel
theorem dX0_copyTo_15 : decode cX0_copyTo 15 = .ok (.iaload, 1) := by decide +kernel
theorem dX0_copyTo_16 : decode cX0_copyTo 16 = .ok (.invokestatic 31, 3) := by decide +kernel
theorem dX0_copyTo_19 : decode cX0_copyTo 19 = .ok (.return_, 1) := by decide +kernel
theorem dX0_copyFrom_0 : decode cX0_copyFrom 0 = .ok (.aload_n 1, 1) := by decide +kernel
theorem dX0_copyFrom_1 : decode cX0_copyFrom 1 = .ok (.iload_n 2, 1) := by decide +kernel
theorem dX0_copyFrom_2 : decode cX0_copyFrom 2 = .ok (.aload_n 0, 1) := by decide +kernel
theorem dX0_copyFrom_3 : decode cX0_copyFrom 3 = .ok (.getfield 9, 3) := by decide +kernel
theorem dX0_copyFrom_6 : decode cX0_copyFrom 6 = .ok (.iload_n 3, 1) := by decide +kernel
theorem dX0_copyFrom_7 : decode cX0_copyFrom 7 = .ok (.iload 4, 2) := by decide +kernel
theorem dX0_copyFrom_9 : decode cX0_copyFrom 9 = .ok (.invokestatic 19, 3) := by decide +kernel
theorem dX0_copyFrom_12 : decode cX0_copyFrom 12 = .ok (.getstatic 28, 3) := by decide +kernel
theorem dX0_copyFrom_15 : decode cX0_copyFrom 15 = .ok (.iload_n 3, 1) := by decide +kernel
theorem dX0_copyFrom_16 : decode cX0_copyFrom 16 = .ok (.iaload, 1) := by decide +kernel
theorem dX0_copyFrom_17 : decode cX0_copyFrom 17 = .ok (.invokestatic 31, 3) := by decide +kernel
theorem dX0_copyFrom_20 : decode cX0_copyFrom 20 = .ok (.return_, 1) := by decide +kernel
theorem dX1_init_0 : decode cX1_init 0 = .ok (.aload_n 0, 1) := by decide +kernel
theorem dX1_init_1 : decode cX1_init 1 = .ok (.invokespecial 3, 3) := by decide +kernel
theorem dX1_init_4 : decode cX1_init 4 = .ok (.aload_n 0, 1) := by decide +kernel
theorem dX1_init_5 : decode cX1_init 5 = .ok (.sipush 200, 3) := by decide +kernel
theorem dX1_init_8 : decode cX1_init 8 = .ok (.newarray .int, 2) := by decide +kernel
theorem dX1_init_10 : decode cX1_init 10 = .ok (.putfield 9, 3) := by decide +kernel
theorem dX1_init_13 : decode cX1_init 13 = .ok (.aload_n 0, 1) := by decide +kernel
theorem dX1_init_14 : decode cX1_init 14 = .ok (.sipush 200, 3) := by decide +kernel
theorem dX1_init_17 : decode cX1_init 17 = .ok (.newarray .int, 2) := by decide +kernel
theorem dX1_init_19 : decode cX1_init 19 = .ok (.putfield 15, 3) := by decide +kernel
theorem dX1_init_22 : decode cX1_init 22 = .ok (.aload_n 0, 1) := by decide +kernel
theorem dX1_init_23 : decode cX1_init 23 = .ok (.sipush 200, 3) := by decide +kernel
theorem dX1_init_26 : decode cX1_init 26 = .ok (.newarray .int, 2) := by decide +kernel
theorem dX1_init_28 : decode cX1_init 28 = .ok (.putfield 18, 3) := by decide +kernel
theorem dX1_init_31 : decode cX1_init 31 = .ok (.aload_n 0, 1) := by decide +kernel
theorem dX1_init_32 : decode cX1_init 32 = .ok (.bipush 60, 2) := by decide +kernel
theorem dX1_init_34 : decode cX1_init 34 = .ok (.newarray .int, 2) := by decide +kernel
theorem dX1_init_36 : decode cX1_init 36 = .ok (.putfield 21, 3) := by decide +kernel
theorem dX1_init_39 : decode cX1_init 39 = .ok (.return_, 1) := by decide +kernel
theorem dX1_clear_0 : decode cX1_clear 0 = .ok (.aload_n 0, 1) := by decide +kernel
theorem dX1_clear_1 : decode cX1_clear 1 = .ok (.iconst 0, 1) := by decide +kernel
theorem dX1_clear_2 : decode cX1_clear 2 = .ok (.putfield 24, 3) := by decide +kernel
theorem dX1_clear_5 : decode cX1_clear 5 = .ok (.aload_n 0, 1) := by decide +kernel
theorem dX1_clear_6 : decode cX1_clear 6 = .ok (.iconst 0, 1) := by decide +kernel
theorem dX1_clear_7 : decode cX1_clear 7 = .ok (.putfield 28, 3) := by decide +kernel
theorem dX1_clear_10 : decode cX1_clear 10 = .ok (.aload_n 0, 1) := by decide +kernel
theorem dX1_clear_11 : decode cX1_clear 11 = .ok (.iconst 0, 1) := by decide +kernel
theorem dX1_clear_12 : decode cX1_clear 12 = .ok (.putfield 31, 3) := by decide +kernel
theorem dX1_clear_15 : decode cX1_clear 15 = .ok (.return_, 1) := by decide +kernel
theorem dX1_append_0 : decode cX1_append 0 = .ok (.aload_n 0, 1) := by decide +kernel
theorem dX1_append_1 : decode cX1_append 1 = .ok (.getfield 24, 3) := by decide +kernel
theorem dX1_append_4 : decode cX1_append 4 = .ok (.ifCond .lt 79, 3) := by decide +kernel
theorem dX1_append_7 : decode cX1_append 7 = .ok (.aload_n 0, 1) := by decide +kernel
theorem dX1_append_8 : decode cX1_append 8 = .ok (.getfield 24, 3) := by decide +kernel
theorem dX1_append_11 : decode cX1_append 11 = .ok (.sipush 200, 3) := by decide +kernel
theorem dX1_append_14 : decode cX1_append 14 = .ok (.if_icmp .ge 69, 3) := by decide +kernel
theorem dX1_append_17 : decode cX1_append 17 = .ok (.aload_n 0, 1) := by decide +kernel
theorem dX1_append_18 : decode cX1_append 18 = .ok (.getfield 9, 3) := by decide +kernel
theorem dX1_append_21 : decode cX1_append 21 = .ok (.aload_n 0, 1) := by decide +kernel
theorem dX1_append_22 : decode cX1_append 22 = .ok (.getfield 24, 3) := by decide +kernel
theorem dX1_append_25 : decode cX1_append 25 = .ok (.iload_n 1, 1) := by decide +kernel
theorem dX1_append_26 : decode cX1_append 26 = .ok (.iastore, 1) := by decide +kernel
theorem dX1_append_27 : decode cX1_append 27 = .ok (.aload_n 0, 1) := by decide +kernel
theorem dX1_append_28 : decode cX1_append 28 = .ok (.getfield 15, 3) := by decide +kernel
theorem dX1_append_31 : decode cX1_append 31 = .ok (.aload_n 0, 1) := by decide +kernel
theorem dX1_append_32 : decode cX1_append 32 = .ok (.getfield 24, 3) := by decide +kernel
theorem dX1_append_35 : decode cX1_append 35 = .ok (.iload_n 2, 1) := by decide +kernel
theorem dX1_append_36 : decode cX1_append 36 = .ok (.iastore, 1) := by decide +kernel
theorem dX1_append_37 : decode cX1_append 37 = .ok (.aload_n 0, 1) := by decide +kernel
theorem dX1_append_38 : decode cX1_append 38 = .ok (.getfield 18, 3) := by decide +kernel
theorem dX1_append_41 : decode cX1_append 41 = .ok (.aload_n 0, 1) := by decide +kernel
theorem dX1_append_42 : decode cX1_append 42 = .ok (.getfield 24, 3) := by decide +kernel
theorem dX1_append_45 : decode cX1_append 45 = .ok (.iload_n 3, 1) := by decide +kernel
theorem dX1_append_46 : decode cX1_append 46 = .ok (.ifCond .eq 7, 3) := by decide +kernel
theorem dX1_append_49 : decode cX1_append 49 = .ok (.iconst 1, 1) := by decide +kernel
theorem dX1_append_50 : decode cX1_append 50 = .ok (.goto 4, 3) := by decide +kernel
theorem dX1_append_53 : decode cX1_append 53 = .ok (.iconst 0, 1) := by decide +kernel
theorem dX1_append_54 : decode cX1_append 54 = .ok (.iastore, 1) := by decide +kernel
theorem dX1_append_55 : decode cX1_append 55 = .ok (.aload_n 0, 1) := by decide +kernel
theorem dX1_append_56 : decode cX1_append 56 = .ok (.dup, 1) := by decide +kernel
theorem dX1_append_57 : decode cX1_append 57 = .ok (.getfield 28, 3) := by decide +kernel
theorem dX1_append_60 : decode cX1_append 60 = .ok (.aload_n 0, 1) := by decide +kernel
theorem dX1_append_61 : decode cX1_append 61 = .ok (.getfield 18, 3) := by decide +kernel
theorem dX1_append_64 : decode cX1_append 64 = .ok (.aload_n 0, 1) := by decide +kernel
theorem dX1_append_65 : decode cX1_append 65 = .ok (.getfield 24, 3) := by decide +kernel
theorem dX1_append_68 : decode cX1_append 68 = .ok (.iaload, 1) := by decide +kernel
theorem dX1_append_69 : decode cX1_append 69 = .ok (.iadd, 1) := by decide +kernel
theorem dX1_append_70 : decode cX1_append 70 = .ok (.putfield 28, 3) := by decide +kernel
theorem dX1_append_73 : decode cX1_append 73 = .ok (.aload_n 0, 1) := by decide +kernel
theorem dX1_append_74 : decode cX1_append 74 = .ok (.dup, 1) := by decide +kernel
theorem dX1_append_75 : decode cX1_append 75 = .ok (.getfield 24, 3) := by decide +kernel
theorem dX1_append_78 : decode cX1_append 78 = .ok (.iconst 1, 1) := by decide +kernel
theorem dX1_append_79 : decode cX1_append 79 = .ok (.iadd, 1) := by decide +kernel
theorem dX1_append_80 : decode cX1_append 80 = .ok (.putfield 24, 3) := by decide +kernel
theorem dX1_append_83 : decode cX1_append 83 = .ok (.return_, 1) := by decide +kernel
theorem dX1_appendToken_0 : decode cX1_appendToken 0 = .ok (.aload_n 0, 1) := by decide +kernel
theorem dX1_appendToken_1 : decode cX1_appendToken 1 = .ok (.getfield 31, 3) := by decide +kernel
theorem dX1_appendToken_4 : decode cX1_appendToken 4 = .ok (.ifCond .lt 32, 3) := by decide +kernel
theorem dX1_appendToken_7 : decode cX1_appendToken 7 = .ok (.aload_n 0, 1) := by decide +kernel
theorem dX1_appendToken_8 : decode cX1_appendToken 8 = .ok (.getfield 31, 3) := by decide +kernel
theorem dX1_appendToken_11 : decode cX1_appendToken 11 = .ok (.bipush 60, 2) := by decide +kernel
theorem dX1_appendToken_13 : decode cX1_appendToken 13 = .ok (.if_icmp .ge 23, 3) := by decide +kernel
theorem dX1_appendToken_16 : decode cX1_appendToken 16 = .ok (.aload_n 0, 1) := by decide +kernel
theorem dX1_appendToken_17 : decode cX1_appendToken 17 = .ok (.getfield 21, 3) := by decide +kernel
theorem dX1_appendToken_20 : decode cX1_appendToken 20 = .ok (.aload_n 0, 1) := by decide +kernel
theorem dX1_appendToken_21 : decode cX1_appendToken 21 = .ok (.getfield 31, 3) := by decide +kernel
theorem dX1_appendToken_24 : decode cX1_appendToken 24 = .ok (.iload_n 1, 1) := by decide +kernel
theorem dX1_appendToken_25 : decode cX1_appendToken 25 = .ok (.iastore, 1) := by decide +kernel
theorem dX1_appendToken_26 : decode cX1_appendToken 26 = .ok (.aload_n 0, 1) := by decide +kernel
theorem dX1_appendToken_27 : decode cX1_appendToken 27 = .ok (.dup, 1) := by decide +kernel
theorem dX1_appendToken_28 : decode cX1_appendToken 28 = .ok (.getfield 31, 3) := by decide +kernel
theorem dX1_appendToken_31 : decode cX1_appendToken 31 = .ok (.iconst 1, 1) := by decide +kernel
theorem dX1_appendToken_32 : decode cX1_appendToken 32 = .ok (.iadd, 1) := by decide +kernel
theorem dX1_appendToken_33 : decode cX1_appendToken 33 = .ok (.putfield 31, 3) := by decide +kernel
theorem dX1_appendToken_36 : decode cX1_appendToken 36 = .ok (.return_, 1) := by decide +kernel
theorem dX1_copyTokens_0 : decode cX1_copyTokens 0 = .ok (.aload_n 1, 1) := by decide +kernel
theorem dX1_copyTokens_1 : decode cX1_copyTokens 1 = .ok (.invokevirtual 34, 3) := by decide +kernel
theorem dX1_copyTokens_4 : decode cX1_copyTokens 4 = .ok (.istore_n 2, 1) := by decide +kernel
theorem dX1_copyTokens_5 : decode cX1_copyTokens 5 = .ok (.iload_n 2, 1) := by decide +kernel
theorem dX1_copyTokens_6 : decode cX1_copyTokens 6 = .ok (.ifCond .lt 33, 3) := by decide +kernel
theorem dX1_copyTokens_9 : decode cX1_copyTokens 9 = .ok (.iload_n 2, 1) := by decide +kernel
theorem dX1_copyTokens_10 : decode cX1_copyTokens 10 = .ok (.aload_n 1, 1) := by decide +kernel
theorem dX1_copyTokens_11 : decode cX1_copyTokens 11 = .ok (.getfield 40, 3) := by decide +kernel
theorem dX1_copyTokens_14 : decode cX1_copyTokens 14 = .ok (.if_icmp .ge 25, 3) := by decide +kernel
theorem dX1_copyTokens_17 : decode cX1_copyTokens 17 = .ok (.iload_n 2, 1) := by decide +kernel
theorem dX1_copyTokens_18 : decode cX1_copyTokens 18 = .ok (.bipush 60, 2) := by decide +kernel
theorem dX1_copyTokens_20 : decode cX1_copyTokens 20 = .ok (.if_icmp .ge 19, 3) := by decide +kernel
theorem dX1_copyTokens_23 : decode cX1_copyTokens 23 = .ok (.aload_n 0, 1) := by decide +kernel
theorem dX1_copyTokens_24 : decode cX1_copyTokens 24 = .ok (.aload_n 1, 1) := by decide +kernel
theorem dX1_copyTokens_25 : decode cX1_copyTokens 25 = .ok (.getfield 41, 3) := by decide +kernel
theorem dX1_copyTokens_28 : decode cX1_copyTokens 28 = .ok (.iload_n 2, 1) := by decide +kernel
theorem dX1_copyTokens_29 : decode cX1_copyTokens 29 = .ok (.iaload, 1) := by decide +kernel
theorem dX1_copyTokens_30 : decode cX1_copyTokens 30 = .ok (.invokevirtual 42, 3) := by decide +kernel
theorem dX1_copyTokens_33 : decode cX1_copyTokens 33 = .ok (.iinc 2 1, 3) := by decide +kernel
theorem dX1_copyTokens_36 : decode cX1_copyTokens 36 = .ok (.goto (-31), 3) := by decide +kernel
theorem dX1_copyTokens_39 : decode cX1_copyTokens 39 = .ok (.return_, 1) := by decide +kernel
theorem dX2_init_0 : decode cX2_init 0 = .ok (.aload_n 0, 1) := by decide +kernel
theorem dX2_init_1 : decode cX2_init 1 = .ok (.invokespecial 3, 3) := by decide +kernel
theorem dX2_init_4 : decode cX2_init 4 = .ok (.aload_n 0, 1) := by decide +kernel
theorem dX2_init_5 : decode cX2_init 5 = .ok (.bipush 20, 2) := by decide +kernel
theorem dX2_init_7 : decode cX2_init 7 = .ok (.newarray .int, 2) := by decide +kernel
theorem dX2_init_9 : decode cX2_init 9 = .ok (.putfield 9, 3) := by decide +kernel
theorem dX2_init_12 : decode cX2_init 12 = .ok (.aload_n 0, 1) := by decide +kernel
theorem dX2_init_13 : decode cX2_init 13 = .ok (.bipush 20, 2) := by decide +kernel
theorem dX2_init_15 : decode cX2_init 15 = .ok (.newarray .int, 2) := by decide +kernel
theorem dX2_init_17 : decode cX2_init 17 = .ok (.putfield 15, 3) := by decide +kernel
theorem dX2_init_20 : decode cX2_init 20 = .ok (.aload_n 0, 1) := by decide +kernel
theorem dX2_init_21 : decode cX2_init 21 = .ok (.bipush 60, 2) := by decide +kernel
theorem dX2_init_23 : decode cX2_init 23 = .ok (.newarray .int, 2) := by decide +kernel
theorem dX2_init_25 : decode cX2_init 25 = .ok (.putfield 18, 3) := by decide +kernel
theorem dX2_init_28 : decode cX2_init 28 = .ok (.return_, 1) := by decide +kernel
theorem dX2_open_0 : decode cX2_open 0 = .ok (.aload_n 0, 1) := by decide +kernel
theorem dX2_open_1 : decode cX2_open 1 = .ok (.getfield 21, 3) := by decide +kernel
theorem dX2_open_4 : decode cX2_open 4 = .ok (.ifCond .lt 45, 3) := by decide +kernel
theorem dX2_open_7 : decode cX2_open 7 = .ok (.aload_n 0, 1) := by decide +kernel
theorem dX2_open_8 : decode cX2_open 8 = .ok (.getfield 21, 3) := by decide +kernel
theorem dX2_open_11 : decode cX2_open 11 = .ok (.bipush 20, 2) := by decide +kernel
theorem dX2_open_13 : decode cX2_open 13 = .ok (.if_icmp .ge 36, 3) := by decide +kernel
theorem dX2_open_16 : decode cX2_open 16 = .ok (.aload_n 0, 1) := by decide +kernel
theorem dX2_open_17 : decode cX2_open 17 = .ok (.getfield 9, 3) := by decide +kernel
theorem dX2_open_20 : decode cX2_open 20 = .ok (.aload_n 0, 1) := by decide +kernel
theorem dX2_open_21 : decode cX2_open 21 = .ok (.getfield 21, 3) := by decide +kernel
theorem dX2_open_24 : decode cX2_open 24 = .ok (.iload_n 1, 1) := by decide +kernel
theorem dX2_open_25 : decode cX2_open 25 = .ok (.iastore, 1) := by decide +kernel
theorem dX2_open_26 : decode cX2_open 26 = .ok (.aload_n 0, 1) := by decide +kernel
theorem dX2_open_27 : decode cX2_open 27 = .ok (.getfield 15, 3) := by decide +kernel
theorem dX2_open_30 : decode cX2_open 30 = .ok (.aload_n 0, 1) := by decide +kernel
theorem dX2_open_31 : decode cX2_open 31 = .ok (.getfield 21, 3) := by decide +kernel
theorem dX2_open_34 : decode cX2_open 34 = .ok (.aload_n 0, 1) := by decide +kernel
theorem dX2_open_35 : decode cX2_open 35 = .ok (.getfield 25, 3) := by decide +kernel
theorem dX2_open_38 : decode cX2_open 38 = .ok (.iastore, 1) := by decide +kernel
theorem dX2_open_39 : decode cX2_open 39 = .ok (.aload_n 0, 1) := by decide +kernel
theorem dX2_open_40 : decode cX2_open 40 = .ok (.dup, 1) := by decide +kernel
theorem dX2_open_41 : decode cX2_open 41 = .ok (.getfield 21, 3) := by decide +kernel
theorem dX2_open_44 : decode cX2_open 44 = .ok (.iconst 1, 1) := by decide +kernel
theorem dX2_open_45 : decode cX2_open 45 = .ok (.iadd, 1) := by decide +kernel
theorem dX2_open_46 : decode cX2_open 46 = .ok (.putfield 21, 3) := by decide +kernel
theorem dX2_open_49 : decode cX2_open 49 = .ok (.return_, 1) := by decide +kernel
theorem dX2_append_0 : decode cX2_append 0 = .ok (.aload_n 0, 1) := by decide +kernel
theorem dX2_append_1 : decode cX2_append 1 = .ok (.getfield 25, 3) := by decide +kernel
theorem dX2_append_4 : decode cX2_append 4 = .ok (.ifCond .lt 32, 3) := by decide +kernel
theorem dX2_append_7 : decode cX2_append 7 = .ok (.aload_n 0, 1) := by decide +kernel
theorem dX2_append_8 : decode cX2_append 8 = .ok (.getfield 25, 3) := by decide +kernel
theorem dX2_append_11 : decode cX2_append 11 = .ok (.bipush 60, 2) := by decide +kernel
theorem dX2_append_13 : decode cX2_append 13 = .ok (.if_icmp .ge 23, 3) := by decide +kernel
theorem dX2_append_16 : decode cX2_append 16 = .ok (.aload_n 0, 1) := by decide +kernel
theorem dX2_append_17 : decode cX2_append 17 = .ok (.getfield 18, 3) := by decide +kernel
theorem dX2_append_20 : decode cX2_append 20 = .ok (.aload_n 0, 1) := by decide +kernel
theorem dX2_append_21 : decode cX2_append 21 = .ok (.getfield 25, 3) := by decide +kernel
theorem dX2_append_24 : decode cX2_append 24 = .ok (.iload_n 1, 1) := by decide +kernel
theorem dX2_append_25 : decode cX2_append 25 = .ok (.iastore, 1) := by decide +kernel
theorem dX2_append_26 : decode cX2_append 26 = .ok (.aload_n 0, 1) := by decide +kernel
theorem dX2_append_27 : decode cX2_append 27 = .ok (.dup, 1) := by decide +kernel
theorem dX2_append_28 : decode cX2_append 28 = .ok (.getfield 25, 3) := by decide +kernel
theorem dX2_append_31 : decode cX2_append 31 = .ok (.iconst 1, 1) := by decide +kernel
theorem dX2_append_32 : decode cX2_append 32 = .ok (.iadd, 1) := by decide +kernel
theorem dX2_append_33 : decode cX2_append 33 = .ok (.putfield 25, 3) := by decide +kernel
theorem dX2_append_36 : decode cX2_append 36 = .ok (.return_, 1) := by decide +kernel
theorem dX2_firstKept_0 : decode cX2_firstKept 0 = .ok (.aload_n 0, 1) := by decide +kernel
theorem dX2_firstKept_1 : decode cX2_firstKept 1 = .ok (.getfield 21, 3) := by decide +kernel
theorem dX2_firstKept_4 : decode cX2_firstKept 4 = .ok (.ifCond .le 26, 3) := by decide +kernel
theorem dX2_firstKept_7 : decode cX2_firstKept 7 = .ok (.aload_n 0, 1) := by decide +kernel
theorem dX2_firstKept_8 : decode cX2_firstKept 8 = .ok (.getfield 21, 3) := by decide +kernel
theorem dX2_firstKept_11 : decode cX2_firstKept 11 = .ok (.bipush 20, 2) := by decide +kernel
theorem dX2_firstKept_13 : decode cX2_firstKept 13 = .ok (.if_icmp .gt 17, 3) := by decide +kernel
theorem dX2_firstKept_16 : decode cX2_firstKept 16 = .ok (.aload_n 0, 1) := by decide +kernel
theorem dX2_firstKept_17 : decode cX2_firstKept 17 = .ok (.getfield 9, 3) := by decide +kernel
theorem dX2_firstKept_20 : decode cX2_firstKept 20 = .ok (.aload_n 0, 1) := by decide +kernel
theorem dX2_firstKept_21 : decode cX2_firstKept 21 = .ok (.getfield 21, 3) := by decide +kernel
theorem dX2_firstKept_24 : decode cX2_firstKept 24 = .ok (.iconst 1, 1) := by decide +kernel
theorem dX2_firstKept_25 : decode cX2_firstKept 25 = .ok (.isub, 1) := by decide +kernel
theorem dX2_firstKept_26 : decode cX2_firstKept 26 = .ok (.iaload, 1) := by decide +kernel
theorem dX2_firstKept_27 : decode cX2_firstKept 27 = .ok (.goto 4, 3) := by decide +kernel
theorem dX2_firstKept_30 : decode cX2_firstKept 30 = .ok (.iconst 0, 1) := by decide +kernel
theorem dX2_firstKept_31 : decode cX2_firstKept 31 = .ok (.ireturn, 1) := by decide +kernel
theorem dX2_firstToken_0 : decode cX2_firstToken 0 = .ok (.aload_n 0, 1) := by decide +kernel
theorem dX2_firstToken_1 : decode cX2_firstToken 1 = .ok (.getfield 21, 3) := by decide +kernel
theorem dX2_firstToken_4 : decode cX2_firstToken 4 = .ok (.ifCond .le 26, 3) := by decide +kernel
theorem dX2_firstToken_7 : decode cX2_firstToken 7 = .ok (.aload_n 0, 1) := by decide +kernel
theorem dX2_firstToken_8 : decode cX2_firstToken 8 = .ok (.getfield 21, 3) := by decide +kernel
theorem dX2_firstToken_11 : decode cX2_firstToken 11 = .ok (.bipush 20, 2) := by decide +kernel
theorem dX2_firstToken_13 : decode cX2_firstToken 13 = .ok (.if_icmp .gt 17, 3) := by decide +kernel
theorem dX2_firstToken_16 : decode cX2_firstToken 16 = .ok (.aload_n 0, 1) := by decide +kernel
theorem dX2_firstToken_17 : decode cX2_firstToken 17 = .ok (.getfield 15, 3) := by decide +kernel
theorem dX2_firstToken_20 : decode cX2_firstToken 20 = .ok (.aload_n 0, 1) := by decide +kernel
theorem dX2_firstToken_21 : decode cX2_firstToken 21 = .ok (.getfield 21, 3) := by decide +kernel
theorem dX2_firstToken_24 : decode cX2_firstToken 24 = .ok (.iconst 1, 1) := by decide +kernel
theorem dX2_firstToken_25 : decode cX2_firstToken 25 = .ok (.isub, 1) := by decide +kernel
theorem dX2_firstToken_26 : decode cX2_firstToken 26 = .ok (.iaload, 1) := by decide +kernel
theorem dX2_firstToken_27 : decode cX2_firstToken 27 = .ok (.goto 4, 3) := by decide +kernel
theorem dX2_firstToken_30 : decode cX2_firstToken 30 = .ok (.iconst 0, 1) := by decide +kernel
theorem dX2_firstToken_31 : decode cX2_firstToken 31 = .ok (.ireturn, 1) := by decide +kernel
theorem dX2_close_0 : decode cX2_close 0 = .ok (.aload_n 0, 1) := by decide +kernel
theorem dX2_close_1 : decode cX2_close 1 = .ok (.getfield 21, 3) := by decide +kernel
theorem dX2_close_4 : decode cX2_close 4 = .ok (.ifCond .le 21, 3) := by decide +kernel
theorem dX2_close_7 : decode cX2_close 7 = .ok (.aload_n 0, 1) := by decide +kernel
theorem dX2_close_8 : decode cX2_close 8 = .ok (.aload_n 0, 1) := by decide +kernel
theorem dX2_close_9 : decode cX2_close 9 = .ok (.invokevirtual 28, 3) := by decide +kernel
theorem dX2_close_12 : decode cX2_close 12 = .ok (.putfield 25, 3) := by decide +kernel
theorem dX2_close_15 : decode cX2_close 15 = .ok (.aload_n 0, 1) := by decide +kernel
theorem dX2_close_16 : decode cX2_close 16 = .ok (.dup, 1) := by decide +kernel
theorem dX2_close_17 : decode cX2_close 17 = .ok (.getfield 21, 3) := by decide +kernel
theorem dX2_close_20 : decode cX2_close 20 = .ok (.iconst 1, 1) := by decide +kernel
theorem dX2_close_21 : decode cX2_close 21 = .ok (.isub, 1) := by decide +kernel
theorem dX2_close_22 : decode cX2_close 22 = .ok (.putfield 21, 3) := by decide +kernel
theorem dX2_close_25 : decode cX2_close 25 = .ok (.return_, 1) := by decide +kernel
theorem dX3_init_0 : decode cX3_init 0 = .ok (.aload_n 0, 1) := by decide +kernel
theorem dX3_init_1 : decode cX3_init 1 = .ok (.invokespecial 3, 3) := by decide +kernel
theorem dX3_init_4 : decode cX3_init 4 = .ok (.aload_n 0, 1) := by decide +kernel
theorem dX3_init_5 : decode cX3_init 5 = .ok (.sipush 200, 3) := by decide +kernel
theorem dX3_init_8 : decode cX3_init 8 = .ok (.newarray .int, 2) := by decide +kernel
theorem dX3_init_10 : decode cX3_init 10 = .ok (.putfield 9, 3) := by decide +kernel
theorem dX3_init_13 : decode cX3_init 13 = .ok (.aload_n 0, 1) := by decide +kernel
theorem dX3_init_14 : decode cX3_init 14 = .ok (.sipush 200, 3) := by decide +kernel
theorem dX3_init_17 : decode cX3_init 17 = .ok (.newarray .int, 2) := by decide +kernel
theorem dX3_init_19 : decode cX3_init 19 = .ok (.putfield 15, 3) := by decide +kernel
theorem dX3_init_22 : decode cX3_init 22 = .ok (.aload_n 0, 1) := by decide +kernel
theorem dX3_init_23 : decode cX3_init 23 = .ok (.sipush 200, 3) := by decide +kernel
theorem dX3_init_26 : decode cX3_init 26 = .ok (.newarray .int, 2) := by decide +kernel
theorem dX3_init_28 : decode cX3_init 28 = .ok (.putfield 18, 3) := by decide +kernel
theorem dX3_init_31 : decode cX3_init 31 = .ok (.aload_n 0, 1) := by decide +kernel
theorem dX3_init_32 : decode cX3_init 32 = .ok (.sipush 4200, 3) := by decide +kernel
theorem dX3_init_35 : decode cX3_init 35 = .ok (.newarray .long, 2) := by decide +kernel
theorem dX3_init_37 : decode cX3_init 37 = .ok (.putfield 21, 3) := by decide +kernel
theorem dX3_init_40 : decode cX3_init 40 = .ok (.return_, 1) := by decide +kernel
theorem dX3_keep_0 : decode cX3_keep 0 = .ok (.aload_n 0, 1) := by decide +kernel
theorem dX3_keep_1 : decode cX3_keep 1 = .ok (.getfield 25, 3) := by decide +kernel
theorem dX3_keep_4 : decode cX3_keep 4 = .ok (.ifCond .lt 13, 3) := by decide +kernel
theorem dX3_keep_7 : decode cX3_keep 7 = .ok (.aload_n 0, 1) := by decide +kernel
theorem dX3_keep_8 : decode cX3_keep 8 = .ok (.getfield 25, 3) := by decide +kernel
theorem dX3_keep_11 : decode cX3_keep 11 = .ok (.sipush 200, 3) := by decide +kernel
theorem dX3_keep_14 : decode cX3_keep 14 = .ok (.if_icmp .lt 4, 3) := by decide +kernel
theorem dX3_keep_17 : decode cX3_keep 17 = .ok (.return_, 1) := by decide +kernel
theorem dX3_keep_18 : decode cX3_keep 18 = .ok (.aload_n 0, 1) := by decide +kernel
theorem dX3_keep_19 : decode cX3_keep 19 = .ok (.getfield 9, 3) := by decide +kernel
theorem dX3_keep_22 : decode cX3_keep 22 = .ok (.aload_n 0, 1) := by decide +kernel
theorem dX3_keep_23 : decode cX3_keep 23 = .ok (.getfield 25, 3) := by decide +kernel
theorem dX3_keep_26 : decode cX3_keep 26 = .ok (.iload_n 2, 1) := by decide +kernel
theorem dX3_keep_27 : decode cX3_keep 27 = .ok (.iastore, 1) := by decide +kernel
theorem dX3_keep_28 : decode cX3_keep 28 = .ok (.aload_n 0, 1) := by decide +kernel
theorem dX3_keep_29 : decode cX3_keep 29 = .ok (.getfield 15, 3) := by decide +kernel
theorem dX3_keep_32 : decode cX3_keep 32 = .ok (.aload_n 0, 1) := by decide +kernel
theorem dX3_keep_33 : decode cX3_keep 33 = .ok (.getfield 25, 3) := by decide +kernel
theorem dX3_keep_36 : decode cX3_keep 36 = .ok (.iload_n 3, 1) := by decide +kernel
theorem dX3_keep_37 : decode cX3_keep 37 = .ok (.iastore, 1) := by decide +kernel
theorem dX3_keep_38 : decode cX3_keep 38 = .ok (.aload_n 0, 1) := by decide +kernel
theorem dX3_keep_39 : decode cX3_keep 39 = .ok (.getfield 18, 3) := by decide +kernel
theorem dX3_keep_42 : decode cX3_keep 42 = .ok (.aload_n 0, 1) := by decide +kernel
theorem dX3_keep_43 : decode cX3_keep 43 = .ok (.getfield 25, 3) := by decide +kernel
theorem dX3_keep_46 : decode cX3_keep 46 = .ok (.aload_n 1, 1) := by decide +kernel
theorem dX3_keep_47 : decode cX3_keep 47 = .ok (.getfield 29, 3) := by decide +kernel
theorem dX3_keep_50 : decode cX3_keep 50 = .ok (.iload_n 2, 1) := by decide +kernel
theorem dX3_keep_51 : decode cX3_keep 51 = .ok (.iload_n 3, 1) := by decide +kernel
theorem dX3_keep_52 : decode cX3_keep 52 = .ok (.invokestatic 32, 3) := by decide +kernel
theorem dX3_keep_55 : decode cX3_keep 55 = .ok (.iaload, 1) := by decide +kernel
theorem dX3_keep_56 : decode cX3_keep 56 = .ok (.iastore, 1) := by decide +kernel
theorem dX3_keep_57 : decode cX3_keep 57 = .ok (.aload_n 1, 1) := by decide +kernel
theorem dX3_keep_58 : decode cX3_keep 58 = .ok (.getfield 36, 3) := by decide +kernel
theorem dX3_keep_61 : decode cX3_keep 61 = .ok (.iload_n 2, 1) := by decide +kernel
theorem dX3_keep_62 : decode cX3_keep 62 = .ok (.iload_n 3, 1) := by decide +kernel
theorem dX3_keep_63 : decode cX3_keep 63 = .ok (.invokestatic 37, 3) := by decide +kernel
theorem dX3_keep_66 : decode cX3_keep 66 = .ok (.aload_n 0, 1) := by decide +kernel
theorem dX3_keep_67 : decode cX3_keep 67 = .ok (.getfield 21, 3) := by decide +kernel
theorem dX3_keep_70 : decode cX3_keep 70 = .ok (.aload_n 0, 1) := by decide +kernel
theorem dX3_keep_71 : decode cX3_keep 71 = .ok (.getfield 25, 3) := by decide +kernel
theorem dX3_keep_74 : decode cX3_keep 74 = .ok (.bipush 21, 2) := by decide +kernel
theorem dX3_keep_76 : decode cX3_keep 76 = .ok (.imul, 1) := by decide +kernel
theorem dX3_keep_77 : decode cX3_keep 77 = .ok (.getstatic 40, 3) := by decide +kernel
theorem dX3_keep_80 : decode cX3_keep 80 = .ok (.iload_n 2, 1) := by decide +kernel
theorem dX3_keep_81 : decode cX3_keep 81 = .ok (.iaload, 1) := by decide +kernel
theorem dX3_keep_82 : decode cX3_keep 82 = .ok (.invokestatic 43, 3) := by decide +kernel
theorem dX3_keep_85 : decode cX3_keep 85 = .ok (.aload_n 0, 1) := by decide +kernel
theorem dX3_keep_86 : decode cX3_keep 86 = .ok (.dup, 1) := by decide +kernel
theorem dX3_keep_87 : decode cX3_keep 87 = .ok (.getfield 25, 3) := by decide +kernel
theorem dX3_keep_90 : decode cX3_keep 90 = .ok (.iconst 1, 1) := by decide +kernel
theorem dX3_keep_91 : decode cX3_keep 91 = .ok (.iadd, 1) := by decide +kernel
theorem dX3_keep_92 : decode cX3_keep 92 = .ok (.putfield 25, 3) := by decide +kernel
theorem dX3_keep_95 : decode cX3_keep 95 = .ok (.return_, 1) := by decide +kernel
theorem dX4_init_0 : decode cX4_init 0 = .ok (.aload_n 0, 1) := by decide +kernel
theorem dX4_init_1 : decode cX4_init 1 = .ok (.invokespecial 3, 3) := by decide +kernel
theorem dX4_init_4 : decode cX4_init 4 = .ok (.aload_n 0, 1) := by decide +kernel
theorem dX4_init_5 : decode cX4_init 5 = .ok (.bipush 61, 2) := by decide +kernel
theorem dX4_init_7 : decode cX4_init 7 = .ok (.newarray .int, 2) := by decide +kernel
theorem dX4_init_9 : decode cX4_init 9 = .ok (.putfield 9, 3) := by decide +kernel
theorem dX4_init_12 : decode cX4_init 12 = .ok (.return_, 1) := by decide +kernel
theorem dX4_clear_0 : decode cX4_clear 0 = .ok (.aload_n 0, 1) := by decide +kernel
theorem dX4_clear_1 : decode cX4_clear 1 = .ok (.iconst 0, 1) := by decide +kernel
theorem dX4_clear_2 : decode cX4_clear 2 = .ok (.putfield 15, 3) := by decide +kernel
theorem dX4_clear_5 : decode cX4_clear 5 = .ok (.return_, 1) := by decide +kernel
theorem dX4_signAt_0 : decode cX4_signAt 0 = .ok (.iload_n 1, 1) := by decide +kernel
theorem dX4_signAt_1 : decode cX4_signAt 1 = .ok (.ifCond .lt 17, 3) := by decide +kernel
theorem dX4_signAt_4 : decode cX4_signAt 4 = .ok (.iload_n 1, 1) := by decide +kernel
theorem dX4_signAt_5 : decode cX4_signAt 5 = .ok (.aload_n 0, 1) := by decide +kernel
theorem dX4_signAt_6 : decode cX4_signAt 6 = .ok (.getfield 15, 3) := by decide +kernel
theorem dX4_signAt_9 : decode cX4_signAt 9 = .ok (.if_icmp .ge 9, 3) := by decide +kernel
theorem dX4_signAt_12 : decode cX4_signAt 12 = .ok (.iload_n 1, 1) := by decide +kernel
theorem dX4_signAt_13 : decode cX4_signAt 13 = .ok (.bipush 61, 2) := by decide +kernel
theorem dX4_signAt_15 : decode cX4_signAt 15 = .ok (.if_icmp .lt 7, 3) := by decide +kernel
theorem dX4_signAt_18 : decode cX4_signAt 18 = .ok (.iconst (-1), 1) := by decide +kernel
theorem dX4_signAt_19 : decode cX4_signAt 19 = .ok (.goto 9, 3) := by decide +kernel
theorem dX4_signAt_22 : decode cX4_signAt 22 = .ok (.aload_n 0, 1) := by decide +kernel
theorem dX4_signAt_23 : decode cX4_signAt 23 = .ok (.getfield 9, 3) := by decide +kernel
theorem dX4_signAt_26 : decode cX4_signAt 26 = .ok (.iload_n 1, 1) := by decide +kernel
theorem dX4_signAt_27 : decode cX4_signAt 27 = .ok (.iaload, 1) := by decide +kernel
theorem dX4_signAt_28 : decode cX4_signAt 28 = .ok (.ireturn, 1) := by decide +kernel
theorem dX4_write_0 : decode cX4_write 0 = .ok (.aload_n 0, 1) := by decide +kernel
theorem dX4_write_1 : decode cX4_write 1 = .ok (.getfield 15, 3) := by decide +kernel
theorem dX4_write_4 : decode cX4_write 4 = .ok (.ifCond .lt 32, 3) := by decide +kernel
theorem dX4_write_7 : decode cX4_write 7 = .ok (.aload_n 0, 1) := by decide +kernel
theorem dX4_write_8 : decode cX4_write 8 = .ok (.getfield 15, 3) := by decide +kernel
theorem dX4_write_11 : decode cX4_write 11 = .ok (.bipush 61, 2) := by decide +kernel
theorem dX4_write_13 : decode cX4_write 13 = .ok (.if_icmp .ge 23, 3) := by decide +kernel
theorem dX4_write_16 : decode cX4_write 16 = .ok (.aload_n 0, 1) := by decide +kernel
theorem dX4_write_17 : decode cX4_write 17 = .ok (.getfield 9, 3) := by decide +kernel
theorem dX4_write_20 : decode cX4_write 20 = .ok (.aload_n 0, 1) := by decide +kernel
theorem dX4_write_21 : decode cX4_write 21 = .ok (.getfield 15, 3) := by decide +kernel
theorem dX4_write_24 : decode cX4_write 24 = .ok (.iload_n 1, 1) := by decide +kernel
theorem dX4_write_25 : decode cX4_write 25 = .ok (.iastore, 1) := by decide +kernel
theorem dX4_write_26 : decode cX4_write 26 = .ok (.aload_n 0, 1) := by decide +kernel
theorem dX4_write_27 : decode cX4_write 27 = .ok (.dup, 1) := by decide +kernel
theorem dX4_write_28 : decode cX4_write 28 = .ok (.getfield 15, 3) := by decide +kernel
theorem dX4_write_31 : decode cX4_write 31 = .ok (.iconst 1, 1) := by decide +kernel
theorem dX4_write_32 : decode cX4_write 32 = .ok (.iadd, 1) := by decide +kernel
theorem dX4_write_33 : decode cX4_write 33 = .ok (.putfield 15, 3) := by decide +kernel
theorem dX4_write_36 : decode cX4_write 36 = .ok (.return_, 1) := by decide +kernel
theorem dX4_writeText_0 : decode cX4_writeText 0 = .ok (.iconst 0, 1) := by decide +kernel
theorem dX4_writeText_1 : decode cX4_writeText 1 = .ok (.istore_n 2, 1) := by decide +kernel
theorem dX4_writeText_2 : decode cX4_writeText 2 = .ok (.iload_n 2, 1) := by decide +kernel
theorem dX4_writeText_3 : decode cX4_writeText 3 = .ok (.aload_n 1, 1) := by decide +kernel
theorem dX4_writeText_4 : decode cX4_writeText 4 = .ok (.invokevirtual 19, 3) := by decide +kernel
theorem dX4_writeText_7 : decode cX4_writeText 7 = .ok (.if_icmp .ge 18, 3) := by decide +kernel
theorem dX4_writeText_10 : decode cX4_writeText 10 = .ok (.aload_n 0, 1) := by decide +kernel
theorem dX4_writeText_11 : decode cX4_writeText 11 = .ok (.aload_n 1, 1) := by decide +kernel
theorem dX4_writeText_12 : decode cX4_writeText 12 = .ok (.iload_n 2, 1) := by decide +kernel
theorem dX4_writeText_13 : decode cX4_writeText 13 = .ok (.invokevirtual 25, 3) := by decide +kernel
theorem dX4_writeText_16 : decode cX4_writeText 16 = .ok (.invokevirtual 29, 3) := by decide +kernel
theorem dX4_writeText_19 : decode cX4_writeText 19 = .ok (.iinc 2 1, 3) := by decide +kernel
theorem dX4_writeText_22 : decode cX4_writeText 22 = .ok (.goto (-20), 3) := by decide +kernel
theorem dX4_writeText_25 : decode cX4_writeText 25 = .ok (.return_, 1) := by decide +kernel
theorem dX4_writeNumber_0 : decode cX4_writeNumber 0 = .ok (.lload_n 1, 1) := by decide +kernel
theorem dX4_writeNumber_1 : decode cX4_writeNumber 1 = .ok (.lconst 0, 1) := by decide +kernel
theorem dX4_writeNumber_2 : decode cX4_writeNumber 2 = .ok (.lcmp, 1) := by decide +kernel
theorem dX4_writeNumber_3 : decode cX4_writeNumber 3 = .ok (.ifCond .ge 9, 3) := by decide +kernel
theorem dX4_writeNumber_6 : decode cX4_writeNumber 6 = .ok (.aload_n 0, 1) := by decide +kernel
theorem dX4_writeNumber_7 : decode cX4_writeNumber 7 = .ok (.bipush 45, 2) := by decide +kernel
theorem dX4_writeNumber_9 : decode cX4_writeNumber 9 = .ok (.invokevirtual 29, 3) := by decide +kernel
theorem dX4_writeNumber_12 : decode cX4_writeNumber 12 = .ok (.aload_n 0, 1) := by decide +kernel
theorem dX4_writeNumber_13 : decode cX4_writeNumber 13 = .ok (.lload_n 1, 1) := by decide +kernel
theorem dX4_writeNumber_14 : decode cX4_writeNumber 14 = .ok (.lconst 0, 1) := by decide +kernel
theorem dX4_writeNumber_15 : decode cX4_writeNumber 15 = .ok (.lcmp, 1) := by decide +kernel
theorem dX4_writeNumber_16 : decode cX4_writeNumber 16 = .ok (.ifCond .ge 8, 3) := by decide +kernel
theorem dX4_writeNumber_19 : decode cX4_writeNumber 19 = .ok (.lload_n 1, 1) := by decide +kernel
theorem dX4_writeNumber_20 : decode cX4_writeNumber 20 = .ok (.lneg, 1) := by decide +kernel
theorem dX4_writeNumber_21 : decode cX4_writeNumber 21 = .ok (.goto 4, 3) := by decide +kernel
theorem dX4_writeNumber_24 : decode cX4_writeNumber 24 = .ok (.lload_n 1, 1) := by decide +kernel
theorem dX4_writeNumber_25 : decode cX4_writeNumber 25 = .ok (.invokevirtual 33, 3) := by decide +kernel
theorem dX4_writeNumber_28 : decode cX4_writeNumber 28 = .ok (.return_, 1) := by decide +kernel
theorem dX4_writeDigits_0 : decode cX4_writeDigits 0 = .ok (.lconst 1, 1) := by decide +kernel
theorem dX4_writeDigits_1 : decode cX4_writeDigits 1 = .ok (.lstore_n 3, 1) := by decide +kernel
theorem dX4_writeDigits_2 : decode cX4_writeDigits 2 = .ok (.iconst 0, 1) := by decide +kernel
theorem dX4_writeDigits_3 : decode cX4_writeDigits 3 = .ok (.istore 5, 2) := by decide +kernel
theorem dX4_writeDigits_5 : decode cX4_writeDigits 5 = .ok (.iload 5, 2) := by decide +kernel
theorem dX4_writeDigits_7 : decode cX4_writeDigits 7 = .ok (.bipush 9, 2) := by decide +kernel
theorem dX4_writeDigits_9 : decode cX4_writeDigits 9 = .ok (.if_icmp .ge 25, 3) := by decide +kernel
theorem dX4_writeDigits_12 : decode cX4_writeDigits 12 = .ok (.lload_n 1, 1) := by decide +kernel
theorem dX4_writeDigits_13 : decode cX4_writeDigits 13 = .ok (.ldc2_w 37, 3) := by decide +kernel
theorem dX4_writeDigits_16 : decode cX4_writeDigits 16 = .ok (.ldiv, 1) := by decide +kernel
theorem dX4_writeDigits_17 : decode cX4_writeDigits 17 = .ok (.lload_n 3, 1) := by decide +kernel
theorem dX4_writeDigits_18 : decode cX4_writeDigits 18 = .ok (.lcmp, 1) := by decide +kernel
theorem dX4_writeDigits_19 : decode cX4_writeDigits 19 = .ok (.ifCond .lt 15, 3) := by decide +kernel
theorem dX4_writeDigits_22 : decode cX4_writeDigits 22 = .ok (.lload_n 3, 1) := by decide +kernel
theorem dX4_writeDigits_23 : decode cX4_writeDigits 23 = .ok (.ldc2_w 37, 3) := by decide +kernel
theorem dX4_writeDigits_26 : decode cX4_writeDigits 26 = .ok (.lmul, 1) := by decide +kernel
theorem dX4_writeDigits_27 : decode cX4_writeDigits 27 = .ok (.lstore_n 3, 1) := by decide +kernel
theorem dX4_writeDigits_28 : decode cX4_writeDigits 28 = .ok (.iinc 5 1, 3) := by decide +kernel
theorem dX4_writeDigits_31 : decode cX4_writeDigits 31 = .ok (.goto (-26), 3) := by decide +kernel
theorem dX4_writeDigits_34 : decode cX4_writeDigits 34 = .ok (.iconst 0, 1) := by decide +kernel
theorem dX4_writeDigits_35 : decode cX4_writeDigits 35 = .ok (.istore 5, 2) := by decide +kernel
theorem dX4_writeDigits_37 : decode cX4_writeDigits 37 = .ok (.iload 5, 2) := by decide +kernel
theorem dX4_writeDigits_39 : decode cX4_writeDigits 39 = .ok (.bipush 9, 2) := by decide +kernel
theorem dX4_writeDigits_41 : decode cX4_writeDigits 41 = .ok (.if_icmp .gt 36, 3) := by decide +kernel
theorem dX4_writeDigits_44 : decode cX4_writeDigits 44 = .ok (.lload_n 3, 1) := by decide +kernel
theorem dX4_writeDigits_45 : decode cX4_writeDigits 45 = .ok (.lconst 0, 1) := by decide +kernel
theorem dX4_writeDigits_46 : decode cX4_writeDigits 46 = .ok (.lcmp, 1) := by decide +kernel
theorem dX4_writeDigits_47 : decode cX4_writeDigits 47 = .ok (.ifCond .le 30, 3) := by decide +kernel
theorem dX4_writeDigits_50 : decode cX4_writeDigits 50 = .ok (.aload_n 0, 1) := by decide +kernel
theorem dX4_writeDigits_51 : decode cX4_writeDigits 51 = .ok (.bipush 48, 2) := by decide +kernel
theorem dX4_writeDigits_53 : decode cX4_writeDigits 53 = .ok (.lload_n 1, 1) := by decide +kernel
theorem dX4_writeDigits_54 : decode cX4_writeDigits 54 = .ok (.lload_n 3, 1) := by decide +kernel
theorem dX4_writeDigits_55 : decode cX4_writeDigits 55 = .ok (.ldiv, 1) := by decide +kernel
theorem dX4_writeDigits_56 : decode cX4_writeDigits 56 = .ok (.ldc2_w 37, 3) := by decide +kernel
theorem dX4_writeDigits_59 : decode cX4_writeDigits 59 = .ok (.lrem, 1) := by decide +kernel
theorem dX4_writeDigits_60 : decode cX4_writeDigits 60 = .ok (.l2i, 1) := by decide +kernel
theorem dX4_writeDigits_61 : decode cX4_writeDigits 61 = .ok (.iadd, 1) := by decide +kernel
theorem dX4_writeDigits_62 : decode cX4_writeDigits 62 = .ok (.invokevirtual 29, 3) := by decide +kernel
theorem dX4_writeDigits_65 : decode cX4_writeDigits 65 = .ok (.lload_n 3, 1) := by decide +kernel
theorem dX4_writeDigits_66 : decode cX4_writeDigits 66 = .ok (.ldc2_w 37, 3) := by decide +kernel
theorem dX4_writeDigits_69 : decode cX4_writeDigits 69 = .ok (.ldiv, 1) := by decide +kernel
theorem dX4_writeDigits_70 : decode cX4_writeDigits 70 = .ok (.lstore_n 3, 1) := by decide +kernel
theorem dX4_writeDigits_71 : decode cX4_writeDigits 71 = .ok (.iinc 5 1, 3) := by decide +kernel
theorem dX4_writeDigits_74 : decode cX4_writeDigits 74 = .ok (.goto (-37), 3) := by decide +kernel
theorem dX4_writeDigits_77 : decode cX4_writeDigits 77 = .ok (.return_, 1) := by decide +kernel
theorem dX4_writeLength_0 : decode cX4_writeLength 0 = .ok (.lload_n 1, 1) := by decide +kernel
theorem dX4_writeLength_1 : decode cX4_writeLength 1 = .ok (.lconst 0, 1) := by decide +kernel
theorem dX4_writeLength_2 : decode cX4_writeLength 2 = .ok (.lcmp, 1) := by decide +kernel
theorem dX4_writeLength_3 : decode cX4_writeLength 3 = .ok (.ifCond .ge 9, 3) := by decide +kernel
theorem dX4_writeLength_6 : decode cX4_writeLength 6 = .ok (.aload_n 0, 1) := by decide +kernel
theorem dX4_writeLength_7 : decode cX4_writeLength 7 = .ok (.bipush 45, 2) := by decide +kernel
theorem dX4_writeLength_9 : decode cX4_writeLength 9 = .ok (.invokevirtual 29, 3) := by decide +kernel
theorem dX4_writeLength_12 : decode cX4_writeLength 12 = .ok (.lload_n 1, 1) := by decide +kernel
theorem dX4_writeLength_13 : decode cX4_writeLength 13 = .ok (.lconst 0, 1) := by decide +kernel
theorem dX4_writeLength_14 : decode cX4_writeLength 14 = .ok (.lcmp, 1) := by decide +kernel
theorem dX4_writeLength_15 : decode cX4_writeLength 15 = .ok (.ifCond .ge 8, 3) := by decide +kernel
theorem dX4_writeLength_18 : decode cX4_writeLength 18 = .ok (.lload_n 1, 1) := by decide +kernel
theorem dX4_writeLength_19 : decode cX4_writeLength 19 = .ok (.lneg, 1) := by decide +kernel
theorem dX4_writeLength_20 : decode cX4_writeLength 20 = .ok (.goto 4, 3) := by decide +kernel
theorem dX4_writeLength_23 : decode cX4_writeLength 23 = .ok (.lload_n 1, 1) := by decide +kernel
theorem dX4_writeLength_24 : decode cX4_writeLength 24 = .ok (.lstore_n 3, 1) := by decide +kernel
theorem dX4_writeLength_25 : decode cX4_writeLength 25 = .ok (.aload_n 0, 1) := by decide +kernel
theorem dX4_writeLength_26 : decode cX4_writeLength 26 = .ok (.lload_n 3, 1) := by decide +kernel
theorem dX4_writeLength_27 : decode cX4_writeLength 27 = .ok (.ldc2_w 39, 3) := by decide +kernel
theorem dX4_writeLength_30 : decode cX4_writeLength 30 = .ok (.ldiv, 1) := by decide +kernel
theorem dX4_writeLength_31 : decode cX4_writeLength 31 = .ok (.invokevirtual 33, 3) := by decide +kernel
theorem dX4_writeLength_34 : decode cX4_writeLength 34 = .ok (.aload_n 0, 1) := by decide +kernel
theorem dX4_writeLength_35 : decode cX4_writeLength 35 = .ok (.bipush 46, 2) := by decide +kernel
theorem dX4_writeLength_37 : decode cX4_writeLength 37 = .ok (.invokevirtual 29, 3) := by decide +kernel
theorem dX4_writeLength_40 : decode cX4_writeLength 40 = .ok (.aload_n 0, 1) := by decide +kernel
theorem dX4_writeLength_41 : decode cX4_writeLength 41 = .ok (.lload_n 3, 1) := by decide +kernel
theorem dX4_writeLength_42 : decode cX4_writeLength 42 = .ok (.ldc2_w 39, 3) := by decide +kernel
theorem dX4_writeLength_45 : decode cX4_writeLength 45 = .ok (.lrem, 1) := by decide +kernel
theorem dX4_writeLength_46 : decode cX4_writeLength 46 = .ok (.invokevirtual 41, 3) := by decide +kernel
theorem dX4_writeLength_49 : decode cX4_writeLength 49 = .ok (.return_, 1) := by decide +kernel
theorem dX4_writeFraction_0 : decode cX4_writeFraction 0 = .ok (.ldc2_w 37, 3) := by decide +kernel
theorem dX4_writeFraction_3 : decode cX4_writeFraction 3 = .ok (.lload_n 1, 1) := by decide +kernel
theorem dX4_writeFraction_4 : decode cX4_writeFraction 4 = .ok (.lmul, 1) := by decide +kernel
theorem dX4_writeFraction_5 : decode cX4_writeFraction 5 = .ok (.ldc2_w 44, 3) := by decide +kernel
theorem dX4_writeFraction_8 : decode cX4_writeFraction 8 = .ok (.ladd, 1) := by decide +kernel
theorem dX4_writeFraction_9 : decode cX4_writeFraction 9 = .ok (.lstore_n 3, 1) := by decide +kernel
theorem dX4_writeFraction_10 : decode cX4_writeFraction 10 = .ok (.ldc2_w 37, 3) := by decide +kernel
theorem dX4_writeFraction_13 : decode cX4_writeFraction 13 = .ok (.lstore 5, 2) := by decide +kernel
theorem dX4_writeFraction_15 : decode cX4_writeFraction 15 = .ok (.iconst 0, 1) := by decide +kernel
theorem dX4_writeFraction_16 : decode cX4_writeFraction 16 = .ok (.istore 7, 2) := by decide +kernel
theorem dX4_writeFraction_18 : decode cX4_writeFraction 18 = .ok (.iload 7, 2) := by decide +kernel
theorem dX4_writeFraction_20 : decode cX4_writeFraction 20 = .ok (.bipush 9, 2) := by decide +kernel
theorem dX4_writeFraction_22 : decode cX4_writeFraction 22 = .ok (.if_icmp .ge 67, 3) := by decide +kernel
theorem dX4_writeFraction_25 : decode cX4_writeFraction 25 = .ok (.iload 7, 2) := by decide +kernel
theorem dX4_writeFraction_27 : decode cX4_writeFraction 27 = .ok (.ifCond .eq 10, 3) := by decide +kernel
theorem dX4_writeFraction_30 : decode cX4_writeFraction 30 = .ok (.lload_n 3, 1) := by decide +kernel
theorem dX4_writeFraction_31 : decode cX4_writeFraction 31 = .ok (.lload 5, 2) := by decide +kernel
theorem dX4_writeFraction_33 : decode cX4_writeFraction 33 = .ok (.lcmp, 1) := by decide +kernel
theorem dX4_writeFraction_34 : decode cX4_writeFraction 34 = .ok (.ifCond .le 55, 3) := by decide +kernel
theorem dX4_writeFraction_37 : decode cX4_writeFraction 37 = .ok (.lload 5, 2) := by decide +kernel
theorem dX4_writeFraction_39 : decode cX4_writeFraction 39 = .ok (.ldc2_w 39, 3) := by decide +kernel
theorem dX4_writeFraction_42 : decode cX4_writeFraction 42 = .ok (.lcmp, 1) := by decide +kernel
theorem dX4_writeFraction_43 : decode cX4_writeFraction 43 = .ok (.ifCond .le 9, 3) := by decide +kernel
theorem dX4_writeFraction_46 : decode cX4_writeFraction 46 = .ok (.lload_n 3, 1) := by decide +kernel
theorem dX4_writeFraction_47 : decode cX4_writeFraction 47 = .ok (.ldc2_w 46, 3) := by decide +kernel
theorem dX4_writeFraction_50 : decode cX4_writeFraction 50 = .ok (.lsub, 1) := by decide +kernel
theorem dX4_writeFraction_51 : decode cX4_writeFraction 51 = .ok (.lstore_n 3, 1) := by decide +kernel
theorem dX4_writeFraction_52 : decode cX4_writeFraction 52 = .ok (.aload_n 0, 1) := by decide +kernel
theorem dX4_writeFraction_53 : decode cX4_writeFraction 53 = .ok (.bipush 48, 2) := by decide +kernel
theorem dX4_writeFraction_55 : decode cX4_writeFraction 55 = .ok (.lload_n 3, 1) := by decide +kernel
theorem dX4_writeFraction_56 : decode cX4_writeFraction 56 = .ok (.ldc2_w 39, 3) := by decide +kernel
theorem dX4_writeFraction_59 : decode cX4_writeFraction 59 = .ok (.ldiv, 1) := by decide +kernel
theorem dX4_writeFraction_60 : decode cX4_writeFraction 60 = .ok (.l2i, 1) := by decide +kernel
theorem dX4_writeFraction_61 : decode cX4_writeFraction 61 = .ok (.iadd, 1) := by decide +kernel
theorem dX4_writeFraction_62 : decode cX4_writeFraction 62 = .ok (.invokevirtual 29, 3) := by decide +kernel
theorem dX4_writeFraction_65 : decode cX4_writeFraction 65 = .ok (.ldc2_w 37, 3) := by decide +kernel
theorem dX4_writeFraction_68 : decode cX4_writeFraction 68 = .ok (.lload_n 3, 1) := by decide +kernel
theorem dX4_writeFraction_69 : decode cX4_writeFraction 69 = .ok (.ldc2_w 39, 3) := by decide +kernel
theorem dX4_writeFraction_72 : decode cX4_writeFraction 72 = .ok (.lrem, 1) := by decide +kernel
theorem dX4_writeFraction_73 : decode cX4_writeFraction 73 = .ok (.lmul, 1) := by decide +kernel
theorem dX4_writeFraction_74 : decode cX4_writeFraction 74 = .ok (.lstore_n 3, 1) := by decide +kernel
theorem dX4_writeFraction_75 : decode cX4_writeFraction 75 = .ok (.lload 5, 2) := by decide +kernel
theorem dX4_writeFraction_77 : decode cX4_writeFraction 77 = .ok (.ldc2_w 37, 3) := by decide +kernel
theorem dX4_writeFraction_80 : decode cX4_writeFraction 80 = .ok (.lmul, 1) := by decide +kernel
theorem dX4_writeFraction_81 : decode cX4_writeFraction 81 = .ok (.lstore 5, 2) := by decide +kernel
theorem dX4_writeFraction_83 : decode cX4_writeFraction 83 = .ok (.iinc 7 1, 3) := by decide +kernel
theorem dX4_writeFraction_86 : decode cX4_writeFraction 86 = .ok (.goto (-68), 3) := by decide +kernel
theorem dX4_writeFraction_89 : decode cX4_writeFraction 89 = .ok (.return_, 1) := by decide +kernel
theorem dX5_init_0 : decode cX5_init 0 = .ok (.aload_n 0, 1) := by decide +kernel
theorem dX5_init_1 : decode cX5_init 1 = .ok (.invokespecial 1, 3) := by decide +kernel
theorem dX5_init_4 : decode cX5_init 4 = .ok (.aload_n 0, 1) := by decide +kernel
theorem dX5_init_5 : decode cX5_init 5 = .ok (.new 7, 3) := by decide +kernel
theorem dX5_init_8 : decode cX5_init 8 = .ok (.dup, 1) := by decide +kernel
theorem dX5_init_9 : decode cX5_init 9 = .ok (.invokespecial 9, 3) := by decide +kernel
theorem dX5_init_12 : decode cX5_init 12 = .ok (.putfield 10, 3) := by decide +kernel
theorem dX5_init_15 : decode cX5_init 15 = .ok (.aload_n 0, 1) := by decide +kernel
theorem dX5_init_16 : decode cX5_init 16 = .ok (.new 16, 3) := by decide +kernel
theorem dX5_init_19 : decode cX5_init 19 = .ok (.dup, 1) := by decide +kernel
theorem dX5_init_20 : decode cX5_init 20 = .ok (.invokespecial 18, 3) := by decide +kernel
theorem dX5_init_23 : decode cX5_init 23 = .ok (.putfield 19, 3) := by decide +kernel
theorem dX5_init_26 : decode cX5_init 26 = .ok (.aload_n 0, 1) := by decide +kernel
theorem dX5_init_27 : decode cX5_init 27 = .ok (.new 23, 3) := by decide +kernel
theorem dX5_init_30 : decode cX5_init 30 = .ok (.dup, 1) := by decide +kernel
theorem dX5_init_31 : decode cX5_init 31 = .ok (.invokespecial 25, 3) := by decide +kernel
theorem dX5_init_34 : decode cX5_init 34 = .ok (.putfield 26, 3) := by decide +kernel
theorem dX5_init_37 : decode cX5_init 37 = .ok (.aload_n 0, 1) := by decide +kernel
theorem dX5_init_38 : decode cX5_init 38 = .ok (.new 30, 3) := by decide +kernel
theorem dX5_init_41 : decode cX5_init 41 = .ok (.dup, 1) := by decide +kernel
theorem dX5_init_42 : decode cX5_init 42 = .ok (.invokespecial 32, 3) := by decide +kernel
theorem dX5_init_45 : decode cX5_init 45 = .ok (.putfield 33, 3) := by decide +kernel
theorem dX5_init_48 : decode cX5_init 48 = .ok (.aload_n 0, 1) := by decide +kernel
theorem dX5_init_49 : decode cX5_init 49 = .ok (.new 37, 3) := by decide +kernel
theorem dX5_init_52 : decode cX5_init 52 = .ok (.dup, 1) := by decide +kernel
theorem dX5_init_53 : decode cX5_init 53 = .ok (.invokespecial 39, 3) := by decide +kernel
theorem dX5_init_56 : decode cX5_init 56 = .ok (.putfield 40, 3) := by decide +kernel
theorem dX5_init_59 : decode cX5_init 59 = .ok (.aload_n 0, 1) := by decide +kernel
theorem dX5_init_60 : decode cX5_init 60 = .ok (.iconst 5, 1) := by decide +kernel
theorem dX5_init_61 : decode cX5_init 61 = .ok (.newarray .long, 2) := by decide +kernel
theorem dX5_init_63 : decode cX5_init 63 = .ok (.putfield 44, 3) := by decide +kernel
theorem dX5_init_66 : decode cX5_init 66 = .ok (.aload_n 0, 1) := by decide +kernel
theorem dX5_init_67 : decode cX5_init 67 = .ok (.bipush 21, 2) := by decide +kernel
theorem dX5_init_69 : decode cX5_init 69 = .ok (.newarray .long, 2) := by decide +kernel
theorem dX5_init_71 : decode cX5_init 71 = .ok (.putfield 48, 3) := by decide +kernel
theorem dX5_init_74 : decode cX5_init 74 = .ok (.aload_n 0, 1) := by decide +kernel
theorem dX5_init_75 : decode cX5_init 75 = .ok (.bipush 21, 2) := by decide +kernel
theorem dX5_init_77 : decode cX5_init 77 = .ok (.newarray .long, 2) := by decide +kernel
theorem dX5_init_79 : decode cX5_init 79 = .ok (.putfield 51, 3) := by decide +kernel
theorem dX5_init_82 : decode cX5_init 82 = .ok (.return_, 1) := by decide +kernel
theorem dX5_token_0 : decode cX5_token 0 = .ok (.iload_n 1, 1) := by decide +kernel
theorem dX5_token_1 : decode cX5_token 1 = .ok (.invokestatic 54, 3) := by decide +kernel
theorem dX5_token_4 : decode cX5_token 4 = .ok (.aload_n 0, 1) := by decide +kernel
theorem dX5_token_5 : decode cX5_token 5 = .ok (.getfield 48, 3) := by decide +kernel
theorem dX5_token_8 : decode cX5_token 8 = .ok (.iconst 0, 1) := by decide +kernel
theorem dX5_token_9 : decode cX5_token 9 = .ok (.laload, 1) := by decide +kernel
theorem dX5_token_10 : decode cX5_token 10 = .ok (.l2i, 1) := by decide +kernel
theorem dX5_token_11 : decode cX5_token 11 = .ok (.istore_n 2, 1) := by decide +kernel
theorem dX5_token_12 : decode cX5_token 12 = .ok (.iload_n 2, 1) := by decide +kernel
theorem dX5_token_13 : decode cX5_token 13 = .ok (.ifCond .lt 9, 3) := by decide +kernel
theorem dX5_token_16 : decode cX5_token 16 = .ok (.iload_n 2, 1) := by decide +kernel
theorem dX5_token_17 : decode cX5_token 17 = .ok (.bipush 20, 2) := by decide +kernel
theorem dX5_token_19 : decode cX5_token 19 = .ok (.if_icmp .lt 5, 3) := by decide +kernel
theorem dX5_token_22 : decode cX5_token 22 = .ok (.iconst (-1), 1) := by decide +kernel
theorem dX5_token_23 : decode cX5_token 23 = .ok (.ireturn, 1) := by decide +kernel
theorem dX5_token_24 : decode cX5_token 24 = .ok (.aload_n 0, 1) := by decide +kernel
theorem dX5_token_25 : decode cX5_token 25 = .ok (.getfield 48, 3) := by decide +kernel
theorem dX5_token_28 : decode cX5_token 28 = .ok (.iload_n 2, 1) := by decide +kernel
theorem dX5_token_29 : decode cX5_token 29 = .ok (.iconst 1, 1) := by decide +kernel
theorem dX5_token_30 : decode cX5_token 30 = .ok (.iadd, 1) := by decide +kernel
theorem dX5_token_31 : decode cX5_token 31 = .ok (.iload_n 1, 1) := by decide +kernel
theorem dX5_token_32 : decode cX5_token 32 = .ok (.i2l, 1) := by decide +kernel
theorem dX5_token_33 : decode cX5_token 33 = .ok (.lastore, 1) := by decide +kernel
theorem dX5_token_34 : decode cX5_token 34 = .ok (.aload_n 0, 1) := by decide +kernel
theorem dX5_token_35 : decode cX5_token 35 = .ok (.getfield 48, 3) := by decide +kernel
theorem dX5_token_38 : decode cX5_token 38 = .ok (.iconst 0, 1) := by decide +kernel
theorem dX5_token_39 : decode cX5_token 39 = .ok (.iload_n 2, 1) := by decide +kernel
theorem dX5_token_40 : decode cX5_token 40 = .ok (.iconst 1, 1) := by decide +kernel
theorem dX5_token_41 : decode cX5_token 41 = .ok (.iadd, 1) := by decide +kernel
theorem dX5_token_42 : decode cX5_token 42 = .ok (.i2l, 1) := by decide +kernel
theorem dX5_token_43 : decode cX5_token 43 = .ok (.lastore, 1) := by decide +kernel
theorem dX5_token_44 : decode cX5_token 44 = .ok (.iload_n 2, 1) := by decide +kernel
theorem dX5_token_45 : decode cX5_token 45 = .ok (.iconst 1, 1) := by decide +kernel
theorem dX5_token_46 : decode cX5_token 46 = .ok (.iadd, 1) := by decide +kernel
theorem dX5_token_47 : decode cX5_token 47 = .ok (.ireturn, 1) := by decide +kernel
theorem dX5_glue_0 : decode cX5_glue 0 = .ok (.lload_n 1, 1) := by decide +kernel
theorem dX5_glue_1 : decode cX5_glue 1 = .ok (.invokestatic 58, 3) := by decide +kernel
theorem dX5_glue_4 : decode cX5_glue 4 = .ok (.ifCond .eq 18, 3) := by decide +kernel
theorem dX5_glue_7 : decode cX5_glue 7 = .ok (.lload_n 3, 1) := by decide +kernel
theorem dX5_glue_8 : decode cX5_glue 8 = .ok (.invokestatic 58, 3) := by decide +kernel
theorem dX5_glue_11 : decode cX5_glue 11 = .ok (.ifCond .eq 11, 3) := by decide +kernel
theorem dX5_glue_14 : decode cX5_glue 14 = .ok (.lload 6, 2) := by decide +kernel
theorem dX5_glue_16 : decode cX5_glue 16 = .ok (.invokestatic 58, 3) := by decide +kernel
theorem dX5_glue_19 : decode cX5_glue 19 = .ok (.ifCond .ne 13, 3) := by decide +kernel
theorem dX5_glue_22 : decode cX5_glue 22 = .ok (.new 62, 3) := by decide +kernel
theorem dX5_glue_25 : decode cX5_glue 25 = .ok (.dup, 1) := by decide +kernel
theorem dX5_glue_26 : decode cX5_glue 26 = .ok (.ldc 64, 2) := by decide +kernel
theorem dX5_glue_28 : decode cX5_glue 28 = .ok (.invokespecial 66, 3) := by decide +kernel
theorem dX5_glue_31 : decode cX5_glue 31 = .ok (.athrow, 1) := by decide +kernel
theorem dX5_glue_32 : decode cX5_glue 32 = .ok (.iload 5, 2) := by decide +kernel
theorem dX5_glue_34 : decode cX5_glue 34 = .ok (.i2l, 1) := by decide +kernel
theorem dX5_glue_35 : decode cX5_glue 35 = .ok (.lconst 0, 1) := by decide +kernel
theorem dX5_glue_36 : decode cX5_glue 36 = .ok (.ldc2_w 69, 3) := by decide +kernel
theorem dX5_glue_39 : decode cX5_glue 39 = .ok (.invokestatic 71, 3) := by decide +kernel
theorem dX5_glue_42 : decode cX5_glue 42 = .ok (.ifCond .eq 16, 3) := by decide +kernel
theorem dX5_glue_45 : decode cX5_glue 45 = .ok (.iload 8, 2) := by decide +kernel
theorem dX5_glue_47 : decode cX5_glue 47 = .ok (.i2l, 1) := by decide +kernel
theorem dX5_glue_48 : decode cX5_glue 48 = .ok (.lconst 0, 1) := by decide +kernel
theorem dX5_glue_49 : decode cX5_glue 49 = .ok (.ldc2_w 69, 3) := by decide +kernel
theorem dX5_glue_52 : decode cX5_glue 52 = .ok (.invokestatic 71, 3) := by decide +kernel
theorem dX5_glue_55 : decode cX5_glue 55 = .ok (.ifCond .ne 13, 3) := by decide +kernel
theorem dX5_glue_58 : decode cX5_glue 58 = .ok (.new 62, 3) := by decide +kernel
theorem dX5_glue_61 : decode cX5_glue 61 = .ok (.dup, 1) := by decide +kernel
theorem dX5_glue_62 : decode cX5_glue 62 = .ok (.ldc 75, 2) := by decide +kernel
theorem dX5_glue_64 : decode cX5_glue 64 = .ok (.invokespecial 66, 3) := by decide +kernel
theorem dX5_glue_67 : decode cX5_glue 67 = .ok (.athrow, 1) := by decide +kernel
theorem dX5_glue_68 : decode cX5_glue 68 = .ok (.aload_n 0, 1) := by decide +kernel
theorem dX5_glue_69 : decode cX5_glue 69 = .ok (.getfield 44, 3) := by decide +kernel
theorem dX5_glue_72 : decode cX5_glue 72 = .ok (.iconst 0, 1) := by decide +kernel
theorem dX5_glue_73 : decode cX5_glue 73 = .ok (.lload_n 1, 1) := by decide +kernel
theorem dX5_glue_74 : decode cX5_glue 74 = .ok (.lastore, 1) := by decide +kernel
theorem dX5_glue_75 : decode cX5_glue 75 = .ok (.aload_n 0, 1) := by decide +kernel
theorem dX5_glue_76 : decode cX5_glue 76 = .ok (.getfield 44, 3) := by decide +kernel
theorem dX5_glue_79 : decode cX5_glue 79 = .ok (.iconst 1, 1) := by decide +kernel
theorem dX5_glue_80 : decode cX5_glue 80 = .ok (.lload_n 3, 1) := by decide +kernel
theorem dX5_glue_81 : decode cX5_glue 81 = .ok (.lastore, 1) := by decide +kernel
theorem dX5_glue_82 : decode cX5_glue 82 = .ok (.aload_n 0, 1) := by decide +kernel
theorem dX5_glue_83 : decode cX5_glue 83 = .ok (.getfield 44, 3) := by decide +kernel
theorem dX5_glue_86 : decode cX5_glue 86 = .ok (.iconst 2, 1) := by decide +kernel
theorem dX5_glue_87 : decode cX5_glue 87 = .ok (.iload 5, 2) := by decide +kernel
theorem dX5_glue_89 : decode cX5_glue 89 = .ok (.i2l, 1) := by decide +kernel
theorem dX5_glue_90 : decode cX5_glue 90 = .ok (.lastore, 1) := by decide +kernel
theorem dX5_glue_91 : decode cX5_glue 91 = .ok (.aload_n 0, 1) := by decide +kernel
theorem dX5_glue_92 : decode cX5_glue 92 = .ok (.getfield 44, 3) := by decide +kernel
theorem dX5_glue_95 : decode cX5_glue 95 = .ok (.iconst 3, 1) := by decide +kernel
theorem dX5_glue_96 : decode cX5_glue 96 = .ok (.lload 6, 2) := by decide +kernel
theorem dX5_glue_98 : decode cX5_glue 98 = .ok (.lastore, 1) := by decide +kernel
theorem dX5_glue_99 : decode cX5_glue 99 = .ok (.aload_n 0, 1) := by decide +kernel
theorem dX5_glue_100 : decode cX5_glue 100 = .ok (.getfield 44, 3) := by decide +kernel
theorem dX5_glue_103 : decode cX5_glue 103 = .ok (.iconst 4, 1) := by decide +kernel
theorem dX5_glue_104 : decode cX5_glue 104 = .ok (.iload 8, 2) := by decide +kernel
theorem dX5_glue_106 : decode cX5_glue 106 = .ok (.i2l, 1) := by decide +kernel
theorem dX5_glue_107 : decode cX5_glue 107 = .ok (.lastore, 1) := by decide +kernel
theorem dX5_glue_108 : decode cX5_glue 108 = .ok (.return_, 1) := by decide +kernel
theorem dX5_set_0 : decode cX5_set 0 = .ok (.iload_n 1, 1) := by decide +kernel
theorem dX5_set_1 : decode cX5_set 1 = .ok (.iconst 4, 1) := by decide +kernel
theorem dX5_set_2 : decode cX5_set 2 = .ok (.invokestatic 77, 3) := by decide +kernel
theorem dX5_set_5 : decode cX5_set 5 = .ok (.iload_n 1, 1) := by decide +kernel
theorem dX5_set_6 : decode cX5_set 6 = .ok (.iconst 4, 1) := by decide +kernel
theorem dX5_set_7 : decode cX5_set 7 = .ok (.if_icmp .ne 26, 3) := by decide +kernel
theorem dX5_set_10 : decode cX5_set 10 = .ok (.lload_n 3, 1) := by decide +kernel
theorem dX5_set_11 : decode cX5_set 11 = .ok (.ldc2_w 81, 3) := by decide +kernel
theorem dX5_set_14 : decode cX5_set 14 = .ok (.ldc2_w 83, 3) := by decide +kernel
theorem dX5_set_17 : decode cX5_set 17 = .ok (.invokestatic 71, 3) := by decide +kernel
theorem dX5_set_20 : decode cX5_set 20 = .ok (.ifCond .ne 13, 3) := by decide +kernel
theorem dX5_set_23 : decode cX5_set 23 = .ok (.new 62, 3) := by decide +kernel
theorem dX5_set_26 : decode cX5_set 26 = .ok (.dup, 1) := by decide +kernel
theorem dX5_set_27 : decode cX5_set 27 = .ok (.ldc 85, 2) := by decide +kernel
theorem dX5_set_29 : decode cX5_set 29 = .ok (.invokespecial 66, 3) := by decide +kernel
theorem dX5_set_32 : decode cX5_set 32 = .ok (.athrow, 1) := by decide +kernel
theorem dX5_set_33 : decode cX5_set 33 = .ok (.iload_n 2, 1) := by decide +kernel
theorem dX5_set_34 : decode cX5_set 34 = .ok (.i2l, 1) := by decide +kernel
theorem dX5_set_35 : decode cX5_set 35 = .ok (.invokestatic 87, 3) := by decide +kernel
theorem dX5_set_38 : decode cX5_set 38 = .ok (.aload_n 0, 1) := by decide +kernel
theorem dX5_set_39 : decode cX5_set 39 = .ok (.iload_n 1, 1) := by decide +kernel
theorem dX5_set_40 : decode cX5_set 40 = .ok (.lload_n 3, 1) := by decide +kernel
theorem dX5_set_41 : decode cX5_set 41 = .ok (.invokevirtual 91, 3) := by decide +kernel
theorem dX5_set_44 : decode cX5_set 44 = .ok (.aload_n 0, 1) := by decide +kernel
theorem dX5_set_45 : decode cX5_set 45 = .ok (.iload_n 1, 1) := by decide +kernel
theorem dX5_set_46 : decode cX5_set 46 = .ok (.iload_n 2, 1) := by decide +kernel
theorem dX5_set_47 : decode cX5_set 47 = .ok (.iload 5, 2) := by decide +kernel
theorem dX5_set_49 : decode cX5_set 49 = .ok (.invokevirtual 95, 3) := by decide +kernel
theorem dX5_set_52 : decode cX5_set 52 = .ok (.istore 6, 2) := by decide +kernel
theorem dX5_set_54 : decode cX5_set 54 = .ok (.iload_n 1, 1) := by decide +kernel
theorem dX5_set_55 : decode cX5_set 55 = .ok (.iconst 3, 1) := by decide +kernel
theorem dX5_set_56 : decode cX5_set 56 = .ok (.if_icmp .ne 10, 3) := by decide +kernel
theorem dX5_set_59 : decode cX5_set 59 = .ok (.aload_n 0, 1) := by decide +kernel
theorem dX5_set_60 : decode cX5_set 60 = .ok (.getfield 48, 3) := by decide +kernel
theorem dX5_set_63 : decode cX5_set 63 = .ok (.iconst 0, 1) := by decide +kernel
theorem dX5_set_64 : decode cX5_set 64 = .ok (.lconst 0, 1) := by decide +kernel
theorem dX5_set_65 : decode cX5_set 65 = .ok (.lastore, 1) := by decide +kernel
theorem dX5_set_66 : decode cX5_set 66 = .ok (.iload 6, 2) := by decide +kernel
theorem dX5_set_68 : decode cX5_set 68 = .ok (.ireturn, 1) := by decide +kernel
theorem dX5_get_0 : decode cX5_get 0 = .ok (.iload_n 1, 1) := by decide +kernel
theorem dX5_get_1 : decode cX5_get 1 = .ok (.iconst 4, 1) := by decide +kernel
theorem dX5_get_2 : decode cX5_get 2 = .ok (.invokestatic 77, 3) := by decide +kernel
theorem dX5_get_5 : decode cX5_get 5 = .ok (.iload_n 2, 1) := by decide +kernel
theorem dX5_get_6 : decode cX5_get 6 = .ok (.i2l, 1) := by decide +kernel
theorem dX5_get_7 : decode cX5_get 7 = .ok (.invokestatic 87, 3) := by decide +kernel
theorem dX5_get_10 : decode cX5_get 10 = .ok (.aload_n 0, 1) := by decide +kernel
theorem dX5_get_11 : decode cX5_get 11 = .ok (.getfield 10, 3) := by decide +kernel
theorem dX5_get_14 : decode cX5_get 14 = .ok (.getfield 99, 3) := by decide +kernel
theorem dX5_get_17 : decode cX5_get 17 = .ok (.iload_n 1, 1) := by decide +kernel
theorem dX5_get_18 : decode cX5_get 18 = .ok (.iload_n 2, 1) := by decide +kernel
theorem dX5_get_19 : decode cX5_get 19 = .ok (.invokestatic 102, 3) := by decide +kernel
theorem dX5_get_22 : decode cX5_get 22 = .ok (.laload, 1) := by decide +kernel
theorem dX5_get_23 : decode cX5_get 23 = .ok (.lreturn, 1) := by decide +kernel
theorem dX5_part_0 : decode cX5_part 0 = .ok (.iload_n 1, 1) := by decide +kernel
theorem dX5_part_1 : decode cX5_part 1 = .ok (.i2l, 1) := by decide +kernel
theorem dX5_part_2 : decode cX5_part 2 = .ok (.invokestatic 87, 3) := by decide +kernel
theorem dX5_part_5 : decode cX5_part 5 = .ok (.iload_n 2, 1) := by decide +kernel
theorem dX5_part_6 : decode cX5_part 6 = .ok (.i2l, 1) := by decide +kernel
theorem dX5_part_7 : decode cX5_part 7 = .ok (.lconst 0, 1) := by decide +kernel
theorem dX5_part_8 : decode cX5_part 8 = .ok (.ldc2_w 106, 3) := by decide +kernel
theorem dX5_part_11 : decode cX5_part 11 = .ok (.invokestatic 71, 3) := by decide +kernel
theorem dX5_part_14 : decode cX5_part 14 = .ok (.ifCond .ne 13, 3) := by decide +kernel
theorem dX5_part_17 : decode cX5_part 17 = .ok (.new 108, 3) := by decide +kernel
theorem dX5_part_20 : decode cX5_part 20 = .ok (.dup, 1) := by decide +kernel
theorem dX5_part_21 : decode cX5_part 21 = .ok (.ldc 110, 2) := by decide +kernel
theorem dX5_part_23 : decode cX5_part 23 = .ok (.invokespecial 112, 3) := by decide +kernel
theorem dX5_part_26 : decode cX5_part 26 = .ok (.athrow, 1) := by decide +kernel
theorem dX5_part_27 : decode cX5_part 27 = .ok (.aload_n 0, 1) := by decide +kernel
theorem dX5_part_28 : decode cX5_part 28 = .ok (.getfield 10, 3) := by decide +kernel
theorem dX5_part_31 : decode cX5_part 31 = .ok (.getfield 99, 3) := by decide +kernel
theorem dX5_part_34 : decode cX5_part 34 = .ok (.iconst 2, 1) := by decide +kernel
theorem dX5_part_35 : decode cX5_part 35 = .ok (.iload_n 1, 1) := by decide +kernel
theorem dX5_part_36 : decode cX5_part 36 = .ok (.invokestatic 102, 3) := by decide +kernel
theorem dX5_part_39 : decode cX5_part 39 = .ok (.iload_n 2, 1) := by decide +kernel
theorem dX5_part_40 : decode cX5_part 40 = .ok (.iadd, 1) := by decide +kernel
theorem dX5_part_41 : decode cX5_part 41 = .ok (.laload, 1) := by decide +kernel
theorem dX5_part_42 : decode cX5_part 42 = .ok (.lreturn, 1) := by decide +kernel
theorem dX5_at_0 : decode cX5_at 0 = .ok (.iload_n 1, 1) := by decide +kernel
theorem dX5_at_1 : decode cX5_at 1 = .ok (.i2l, 1) := by decide +kernel
theorem dX5_at_2 : decode cX5_at 2 = .ok (.invokestatic 87, 3) := by decide +kernel
theorem dX5_at_5 : decode cX5_at 5 = .ok (.iconst 3, 1) := by decide +kernel
theorem dX5_at_6 : decode cX5_at 6 = .ok (.iload_n 1, 1) := by decide +kernel
theorem dX5_at_7 : decode cX5_at 7 = .ok (.invokestatic 102, 3) := by decide +kernel
theorem dX5_at_10 : decode cX5_at 10 = .ok (.istore_n 3, 1) := by decide +kernel
theorem dX5_at_11 : decode cX5_at 11 = .ok (.iload_n 2, 1) := by decide +kernel
theorem dX5_at_12 : decode cX5_at 12 = .ok (.ifCond .lt 24, 3) := by decide +kernel
theorem dX5_at_15 : decode cX5_at 15 = .ok (.iload_n 2, 1) := by decide +kernel
theorem dX5_at_16 : decode cX5_at 16 = .ok (.bipush 20, 2) := by decide +kernel
theorem dX5_at_18 : decode cX5_at 18 = .ok (.if_icmp .ge 18, 3) := by decide +kernel
theorem dX5_at_21 : decode cX5_at 21 = .ok (.iload_n 2, 1) := by decide +kernel
theorem dX5_at_22 : decode cX5_at 22 = .ok (.i2l, 1) := by decide +kernel
theorem dX5_at_23 : decode cX5_at 23 = .ok (.aload_n 0, 1) := by decide +kernel
theorem dX5_at_24 : decode cX5_at 24 = .ok (.getfield 10, 3) := by decide +kernel
theorem dX5_at_27 : decode cX5_at 27 = .ok (.getfield 99, 3) := by decide +kernel
theorem dX5_at_30 : decode cX5_at 30 = .ok (.iload_n 3, 1) := by decide +kernel
theorem dX5_at_31 : decode cX5_at 31 = .ok (.laload, 1) := by decide +kernel
theorem dX5_at_32 : decode cX5_at 32 = .ok (.lcmp, 1) := by decide +kernel
theorem dX5_at_33 : decode cX5_at 33 = .ok (.ifCond .lt 13, 3) := by decide +kernel
theorem dX5_at_36 : decode cX5_at 36 = .ok (.new 108, 3) := by decide +kernel
theorem dX5_at_39 : decode cX5_at 39 = .ok (.dup, 1) := by decide +kernel
theorem dX5_at_40 : decode cX5_at 40 = .ok (.ldc 113, 2) := by decide +kernel
theorem dX5_at_42 : decode cX5_at 42 = .ok (.invokespecial 112, 3) := by decide +kernel
theorem dX5_at_45 : decode cX5_at 45 = .ok (.athrow, 1) := by decide +kernel
theorem dX5_at_46 : decode cX5_at 46 = .ok (.aload_n 0, 1) := by decide +kernel
theorem dX5_at_47 : decode cX5_at 47 = .ok (.getfield 10, 3) := by decide +kernel
theorem dX5_at_50 : decode cX5_at 50 = .ok (.getfield 99, 3) := by decide +kernel
theorem dX5_at_53 : decode cX5_at 53 = .ok (.iload_n 3, 1) := by decide +kernel
theorem dX5_at_54 : decode cX5_at 54 = .ok (.iconst 1, 1) := by decide +kernel
theorem dX5_at_55 : decode cX5_at 55 = .ok (.iadd, 1) := by decide +kernel
theorem dX5_at_56 : decode cX5_at 56 = .ok (.iload_n 2, 1) := by decide +kernel
theorem dX5_at_57 : decode cX5_at 57 = .ok (.iadd, 1) := by decide +kernel
theorem dX5_at_58 : decode cX5_at 58 = .ok (.laload, 1) := by decide +kernel
theorem dX5_at_59 : decode cX5_at 59 = .ok (.l2i, 1) := by decide +kernel
theorem dX5_at_60 : decode cX5_at 60 = .ok (.ireturn, 1) := by decide +kernel
theorem dX5_add_0 : decode cX5_add 0 = .ok (.iload_n 1, 1) := by decide +kernel
theorem dX5_add_1 : decode cX5_add 1 = .ok (.iconst 2, 1) := by decide +kernel
theorem dX5_add_2 : decode cX5_add 2 = .ok (.invokestatic 77, 3) := by decide +kernel
theorem dX5_add_5 : decode cX5_add 5 = .ok (.iload_n 2, 1) := by decide +kernel
theorem dX5_add_6 : decode cX5_add 6 = .ok (.i2l, 1) := by decide +kernel
theorem dX5_add_7 : decode cX5_add 7 = .ok (.invokestatic 87, 3) := by decide +kernel
theorem dX5_add_10 : decode cX5_add 10 = .ok (.iload_n 1, 1) := by decide +kernel
theorem dX5_add_11 : decode cX5_add 11 = .ok (.iconst 2, 1) := by decide +kernel
theorem dX5_add_12 : decode cX5_add 12 = .ok (.if_icmp .ne 39, 3) := by decide +kernel
theorem dX5_add_15 : decode cX5_add 15 = .ok (.lload_n 3, 1) := by decide +kernel
theorem dX5_add_16 : decode cX5_add 16 = .ok (.invokestatic 87, 3) := by decide +kernel
theorem dX5_add_19 : decode cX5_add 19 = .ok (.aload_n 0, 1) := by decide +kernel
theorem dX5_add_20 : decode cX5_add 20 = .ok (.getfield 10, 3) := by decide +kernel
theorem dX5_add_23 : decode cX5_add 23 = .ok (.aload_n 0, 1) := by decide +kernel
theorem dX5_add_24 : decode cX5_add 24 = .ok (.getfield 51, 3) := by decide +kernel
theorem dX5_add_27 : decode cX5_add 27 = .ok (.iconst 2, 1) := by decide +kernel
theorem dX5_add_28 : decode cX5_add 28 = .ok (.iload_n 2, 1) := by decide +kernel
theorem dX5_add_29 : decode cX5_add 29 = .ok (.invokevirtual 115, 3) := by decide +kernel
theorem dX5_add_32 : decode cX5_add 32 = .ok (.aload_n 0, 1) := by decide +kernel
theorem dX5_add_33 : decode cX5_add 33 = .ok (.iconst 2, 1) := by decide +kernel
theorem dX5_add_34 : decode cX5_add 34 = .ok (.lload_n 3, 1) := by decide +kernel
theorem dX5_add_35 : decode cX5_add 35 = .ok (.l2i, 1) := by decide +kernel
theorem dX5_add_36 : decode cX5_add 36 = .ok (.invokestatic 102, 3) := by decide +kernel
theorem dX5_add_39 : decode cX5_add 39 = .ok (.invokevirtual 119, 3) := by decide +kernel
theorem dX5_add_42 : decode cX5_add 42 = .ok (.aload_n 0, 1) := by decide +kernel
theorem dX5_add_43 : decode cX5_add 43 = .ok (.iload_n 1, 1) := by decide +kernel
theorem dX5_add_44 : decode cX5_add 44 = .ok (.iload_n 2, 1) := by decide +kernel
theorem dX5_add_45 : decode cX5_add 45 = .ok (.iload 5, 2) := by decide +kernel
theorem dX5_add_47 : decode cX5_add 47 = .ok (.invokevirtual 95, 3) := by decide +kernel
theorem dX5_add_50 : decode cX5_add 50 = .ok (.ireturn, 1) := by decide +kernel
theorem dX5_add_51 : decode cX5_add 51 = .ok (.lload_n 3, 1) := by decide +kernel
theorem dX5_add_52 : decode cX5_add 52 = .ok (.ldc2_w 122, 3) := by decide +kernel
theorem dX5_add_55 : decode cX5_add 55 = .ok (.ldc2_w 124, 3) := by decide +kernel
theorem dX5_add_58 : decode cX5_add 58 = .ok (.invokestatic 71, 3) := by decide +kernel
theorem dX5_add_61 : decode cX5_add 61 = .ok (.ifCond .ne 5, 3) := by decide +kernel
theorem dX5_add_64 : decode cX5_add 64 = .ok (.iconst 0, 1) := by decide +kernel
theorem dX5_add_65 : decode cX5_add 65 = .ok (.ireturn, 1) := by decide +kernel
theorem dX5_add_66 : decode cX5_add 66 = .ok (.aload_n 0, 1) := by decide +kernel
theorem dX5_add_67 : decode cX5_add 67 = .ok (.getfield 10, 3) := by decide +kernel
theorem dX5_add_70 : decode cX5_add 70 = .ok (.aload_n 0, 1) := by decide +kernel
theorem dX5_add_71 : decode cX5_add 71 = .ok (.getfield 51, 3) := by decide +kernel
theorem dX5_add_74 : decode cX5_add 74 = .ok (.iload_n 1, 1) := by decide +kernel
theorem dX5_add_75 : decode cX5_add 75 = .ok (.iload_n 2, 1) := by decide +kernel
theorem dX5_add_76 : decode cX5_add 76 = .ok (.invokevirtual 115, 3) := by decide +kernel
theorem dX5_add_79 : decode cX5_add 79 = .ok (.aload_n 0, 1) := by decide +kernel
theorem dX5_add_80 : decode cX5_add 80 = .ok (.getfield 51, 3) := by decide +kernel
theorem dX5_add_83 : decode cX5_add 83 = .ok (.iconst 0, 1) := by decide +kernel
theorem dX5_add_84 : decode cX5_add 84 = .ok (.dup2, 1) := by decide +kernel
theorem dX5_add_85 : decode cX5_add 85 = .ok (.laload, 1) := by decide +kernel
theorem dX5_add_86 : decode cX5_add 86 = .ok (.lload_n 3, 1) := by decide +kernel
theorem dX5_add_87 : decode cX5_add 87 = .ok (.ladd, 1) := by decide +kernel
theorem dX5_add_88 : decode cX5_add 88 = .ok (.lastore, 1) := by decide +kernel
theorem dX5_add_89 : decode cX5_add 89 = .ok (.aload_n 0, 1) := by decide +kernel
theorem dX5_add_90 : decode cX5_add 90 = .ok (.iload_n 1, 1) := by decide +kernel
theorem dX5_add_91 : decode cX5_add 91 = .ok (.iload_n 2, 1) := by decide +kernel
theorem dX5_add_92 : decode cX5_add 92 = .ok (.iload 5, 2) := by decide +kernel
theorem dX5_add_94 : decode cX5_add 94 = .ok (.invokevirtual 95, 3) := by decide +kernel
theorem dX5_add_97 : decode cX5_add 97 = .ok (.ireturn, 1) := by decide +kernel
theorem dX5_multiply_0 : decode cX5_multiply 0 = .ok (.iload_n 1, 1) := by decide +kernel
theorem dX5_multiply_1 : decode cX5_multiply 1 = .ok (.iconst 2, 1) := by decide +kernel
theorem dX5_multiply_2 : decode cX5_multiply 2 = .ok (.invokestatic 77, 3) := by decide +kernel
theorem dX5_multiply_5 : decode cX5_multiply 5 = .ok (.iload_n 2, 1) := by decide +kernel
theorem dX5_multiply_6 : decode cX5_multiply 6 = .ok (.i2l, 1) := by decide +kernel
theorem dX5_multiply_7 : decode cX5_multiply 7 = .ok (.invokestatic 87, 3) := by decide +kernel
theorem dX5_multiply_10 : decode cX5_multiply 10 = .ok (.lload_n 3, 1) := by decide +kernel
theorem dX5_multiply_11 : decode cX5_multiply 11 = .ok (.invokestatic 126, 3) := by decide +kernel
theorem dX5_multiply_14 : decode cX5_multiply 14 = .ok (.ifCond .ne 5, 3) := by decide +kernel
theorem dX5_multiply_17 : decode cX5_multiply 17 = .ok (.iconst 0, 1) := by decide +kernel
theorem dX5_multiply_18 : decode cX5_multiply 18 = .ok (.ireturn, 1) := by decide +kernel
theorem dX5_multiply_19 : decode cX5_multiply 19 = .ok (.aload_n 0, 1) := by decide +kernel
theorem dX5_multiply_20 : decode cX5_multiply 20 = .ok (.getfield 10, 3) := by decide +kernel
theorem dX5_multiply_23 : decode cX5_multiply 23 = .ok (.aload_n 0, 1) := by decide +kernel
theorem dX5_multiply_24 : decode cX5_multiply 24 = .ok (.getfield 51, 3) := by decide +kernel
theorem dX5_multiply_27 : decode cX5_multiply 27 = .ok (.iload_n 1, 1) := by decide +kernel
theorem dX5_multiply_28 : decode cX5_multiply 28 = .ok (.iload_n 2, 1) := by decide +kernel
theorem dX5_multiply_29 : decode cX5_multiply 29 = .ok (.invokevirtual 115, 3) := by decide +kernel
theorem dX5_multiply_32 : decode cX5_multiply 32 = .ok (.aload_n 0, 1) := by decide +kernel
theorem dX5_multiply_33 : decode cX5_multiply 33 = .ok (.getfield 51, 3) := by decide +kernel
theorem dX5_multiply_36 : decode cX5_multiply 36 = .ok (.iconst 0, 1) := by decide +kernel
theorem dX5_multiply_37 : decode cX5_multiply 37 = .ok (.dup2, 1) := by decide +kernel
theorem dX5_multiply_38 : decode cX5_multiply 38 = .ok (.laload, 1) := by decide +kernel
theorem dX5_multiply_39 : decode cX5_multiply 39 = .ok (.lload_n 3, 1) := by decide +kernel
theorem dX5_multiply_40 : decode cX5_multiply 40 = .ok (.lmul, 1) := by decide +kernel
theorem dX5_multiply_41 : decode cX5_multiply 41 = .ok (.lastore, 1) := by decide +kernel
theorem dX5_multiply_42 : decode cX5_multiply 42 = .ok (.iload_n 1, 1) := by decide +kernel
theorem dX5_multiply_43 : decode cX5_multiply 43 = .ok (.iconst 2, 1) := by decide +kernel
theorem dX5_multiply_44 : decode cX5_multiply 44 = .ok (.if_icmp .ne 23, 3) := by decide +kernel
theorem dX5_multiply_47 : decode cX5_multiply 47 = .ok (.aload_n 0, 1) := by decide +kernel
theorem dX5_multiply_48 : decode cX5_multiply 48 = .ok (.getfield 51, 3) := by decide +kernel
theorem dX5_multiply_51 : decode cX5_multiply 51 = .ok (.iconst 1, 1) := by decide +kernel
theorem dX5_multiply_52 : decode cX5_multiply 52 = .ok (.dup2, 1) := by decide +kernel
theorem dX5_multiply_53 : decode cX5_multiply 53 = .ok (.laload, 1) := by decide +kernel
theorem dX5_multiply_54 : decode cX5_multiply 54 = .ok (.lload_n 3, 1) := by decide +kernel
theorem dX5_multiply_55 : decode cX5_multiply 55 = .ok (.lmul, 1) := by decide +kernel
theorem dX5_multiply_56 : decode cX5_multiply 56 = .ok (.lastore, 1) := by decide +kernel
theorem dX5_multiply_57 : decode cX5_multiply 57 = .ok (.aload_n 0, 1) := by decide +kernel
theorem dX5_multiply_58 : decode cX5_multiply 58 = .ok (.getfield 51, 3) := by decide +kernel
theorem dX5_multiply_61 : decode cX5_multiply 61 = .ok (.iconst 3, 1) := by decide +kernel
theorem dX5_multiply_62 : decode cX5_multiply 62 = .ok (.dup2, 1) := by decide +kernel
theorem dX5_multiply_63 : decode cX5_multiply 63 = .ok (.laload, 1) := by decide +kernel
theorem dX5_multiply_64 : decode cX5_multiply 64 = .ok (.lload_n 3, 1) := by decide +kernel
theorem dX5_multiply_65 : decode cX5_multiply 65 = .ok (.lmul, 1) := by decide +kernel
theorem dX5_multiply_66 : decode cX5_multiply 66 = .ok (.lastore, 1) := by decide +kernel
theorem dX5_multiply_67 : decode cX5_multiply 67 = .ok (.aload_n 0, 1) := by decide +kernel
theorem dX5_multiply_68 : decode cX5_multiply 68 = .ok (.iload_n 1, 1) := by decide +kernel
theorem dX5_multiply_69 : decode cX5_multiply 69 = .ok (.iload_n 2, 1) := by decide +kernel
theorem dX5_multiply_70 : decode cX5_multiply 70 = .ok (.iload 5, 2) := by decide +kernel
theorem dX5_multiply_72 : decode cX5_multiply 72 = .ok (.invokevirtual 95, 3) := by decide +kernel
theorem dX5_multiply_75 : decode cX5_multiply 75 = .ok (.ireturn, 1) := by decide +kernel
theorem dX5_divide_0 : decode cX5_divide 0 = .ok (.iload_n 1, 1) := by decide +kernel
theorem dX5_divide_1 : decode cX5_divide 1 = .ok (.iconst 2, 1) := by decide +kernel
theorem dX5_divide_2 : decode cX5_divide 2 = .ok (.invokestatic 77, 3) := by decide +kernel
theorem dX5_divide_5 : decode cX5_divide 5 = .ok (.iload_n 2, 1) := by decide +kernel
theorem dX5_divide_6 : decode cX5_divide 6 = .ok (.i2l, 1) := by decide +kernel
theorem dX5_divide_7 : decode cX5_divide 7 = .ok (.invokestatic 87, 3) := by decide +kernel
theorem dX5_divide_10 : decode cX5_divide 10 = .ok (.lload_n 3, 1) := by decide +kernel
theorem dX5_divide_11 : decode cX5_divide 11 = .ok (.lconst 0, 1) := by decide +kernel
theorem dX5_divide_12 : decode cX5_divide 12 = .ok (.lcmp, 1) := by decide +kernel
theorem dX5_divide_13 : decode cX5_divide 13 = .ok (.ifCond .ne 13, 3) := by decide +kernel
theorem dX5_divide_16 : decode cX5_divide 16 = .ok (.new 129, 3) := by decide +kernel
theorem dX5_divide_19 : decode cX5_divide 19 = .ok (.dup, 1) := by decide +kernel
theorem dX5_divide_20 : decode cX5_divide 20 = .ok (.ldc 131, 2) := by decide +kernel
theorem dX5_divide_22 : decode cX5_divide 22 = .ok (.invokespecial 133, 3) := by decide +kernel
theorem dX5_divide_25 : decode cX5_divide 25 = .ok (.athrow, 1) := by decide +kernel
theorem dX5_divide_26 : decode cX5_divide 26 = .ok (.aload_n 0, 1) := by decide +kernel
theorem dX5_divide_27 : decode cX5_divide 27 = .ok (.getfield 10, 3) := by decide +kernel
theorem dX5_divide_30 : decode cX5_divide 30 = .ok (.aload_n 0, 1) := by decide +kernel
theorem dX5_divide_31 : decode cX5_divide 31 = .ok (.getfield 51, 3) := by decide +kernel
theorem dX5_divide_34 : decode cX5_divide 34 = .ok (.iload_n 1, 1) := by decide +kernel
theorem dX5_divide_35 : decode cX5_divide 35 = .ok (.iload_n 2, 1) := by decide +kernel
theorem dX5_divide_36 : decode cX5_divide 36 = .ok (.invokevirtual 115, 3) := by decide +kernel
theorem dX5_divide_39 : decode cX5_divide 39 = .ok (.aload_n 0, 1) := by decide +kernel
theorem dX5_divide_40 : decode cX5_divide 40 = .ok (.getfield 51, 3) := by decide +kernel
theorem dX5_divide_43 : decode cX5_divide 43 = .ok (.iconst 0, 1) := by decide +kernel
theorem dX5_divide_44 : decode cX5_divide 44 = .ok (.dup2, 1) := by decide +kernel
theorem dX5_divide_45 : decode cX5_divide 45 = .ok (.laload, 1) := by decide +kernel
theorem dX5_divide_46 : decode cX5_divide 46 = .ok (.lload_n 3, 1) := by decide +kernel
theorem dX5_divide_47 : decode cX5_divide 47 = .ok (.ldiv, 1) := by decide +kernel
theorem dX5_divide_48 : decode cX5_divide 48 = .ok (.lastore, 1) := by decide +kernel
theorem dX5_divide_49 : decode cX5_divide 49 = .ok (.iload_n 1, 1) := by decide +kernel
theorem dX5_divide_50 : decode cX5_divide 50 = .ok (.iconst 2, 1) := by decide +kernel
theorem dX5_divide_51 : decode cX5_divide 51 = .ok (.if_icmp .ne 23, 3) := by decide +kernel
theorem dX5_divide_54 : decode cX5_divide 54 = .ok (.aload_n 0, 1) := by decide +kernel
theorem dX5_divide_55 : decode cX5_divide 55 = .ok (.getfield 51, 3) := by decide +kernel
theorem dX5_divide_58 : decode cX5_divide 58 = .ok (.iconst 1, 1) := by decide +kernel
theorem dX5_divide_59 : decode cX5_divide 59 = .ok (.dup2, 1) := by decide +kernel
theorem dX5_divide_60 : decode cX5_divide 60 = .ok (.laload, 1) := by decide +kernel
theorem dX5_divide_61 : decode cX5_divide 61 = .ok (.lload_n 3, 1) := by decide +kernel
theorem dX5_divide_62 : decode cX5_divide 62 = .ok (.ldiv, 1) := by decide +kernel
theorem dX5_divide_63 : decode cX5_divide 63 = .ok (.lastore, 1) := by decide +kernel
theorem dX5_divide_64 : decode cX5_divide 64 = .ok (.aload_n 0, 1) := by decide +kernel
theorem dX5_divide_65 : decode cX5_divide 65 = .ok (.getfield 51, 3) := by decide +kernel
theorem dX5_divide_68 : decode cX5_divide 68 = .ok (.iconst 3, 1) := by decide +kernel
theorem dX5_divide_69 : decode cX5_divide 69 = .ok (.dup2, 1) := by decide +kernel
theorem dX5_divide_70 : decode cX5_divide 70 = .ok (.laload, 1) := by decide +kernel
theorem dX5_divide_71 : decode cX5_divide 71 = .ok (.lload_n 3, 1) := by decide +kernel
theorem dX5_divide_72 : decode cX5_divide 72 = .ok (.ldiv, 1) := by decide +kernel
theorem dX5_divide_73 : decode cX5_divide 73 = .ok (.lastore, 1) := by decide +kernel
theorem dX5_divide_74 : decode cX5_divide 74 = .ok (.aload_n 0, 1) := by decide +kernel
theorem dX5_divide_75 : decode cX5_divide 75 = .ok (.iload_n 1, 1) := by decide +kernel
theorem dX5_divide_76 : decode cX5_divide 76 = .ok (.iload_n 2, 1) := by decide +kernel
theorem dX5_divide_77 : decode cX5_divide 77 = .ok (.iload 5, 2) := by decide +kernel
theorem dX5_divide_79 : decode cX5_divide 79 = .ok (.invokevirtual 95, 3) := by decide +kernel
theorem dX5_divide_82 : decode cX5_divide 82 = .ok (.ireturn, 1) := by decide +kernel
theorem dX5_take_0 : decode cX5_take 0 = .ok (.iload_n 1, 1) := by decide +kernel
theorem dX5_take_1 : decode cX5_take 1 = .ok (.i2l, 1) := by decide +kernel
theorem dX5_take_2 : decode cX5_take 2 = .ok (.invokestatic 87, 3) := by decide +kernel
theorem dX5_take_5 : decode cX5_take 5 = .ok (.iconst 4, 1) := by decide +kernel
theorem dX5_take_6 : decode cX5_take 6 = .ok (.iload_n 1, 1) := by decide +kernel
theorem dX5_take_7 : decode cX5_take 7 = .ok (.invokestatic 102, 3) := by decide +kernel
theorem dX5_take_10 : decode cX5_take 10 = .ok (.istore_n 2, 1) := by decide +kernel
theorem dX5_take_11 : decode cX5_take 11 = .ok (.aload_n 0, 1) := by decide +kernel
theorem dX5_take_12 : decode cX5_take 12 = .ok (.getfield 10, 3) := by decide +kernel
theorem dX5_take_15 : decode cX5_take 15 = .ok (.getfield 99, 3) := by decide +kernel
theorem dX5_take_18 : decode cX5_take 18 = .ok (.iload_n 2, 1) := by decide +kernel
theorem dX5_take_19 : decode cX5_take 19 = .ok (.laload, 1) := by decide +kernel
theorem dX5_take_20 : decode cX5_take 20 = .ok (.l2i, 1) := by decide +kernel
theorem dX5_take_21 : decode cX5_take 21 = .ok (.istore_n 3, 1) := by decide +kernel
theorem dX5_take_22 : decode cX5_take 22 = .ok (.aload_n 0, 1) := by decide +kernel
theorem dX5_take_23 : decode cX5_take 23 = .ok (.getfield 10, 3) := by decide +kernel
theorem dX5_take_26 : decode cX5_take 26 = .ok (.getfield 99, 3) := by decide +kernel
theorem dX5_take_29 : decode cX5_take 29 = .ok (.iload_n 2, 1) := by decide +kernel
theorem dX5_take_30 : decode cX5_take 30 = .ok (.ldc2_w 81, 3) := by decide +kernel
theorem dX5_take_33 : decode cX5_take 33 = .ok (.lastore, 1) := by decide +kernel
theorem dX5_take_34 : decode cX5_take 34 = .ok (.iload_n 3, 1) := by decide +kernel
theorem dX5_take_35 : decode cX5_take 35 = .ok (.iconst (-1), 1) := by decide +kernel
theorem dX5_take_36 : decode cX5_take 36 = .ok (.if_icmp .ne 7, 3) := by decide +kernel
theorem dX5_take_39 : decode cX5_take 39 = .ok (.iconst (-1), 1) := by decide +kernel
theorem dX5_take_40 : decode cX5_take 40 = .ok (.goto 4, 3) := by decide +kernel
theorem dX5_take_43 : decode cX5_take 43 = .ok (.iload_n 3, 1) := by decide +kernel
theorem dX5_take_44 : decode cX5_take 44 = .ok (.ireturn, 1) := by decide +kernel
theorem dX5_group_0 : decode cX5_group 0 = .ok (.aload_n 0, 1) := by decide +kernel
theorem dX5_group_1 : decode cX5_group 1 = .ok (.getfield 26, 3) := by decide +kernel
theorem dX5_group_4 : decode cX5_group 4 = .ok (.getfield 134, 3) := by decide +kernel
theorem dX5_group_7 : decode cX5_group 7 = .ok (.ifCond .lt 15, 3) := by decide +kernel
theorem dX5_group_10 : decode cX5_group 10 = .ok (.aload_n 0, 1) := by decide +kernel
theorem dX5_group_11 : decode cX5_group 11 = .ok (.getfield 26, 3) := by decide +kernel
theorem dX5_group_14 : decode cX5_group 14 = .ok (.getfield 134, 3) := by decide +kernel
theorem dX5_group_17 : decode cX5_group 17 = .ok (.bipush 20, 2) := by decide +kernel
theorem dX5_group_19 : decode cX5_group 19 = .ok (.if_icmp .lt 13, 3) := by decide +kernel
theorem dX5_group_22 : decode cX5_group 22 = .ok (.new 138, 3) := by decide +kernel
theorem dX5_group_25 : decode cX5_group 25 = .ok (.dup, 1) := by decide +kernel
theorem dX5_group_26 : decode cX5_group 26 = .ok (.ldc 140, 2) := by decide +kernel
theorem dX5_group_28 : decode cX5_group 28 = .ok (.invokespecial 142, 3) := by decide +kernel
theorem dX5_group_31 : decode cX5_group 31 = .ok (.athrow, 1) := by decide +kernel
theorem dX5_group_32 : decode cX5_group 32 = .ok (.aload_n 0, 1) := by decide +kernel
theorem dX5_group_33 : decode cX5_group 33 = .ok (.getfield 26, 3) := by decide +kernel
theorem dX5_group_36 : decode cX5_group 36 = .ok (.aload_n 0, 1) := by decide +kernel
theorem dX5_group_37 : decode cX5_group 37 = .ok (.getfield 19, 3) := by decide +kernel
theorem dX5_group_40 : decode cX5_group 40 = .ok (.getfield 143, 3) := by decide +kernel
theorem dX5_group_43 : decode cX5_group 43 = .ok (.invokevirtual 146, 3) := by decide +kernel
theorem dX5_group_46 : decode cX5_group 46 = .ok (.aload_n 0, 1) := by decide +kernel
theorem dX5_group_47 : decode cX5_group 47 = .ok (.getfield 26, 3) := by decide +kernel
theorem dX5_group_50 : decode cX5_group 50 = .ok (.getfield 134, 3) := by decide +kernel
theorem dX5_group_53 : decode cX5_group 53 = .ok (.ireturn, 1) := by decide +kernel
theorem dX5_after_0 : decode cX5_after 0 = .ok (.iload_n 1, 1) := by decide +kernel
theorem dX5_after_1 : decode cX5_after 1 = .ok (.invokestatic 54, 3) := by decide +kernel
theorem dX5_after_4 : decode cX5_after 4 = .ok (.aload_n 0, 1) := by decide +kernel
theorem dX5_after_5 : decode cX5_after 5 = .ok (.getfield 26, 3) := by decide +kernel
theorem dX5_after_8 : decode cX5_after 8 = .ok (.getfield 134, 3) := by decide +kernel
theorem dX5_after_11 : decode cX5_after 11 = .ok (.ifCond .gt 13, 3) := by decide +kernel
theorem dX5_after_14 : decode cX5_after 14 = .ok (.new 149, 3) := by decide +kernel
theorem dX5_after_17 : decode cX5_after 17 = .ok (.dup, 1) := by decide +kernel
theorem dX5_after_18 : decode cX5_after 18 = .ok (.ldc 151, 2) := by decide +kernel
theorem dX5_after_20 : decode cX5_after 20 = .ok (.invokespecial 153, 3) := by decide +kernel
theorem dX5_after_23 : decode cX5_after 23 = .ok (.athrow, 1) := by decide +kernel
theorem dX5_after_24 : decode cX5_after 24 = .ok (.aload_n 0, 1) := by decide +kernel
theorem dX5_after_25 : decode cX5_after 25 = .ok (.getfield 26, 3) := by decide +kernel
theorem dX5_after_28 : decode cX5_after 28 = .ok (.getfield 154, 3) := by decide +kernel
theorem dX5_after_31 : decode cX5_after 31 = .ok (.ifCond .lt 15, 3) := by decide +kernel
theorem dX5_after_34 : decode cX5_after 34 = .ok (.aload_n 0, 1) := by decide +kernel
theorem dX5_after_35 : decode cX5_after 35 = .ok (.getfield 26, 3) := by decide +kernel
theorem dX5_after_38 : decode cX5_after 38 = .ok (.getfield 154, 3) := by decide +kernel
theorem dX5_after_41 : decode cX5_after 41 = .ok (.bipush 60, 2) := by decide +kernel
theorem dX5_after_43 : decode cX5_after 43 = .ok (.if_icmp .lt 13, 3) := by decide +kernel
theorem dX5_after_46 : decode cX5_after 46 = .ok (.new 138, 3) := by decide +kernel
theorem dX5_after_49 : decode cX5_after 49 = .ok (.dup, 1) := by decide +kernel
theorem dX5_after_50 : decode cX5_after 50 = .ok (.ldc 155, 2) := by decide +kernel
theorem dX5_after_52 : decode cX5_after 52 = .ok (.invokespecial 142, 3) := by decide +kernel
theorem dX5_after_55 : decode cX5_after 55 = .ok (.athrow, 1) := by decide +kernel
theorem dX5_after_56 : decode cX5_after 56 = .ok (.aload_n 0, 1) := by decide +kernel
theorem dX5_after_57 : decode cX5_after 57 = .ok (.getfield 26, 3) := by decide +kernel
theorem dX5_after_60 : decode cX5_after 60 = .ok (.iload_n 1, 1) := by decide +kernel
theorem dX5_after_61 : decode cX5_after 61 = .ok (.invokevirtual 157, 3) := by decide +kernel
theorem dX5_after_64 : decode cX5_after 64 = .ok (.aload_n 0, 1) := by decide +kernel
theorem dX5_after_65 : decode cX5_after 65 = .ok (.getfield 26, 3) := by decide +kernel
theorem dX5_after_68 : decode cX5_after 68 = .ok (.getfield 154, 3) := by decide +kernel
theorem dX5_after_71 : decode cX5_after 71 = .ok (.aload_n 0, 1) := by decide +kernel
theorem dX5_after_72 : decode cX5_after 72 = .ok (.getfield 26, 3) := by decide +kernel
theorem dX5_after_75 : decode cX5_after 75 = .ok (.invokevirtual 160, 3) := by decide +kernel
theorem dX5_after_78 : decode cX5_after 78 = .ok (.isub, 1) := by decide +kernel
theorem dX5_after_79 : decode cX5_after 79 = .ok (.ireturn, 1) := by decide +kernel
theorem dX5_end_0 : decode cX5_end 0 = .ok (.aload_n 0, 1) := by decide +kernel
theorem dX5_end_1 : decode cX5_end 1 = .ok (.getfield 26, 3) := by decide +kernel
theorem dX5_end_4 : decode cX5_end 4 = .ok (.getfield 134, 3) := by decide +kernel
theorem dX5_end_7 : decode cX5_end 7 = .ok (.ifCond .gt 13, 3) := by decide +kernel
theorem dX5_end_10 : decode cX5_end 10 = .ok (.new 149, 3) := by decide +kernel
theorem dX5_end_13 : decode cX5_end 13 = .ok (.dup, 1) := by decide +kernel
theorem dX5_end_14 : decode cX5_end 14 = .ok (.ldc 151, 2) := by decide +kernel
theorem dX5_end_16 : decode cX5_end 16 = .ok (.invokespecial 153, 3) := by decide +kernel
theorem dX5_end_19 : decode cX5_end 19 = .ok (.athrow, 1) := by decide +kernel
theorem dX5_end_20 : decode cX5_end 20 = .ok (.aload_n 0, 1) := by decide +kernel
theorem dX5_end_21 : decode cX5_end 21 = .ok (.getfield 33, 3) := by decide +kernel
theorem dX5_end_24 : decode cX5_end 24 = .ok (.invokevirtual 164, 3) := by decide +kernel
theorem dX5_end_27 : decode cX5_end 27 = .ok (.aload_n 0, 1) := by decide +kernel
theorem dX5_end_28 : decode cX5_end 28 = .ok (.aload_n 0, 1) := by decide +kernel
theorem dX5_end_29 : decode cX5_end 29 = .ok (.getfield 26, 3) := by decide +kernel
theorem dX5_end_32 : decode cX5_end 32 = .ok (.invokevirtual 167, 3) := by decide +kernel
theorem dX5_end_35 : decode cX5_end 35 = .ok (.invokevirtual 170, 3) := by decide +kernel
theorem dX5_end_38 : decode cX5_end 38 = .ok (.aload_n 0, 1) := by decide +kernel
theorem dX5_end_39 : decode cX5_end 39 = .ok (.getfield 33, 3) := by decide +kernel
theorem dX5_end_42 : decode cX5_end 42 = .ok (.aload_n 0, 1) := by decide +kernel
theorem dX5_end_43 : decode cX5_end 43 = .ok (.getfield 26, 3) := by decide +kernel
theorem dX5_end_46 : decode cX5_end 46 = .ok (.invokevirtual 173, 3) := by decide +kernel
theorem dX5_end_49 : decode cX5_end 49 = .ok (.aload_n 0, 1) := by decide +kernel
theorem dX5_end_50 : decode cX5_end 50 = .ok (.getfield 26, 3) := by decide +kernel
theorem dX5_end_53 : decode cX5_end 53 = .ok (.invokevirtual 177, 3) := by decide +kernel
theorem dX5_end_56 : decode cX5_end 56 = .ok (.aload_n 0, 1) := by decide +kernel
theorem dX5_end_57 : decode cX5_end 57 = .ok (.getfield 33, 3) := by decide +kernel
theorem dX5_end_60 : decode cX5_end 60 = .ok (.getfield 180, 3) := by decide +kernel
theorem dX5_end_63 : decode cX5_end 63 = .ok (.ireturn, 1) := by decide +kernel
theorem dX5_restored_0 : decode cX5_restored 0 = .ok (.iload_n 1, 1) := by decide +kernel
theorem dX5_restored_1 : decode cX5_restored 1 = .ok (.ifCond .lt 33, 3) := by decide +kernel
theorem dX5_restored_4 : decode cX5_restored 4 = .ok (.iload_n 1, 1) := by decide +kernel
theorem dX5_restored_5 : decode cX5_restored 5 = .ok (.aload_n 0, 1) := by decide +kernel
theorem dX5_restored_6 : decode cX5_restored 6 = .ok (.getfield 33, 3) := by decide +kernel
theorem dX5_restored_9 : decode cX5_restored 9 = .ok (.getfield 183, 3) := by decide +kernel
theorem dX5_restored_12 : decode cX5_restored 12 = .ok (.if_icmp .ge 22, 3) := by decide +kernel
theorem dX5_restored_15 : decode cX5_restored 15 = .ok (.iload_n 1, 1) := by decide +kernel
theorem dX5_restored_16 : decode cX5_restored 16 = .ok (.sipush 200, 3) := by decide +kernel
theorem dX5_restored_19 : decode cX5_restored 19 = .ok (.if_icmp .ge 15, 3) := by decide +kernel
theorem dX5_restored_22 : decode cX5_restored 22 = .ok (.iload_n 2, 1) := by decide +kernel
theorem dX5_restored_23 : decode cX5_restored 23 = .ok (.i2l, 1) := by decide +kernel
theorem dX5_restored_24 : decode cX5_restored 24 = .ok (.lconst 0, 1) := by decide +kernel
theorem dX5_restored_25 : decode cX5_restored 25 = .ok (.ldc2_w 184, 3) := by decide +kernel
theorem dX5_restored_28 : decode cX5_restored 28 = .ok (.invokestatic 71, 3) := by decide +kernel
theorem dX5_restored_31 : decode cX5_restored 31 = .ok (.ifCond .ne 13, 3) := by decide +kernel
theorem dX5_restored_34 : decode cX5_restored 34 = .ok (.new 108, 3) := by decide +kernel
theorem dX5_restored_37 : decode cX5_restored 37 = .ok (.dup, 1) := by decide +kernel
theorem dX5_restored_38 : decode cX5_restored 38 = .ok (.ldc 186, 2) := by decide +kernel
theorem dX5_restored_40 : decode cX5_restored 40 = .ok (.invokespecial 112, 3) := by decide +kernel
theorem dX5_restored_43 : decode cX5_restored 43 = .ok (.athrow, 1) := by decide +kernel
theorem dX5_restored_44 : decode cX5_restored 44 = .ok (.iload_n 2, 1) := by decide +kernel
theorem dX5_restored_45 : decode cX5_restored 45 = .ok (.ifCond .ne 15, 3) := by decide +kernel
theorem dX5_restored_48 : decode cX5_restored 48 = .ok (.aload_n 0, 1) := by decide +kernel
theorem dX5_restored_49 : decode cX5_restored 49 = .ok (.getfield 33, 3) := by decide +kernel
theorem dX5_restored_52 : decode cX5_restored 52 = .ok (.getfield 188, 3) := by decide +kernel
theorem dX5_restored_55 : decode cX5_restored 55 = .ok (.iload_n 1, 1) := by decide +kernel
theorem dX5_restored_56 : decode cX5_restored 56 = .ok (.iaload, 1) := by decide +kernel
theorem dX5_restored_57 : decode cX5_restored 57 = .ok (.goto 29, 3) := by decide +kernel
theorem dX5_restored_60 : decode cX5_restored 60 = .ok (.iload_n 2, 1) := by decide +kernel
theorem dX5_restored_61 : decode cX5_restored 61 = .ok (.iconst 1, 1) := by decide +kernel
theorem dX5_restored_62 : decode cX5_restored 62 = .ok (.if_icmp .ne 15, 3) := by decide +kernel
theorem dX5_restored_65 : decode cX5_restored 65 = .ok (.aload_n 0, 1) := by decide +kernel
theorem dX5_restored_66 : decode cX5_restored 66 = .ok (.getfield 33, 3) := by decide +kernel
theorem dX5_restored_69 : decode cX5_restored 69 = .ok (.getfield 192, 3) := by decide +kernel
theorem dX5_restored_72 : decode cX5_restored 72 = .ok (.iload_n 1, 1) := by decide +kernel
theorem dX5_restored_73 : decode cX5_restored 73 = .ok (.iaload, 1) := by decide +kernel
theorem dX5_restored_74 : decode cX5_restored 74 = .ok (.goto 12, 3) := by decide +kernel
theorem dX5_restored_77 : decode cX5_restored 77 = .ok (.aload_n 0, 1) := by decide +kernel
theorem dX5_restored_78 : decode cX5_restored 78 = .ok (.getfield 33, 3) := by decide +kernel
theorem dX5_restored_81 : decode cX5_restored 81 = .ok (.getfield 195, 3) := by decide +kernel
theorem dX5_restored_84 : decode cX5_restored 84 = .ok (.iload_n 1, 1) := by decide +kernel
theorem dX5_restored_85 : decode cX5_restored 85 = .ok (.iaload, 1) := by decide +kernel
theorem dX5_restored_86 : decode cX5_restored 86 = .ok (.ireturn, 1) := by decide +kernel
theorem dX5_behind_0 : decode cX5_behind 0 = .ok (.iload_n 1, 1) := by decide +kernel
theorem dX5_behind_1 : decode cX5_behind 1 = .ok (.ifCond .lt 20, 3) := by decide +kernel
theorem dX5_behind_4 : decode cX5_behind 4 = .ok (.iload_n 1, 1) := by decide +kernel
theorem dX5_behind_5 : decode cX5_behind 5 = .ok (.aload_n 0, 1) := by decide +kernel
theorem dX5_behind_6 : decode cX5_behind 6 = .ok (.getfield 33, 3) := by decide +kernel
theorem dX5_behind_9 : decode cX5_behind 9 = .ok (.getfield 198, 3) := by decide +kernel
theorem dX5_behind_12 : decode cX5_behind 12 = .ok (.if_icmp .ge 9, 3) := by decide +kernel
theorem dX5_behind_15 : decode cX5_behind 15 = .ok (.iload_n 1, 1) := by decide +kernel
theorem dX5_behind_16 : decode cX5_behind 16 = .ok (.bipush 60, 2) := by decide +kernel
theorem dX5_behind_18 : decode cX5_behind 18 = .ok (.if_icmp .lt 5, 3) := by decide +kernel
theorem dX5_behind_21 : decode cX5_behind 21 = .ok (.iconst (-1), 1) := by decide +kernel
theorem dX5_behind_22 : decode cX5_behind 22 = .ok (.ireturn, 1) := by decide +kernel
theorem dX5_behind_23 : decode cX5_behind 23 = .ok (.aload_n 0, 1) := by decide +kernel
theorem dX5_behind_24 : decode cX5_behind 24 = .ok (.getfield 33, 3) := by decide +kernel
theorem dX5_behind_27 : decode cX5_behind 27 = .ok (.getfield 201, 3) := by decide +kernel
theorem dX5_behind_30 : decode cX5_behind 30 = .ok (.iload_n 1, 1) := by decide +kernel
theorem dX5_behind_31 : decode cX5_behind 31 = .ok (.iaload, 1) := by decide +kernel
theorem dX5_behind_32 : decode cX5_behind 32 = .ok (.ireturn, 1) := by decide +kernel
theorem dX5_scaled_0 : decode cX5_scaled 0 = .ok (.iload_n 1, 1) := by decide +kernel
theorem dX5_scaled_1 : decode cX5_scaled 1 = .ok (.i2l, 1) := by decide +kernel
theorem dX5_scaled_2 : decode cX5_scaled 2 = .ok (.lconst 0, 1) := by decide +kernel
theorem dX5_scaled_3 : decode cX5_scaled 3 = .ok (.ldc2_w 204, 3) := by decide +kernel
theorem dX5_scaled_6 : decode cX5_scaled 6 = .ok (.invokestatic 71, 3) := by decide +kernel
theorem dX5_scaled_9 : decode cX5_scaled 9 = .ok (.ifCond .eq 15, 3) := by decide +kernel
theorem dX5_scaled_12 : decode cX5_scaled 12 = .ok (.iload_n 3, 1) := by decide +kernel
theorem dX5_scaled_13 : decode cX5_scaled 13 = .ok (.i2l, 1) := by decide +kernel
theorem dX5_scaled_14 : decode cX5_scaled 14 = .ok (.lconst 0, 1) := by decide +kernel
theorem dX5_scaled_15 : decode cX5_scaled 15 = .ok (.ldc2_w 206, 3) := by decide +kernel
theorem dX5_scaled_18 : decode cX5_scaled 18 = .ok (.invokestatic 71, 3) := by decide +kernel
theorem dX5_scaled_21 : decode cX5_scaled 21 = .ok (.ifCond .ne 13, 3) := by decide +kernel
theorem dX5_scaled_24 : decode cX5_scaled 24 = .ok (.new 62, 3) := by decide +kernel
theorem dX5_scaled_27 : decode cX5_scaled 27 = .ok (.dup, 1) := by decide +kernel
theorem dX5_scaled_28 : decode cX5_scaled 28 = .ok (.ldc 208, 2) := by decide +kernel
theorem dX5_scaled_30 : decode cX5_scaled 30 = .ok (.invokespecial 66, 3) := by decide +kernel
theorem dX5_scaled_33 : decode cX5_scaled 33 = .ok (.athrow, 1) := by decide +kernel
theorem dX5_scaled_34 : decode cX5_scaled 34 = .ok (.iload_n 3, 1) := by decide +kernel
theorem dX5_scaled_35 : decode cX5_scaled 35 = .ok (.bipush 8, 2) := by decide +kernel
theorem dX5_scaled_37 : decode cX5_scaled 37 = .ok (.if_icmp .ne 6, 3) := by decide +kernel
theorem dX5_scaled_40 : decode cX5_scaled 40 = .ok (.iload_n 1, 1) := by decide +kernel
theorem dX5_scaled_41 : decode cX5_scaled 41 = .ok (.i2l, 1) := by decide +kernel
theorem dX5_scaled_42 : decode cX5_scaled 42 = .ok (.lreturn, 1) := by decide +kernel
theorem dX5_scaled_43 : decode cX5_scaled 43 = .ok (.iload_n 2, 1) := by decide +kernel
theorem dX5_scaled_44 : decode cX5_scaled 44 = .ok (.i2l, 1) := by decide +kernel
theorem dX5_scaled_45 : decode cX5_scaled 45 = .ok (.lconst 0, 1) := by decide +kernel
theorem dX5_scaled_46 : decode cX5_scaled 46 = .ok (.ldc2_w 210, 3) := by decide +kernel
theorem dX5_scaled_49 : decode cX5_scaled 49 = .ok (.invokestatic 71, 3) := by decide +kernel
theorem dX5_scaled_52 : decode cX5_scaled 52 = .ok (.ifCond .ne 13, 3) := by decide +kernel
theorem dX5_scaled_55 : decode cX5_scaled 55 = .ok (.new 62, 3) := by decide +kernel
theorem dX5_scaled_58 : decode cX5_scaled 58 = .ok (.dup, 1) := by decide +kernel
theorem dX5_scaled_59 : decode cX5_scaled 59 = .ok (.ldc 212, 2) := by decide +kernel
theorem dX5_scaled_61 : decode cX5_scaled 61 = .ok (.invokespecial 66, 3) := by decide +kernel
theorem dX5_scaled_64 : decode cX5_scaled 64 = .ok (.athrow, 1) := by decide +kernel
theorem dX5_scaled_65 : decode cX5_scaled 65 = .ok (.iload_n 1, 1) := by decide +kernel
theorem dX5_scaled_66 : decode cX5_scaled 66 = .ok (.i2l, 1) := by decide +kernel
theorem dX5_scaled_67 : decode cX5_scaled 67 = .ok (.iload_n 2, 1) := by decide +kernel
theorem dX5_scaled_68 : decode cX5_scaled 68 = .ok (.i2l, 1) := by decide +kernel
theorem dX5_scaled_69 : decode cX5_scaled 69 = .ok (.getstatic 214, 3) := by decide +kernel
theorem dX5_scaled_72 : decode cX5_scaled 72 = .ok (.iload_n 3, 1) := by decide +kernel
theorem dX5_scaled_73 : decode cX5_scaled 73 = .ok (.laload, 1) := by decide +kernel
theorem dX5_scaled_74 : decode cX5_scaled 74 = .ok (.getstatic 217, 3) := by decide +kernel
theorem dX5_scaled_77 : decode cX5_scaled 77 = .ok (.iload_n 3, 1) := by decide +kernel
theorem dX5_scaled_78 : decode cX5_scaled 78 = .ok (.laload, 1) := by decide +kernel
theorem dX5_scaled_79 : decode cX5_scaled 79 = .ok (.invokestatic 220, 3) := by decide +kernel
theorem dX5_scaled_82 : decode cX5_scaled 82 = .ok (.lstore 4, 2) := by decide +kernel
theorem dX5_scaled_84 : decode cX5_scaled 84 = .ok (.lload 4, 2) := by decide +kernel
theorem dX5_scaled_86 : decode cX5_scaled 86 = .ok (.ldc2_w 204, 3) := by decide +kernel
theorem dX5_scaled_89 : decode cX5_scaled 89 = .ok (.lcmp, 1) := by decide +kernel
theorem dX5_scaled_90 : decode cX5_scaled 90 = .ok (.ifCond .le 9, 3) := by decide +kernel
theorem dX5_scaled_93 : decode cX5_scaled 93 = .ok (.ldc2_w 81, 3) := by decide +kernel
theorem dX5_scaled_96 : decode cX5_scaled 96 = .ok (.goto 5, 3) := by decide +kernel
theorem dX5_scaled_99 : decode cX5_scaled 99 = .ok (.lload 4, 2) := by decide +kernel
theorem dX5_scaled_101 : decode cX5_scaled 101 = .ok (.lreturn, 1) := by decide +kernel
theorem dX5_fraction_0 : decode cX5_fraction 0 = .ok (.iload_n 2, 1) := by decide +kernel
theorem dX5_fraction_1 : decode cX5_fraction 1 = .ok (.i2l, 1) := by decide +kernel
theorem dX5_fraction_2 : decode cX5_fraction 2 = .ok (.lconst 1, 1) := by decide +kernel
theorem dX5_fraction_3 : decode cX5_fraction 3 = .ok (.ldc2_w 224, 3) := by decide +kernel
theorem dX5_fraction_6 : decode cX5_fraction 6 = .ok (.invokestatic 71, 3) := by decide +kernel
theorem dX5_fraction_9 : decode cX5_fraction 9 = .ok (.ifCond .eq 7, 3) := by decide +kernel
theorem dX5_fraction_12 : decode cX5_fraction 12 = .ok (.iload_n 1, 1) := by decide +kernel
theorem dX5_fraction_13 : decode cX5_fraction 13 = .ok (.ifCond .ge 13, 3) := by decide +kernel
theorem dX5_fraction_16 : decode cX5_fraction 16 = .ok (.new 62, 3) := by decide +kernel
theorem dX5_fraction_19 : decode cX5_fraction 19 = .ok (.dup, 1) := by decide +kernel
theorem dX5_fraction_20 : decode cX5_fraction 20 = .ok (.ldc 226, 2) := by decide +kernel
theorem dX5_fraction_22 : decode cX5_fraction 22 = .ok (.invokespecial 66, 3) := by decide +kernel
theorem dX5_fraction_25 : decode cX5_fraction 25 = .ok (.athrow, 1) := by decide +kernel
theorem dX5_fraction_26 : decode cX5_fraction 26 = .ok (.iload_n 1, 1) := by decide +kernel
theorem dX5_fraction_27 : decode cX5_fraction 27 = .ok (.istore_n 3, 1) := by decide +kernel
theorem dX5_fraction_28 : decode cX5_fraction 28 = .ok (.lconst 0, 1) := by decide +kernel
theorem dX5_fraction_29 : decode cX5_fraction 29 = .ok (.lstore 4, 2) := by decide +kernel
theorem dX5_fraction_31 : decode cX5_fraction 31 = .ok (.iconst 0, 1) := by decide +kernel
theorem dX5_fraction_32 : decode cX5_fraction 32 = .ok (.istore 6, 2) := by decide +kernel
theorem dX5_fraction_34 : decode cX5_fraction 34 = .ok (.iload 6, 2) := by decide +kernel
theorem dX5_fraction_36 : decode cX5_fraction 36 = .ok (.iload_n 2, 1) := by decide +kernel
theorem dX5_fraction_37 : decode cX5_fraction 37 = .ok (.if_icmp .ge 32, 3) := by decide +kernel
theorem dX5_fraction_40 : decode cX5_fraction 40 = .ok (.lload 4, 2) := by decide +kernel
theorem dX5_fraction_42 : decode cX5_fraction 42 = .ok (.ldc2_w 228, 3) := by decide +kernel
theorem dX5_fraction_45 : decode cX5_fraction 45 = .ok (.iload_n 3, 1) := by decide +kernel
theorem dX5_fraction_46 : decode cX5_fraction 46 = .ok (.bipush 10, 2) := by decide +kernel
theorem dX5_fraction_48 : decode cX5_fraction 48 = .ok (.irem, 1) := by decide +kernel
theorem dX5_fraction_49 : decode cX5_fraction 49 = .ok (.i2l, 1) := by decide +kernel
theorem dX5_fraction_50 : decode cX5_fraction 50 = .ok (.lmul, 1) := by decide +kernel
theorem dX5_fraction_51 : decode cX5_fraction 51 = .ok (.ladd, 1) := by decide +kernel
theorem dX5_fraction_52 : decode cX5_fraction 52 = .ok (.ldc2_w 230, 3) := by decide +kernel
theorem dX5_fraction_55 : decode cX5_fraction 55 = .ok (.ldiv, 1) := by decide +kernel
theorem dX5_fraction_56 : decode cX5_fraction 56 = .ok (.lstore 4, 2) := by decide +kernel
theorem dX5_fraction_58 : decode cX5_fraction 58 = .ok (.iload_n 3, 1) := by decide +kernel
theorem dX5_fraction_59 : decode cX5_fraction 59 = .ok (.bipush 10, 2) := by decide +kernel
theorem dX5_fraction_61 : decode cX5_fraction 61 = .ok (.idiv, 1) := by decide +kernel
theorem dX5_fraction_62 : decode cX5_fraction 62 = .ok (.istore_n 3, 1) := by decide +kernel
theorem dX5_fraction_63 : decode cX5_fraction 63 = .ok (.iinc 6 1, 3) := by decide +kernel
theorem dX5_fraction_66 : decode cX5_fraction 66 = .ok (.goto (-32), 3) := by decide +kernel
theorem dX5_fraction_69 : decode cX5_fraction 69 = .ok (.iload_n 3, 1) := by decide +kernel
theorem dX5_fraction_70 : decode cX5_fraction 70 = .ok (.ifCond .eq 13, 3) := by decide +kernel
theorem dX5_fraction_73 : decode cX5_fraction 73 = .ok (.new 62, 3) := by decide +kernel
theorem dX5_fraction_76 : decode cX5_fraction 76 = .ok (.dup, 1) := by decide +kernel
theorem dX5_fraction_77 : decode cX5_fraction 77 = .ok (.ldc 232, 2) := by decide +kernel
theorem dX5_fraction_79 : decode cX5_fraction 79 = .ok (.invokespecial 66, 3) := by decide +kernel
theorem dX5_fraction_82 : decode cX5_fraction 82 = .ok (.athrow, 1) := by decide +kernel
theorem dX5_fraction_83 : decode cX5_fraction 83 = .ok (.lload 4, 2) := by decide +kernel
theorem dX5_fraction_85 : decode cX5_fraction 85 = .ok (.lconst 1, 1) := by decide +kernel
theorem dX5_fraction_86 : decode cX5_fraction 86 = .ok (.ladd, 1) := by decide +kernel
theorem dX5_fraction_87 : decode cX5_fraction 87 = .ok (.ldc2_w 184, 3) := by decide +kernel
theorem dX5_fraction_90 : decode cX5_fraction 90 = .ok (.ldiv, 1) := by decide +kernel
theorem dX5_fraction_91 : decode cX5_fraction 91 = .ok (.l2i, 1) := by decide +kernel
theorem dX5_fraction_92 : decode cX5_fraction 92 = .ok (.ireturn, 1) := by decide +kernel
theorem dX5_shown_0 : decode cX5_shown 0 = .ok (.iload_n 1, 1) := by decide +kernel
theorem dX5_shown_1 : decode cX5_shown 1 = .ok (.iconst 4, 1) := by decide +kernel
theorem dX5_shown_2 : decode cX5_shown 2 = .ok (.invokestatic 77, 3) := by decide +kernel
theorem dX5_shown_5 : decode cX5_shown 5 = .ok (.iload_n 2, 1) := by decide +kernel
theorem dX5_shown_6 : decode cX5_shown 6 = .ok (.i2l, 1) := by decide +kernel
theorem dX5_shown_7 : decode cX5_shown 7 = .ok (.invokestatic 87, 3) := by decide +kernel
theorem dX5_shown_10 : decode cX5_shown 10 = .ok (.aload_n 0, 1) := by decide +kernel
theorem dX5_shown_11 : decode cX5_shown 11 = .ok (.getfield 40, 3) := by decide +kernel
theorem dX5_shown_14 : decode cX5_shown 14 = .ok (.invokevirtual 234, 3) := by decide +kernel
theorem dX5_shown_17 : decode cX5_shown 17 = .ok (.aload_n 0, 1) := by decide +kernel
theorem dX5_shown_18 : decode cX5_shown 18 = .ok (.iload_n 1, 1) := by decide +kernel
theorem dX5_shown_19 : decode cX5_shown 19 = .ok (.iload_n 1, 1) := by decide +kernel
theorem dX5_shown_20 : decode cX5_shown 20 = .ok (.iload_n 2, 1) := by decide +kernel
theorem dX5_shown_21 : decode cX5_shown 21 = .ok (.invokestatic 102, 3) := by decide +kernel
theorem dX5_shown_24 : decode cX5_shown 24 = .ok (.invokevirtual 235, 3) := by decide +kernel
theorem dX5_shown_27 : decode cX5_shown 27 = .ok (.aload_n 0, 1) := by decide +kernel
theorem dX5_shown_28 : decode cX5_shown 28 = .ok (.getfield 40, 3) := by decide +kernel
theorem dX5_shown_31 : decode cX5_shown 31 = .ok (.iload_n 3, 1) := by decide +kernel
theorem dX5_shown_32 : decode cX5_shown 32 = .ok (.invokevirtual 238, 3) := by decide +kernel
theorem dX5_shown_35 : decode cX5_shown 35 = .ok (.ireturn, 1) := by decide +kernel
theorem dX5_told_0 : decode cX5_told 0 = .ok (.iload_n 1, 1) := by decide +kernel
theorem dX5_told_1 : decode cX5_told 1 = .ok (.ifCond .ne 11, 3) := by decide +kernel
theorem dX5_told_4 : decode cX5_told 4 = .ok (.aload_n 0, 1) := by decide +kernel
theorem dX5_told_5 : decode cX5_told 5 = .ok (.getfield 26, 3) := by decide +kernel
theorem dX5_told_8 : decode cX5_told 8 = .ok (.getfield 134, 3) := by decide +kernel
theorem dX5_told_11 : decode cX5_told 11 = .ok (.ireturn, 1) := by decide +kernel
theorem dX5_told_12 : decode cX5_told 12 = .ok (.iload_n 1, 1) := by decide +kernel
theorem dX5_told_13 : decode cX5_told 13 = .ok (.iconst 1, 1) := by decide +kernel
theorem dX5_told_14 : decode cX5_told 14 = .ok (.if_icmp .ne 11, 3) := by decide +kernel
theorem dX5_told_17 : decode cX5_told 17 = .ok (.aload_n 0, 1) := by decide +kernel
theorem dX5_told_18 : decode cX5_told 18 = .ok (.getfield 19, 3) := by decide +kernel
theorem dX5_told_21 : decode cX5_told 21 = .ok (.getfield 143, 3) := by decide +kernel
theorem dX5_told_24 : decode cX5_told 24 = .ok (.ireturn, 1) := by decide +kernel
theorem dX5_told_25 : decode cX5_told 25 = .ok (.iload_n 1, 1) := by decide +kernel
theorem dX5_told_26 : decode cX5_told 26 = .ok (.i2l, 1) := by decide +kernel
theorem dX5_told_27 : decode cX5_told 27 = .ok (.ldc2_w 230, 3) := by decide +kernel
theorem dX5_told_30 : decode cX5_told 30 = .ok (.ldc2_w 242, 3) := by decide +kernel
theorem dX5_told_33 : decode cX5_told 33 = .ok (.invokestatic 71, 3) := by decide +kernel
theorem dX5_told_36 : decode cX5_told 36 = .ok (.ifCond .ne 13, 3) := by decide +kernel
theorem dX5_told_39 : decode cX5_told 39 = .ok (.new 62, 3) := by decide +kernel
theorem dX5_told_42 : decode cX5_told 42 = .ok (.dup, 1) := by decide +kernel
theorem dX5_told_43 : decode cX5_told 43 = .ok (.ldc 244, 2) := by decide +kernel
theorem dX5_told_45 : decode cX5_told 45 = .ok (.invokespecial 66, 3) := by decide +kernel
theorem dX5_told_48 : decode cX5_told 48 = .ok (.athrow, 1) := by decide +kernel
theorem dX5_told_49 : decode cX5_told 49 = .ok (.iload_n 2, 1) := by decide +kernel
theorem dX5_told_50 : decode cX5_told 50 = .ok (.i2l, 1) := by decide +kernel
theorem dX5_told_51 : decode cX5_told 51 = .ok (.invokestatic 87, 3) := by decide +kernel
theorem dX5_told_54 : decode cX5_told 54 = .ok (.aload_n 0, 1) := by decide +kernel
theorem dX5_told_55 : decode cX5_told 55 = .ok (.getfield 10, 3) := by decide +kernel
theorem dX5_told_58 : decode cX5_told 58 = .ok (.getfield 246, 3) := by decide +kernel
theorem dX5_told_61 : decode cX5_told 61 = .ok (.iload_n 1, 1) := by decide +kernel
theorem dX5_told_62 : decode cX5_told 62 = .ok (.bipush 10, 2) := by decide +kernel
theorem dX5_told_64 : decode cX5_told 64 = .ok (.isub, 1) := by decide +kernel
theorem dX5_told_65 : decode cX5_told 65 = .ok (.iload_n 2, 1) := by decide +kernel
theorem dX5_told_66 : decode cX5_told 66 = .ok (.invokestatic 249, 3) := by decide +kernel
theorem dX5_told_69 : decode cX5_told 69 = .ok (.iaload, 1) := by decide +kernel
theorem dX5_told_70 : decode cX5_told 70 = .ok (.ireturn, 1) := by decide +kernel
theorem dX5_within_0 : decode cX5_within 0 = .ok (.lload_n 0, 1) := by decide +kernel
theorem dX5_within_1 : decode cX5_within 1 = .ok (.lload_n 2, 1) := by decide +kernel
theorem dX5_within_2 : decode cX5_within 2 = .ok (.lcmp, 1) := by decide +kernel
theorem dX5_within_3 : decode cX5_within 3 = .ok (.ifCond .lt 14, 3) := by decide +kernel
theorem dX5_within_6 : decode cX5_within 6 = .ok (.lload_n 0, 1) := by decide +kernel
theorem dX5_within_7 : decode cX5_within 7 = .ok (.lload 4, 2) := by decide +kernel
theorem dX5_within_9 : decode cX5_within 9 = .ok (.lcmp, 1) := by decide +kernel
theorem dX5_within_10 : decode cX5_within 10 = .ok (.ifCond .gt 7, 3) := by decide +kernel
theorem dX5_within_13 : decode cX5_within 13 = .ok (.iconst 1, 1) := by decide +kernel
theorem dX5_within_14 : decode cX5_within 14 = .ok (.goto 4, 3) := by decide +kernel
theorem dX5_within_17 : decode cX5_within 17 = .ok (.iconst 0, 1) := by decide +kernel
theorem dX5_within_18 : decode cX5_within 18 = .ok (.ireturn, 1) := by decide +kernel
theorem dX5_isCount_0 : decode cX5_isCount 0 = .ok (.lload_n 0, 1) := by decide +kernel
theorem dX5_isCount_1 : decode cX5_isCount 1 = .ok (.ldc2_w 252, 3) := by decide +kernel
theorem dX5_isCount_4 : decode cX5_isCount 4 = .ok (.ldc2_w 254, 3) := by decide +kernel
theorem dX5_isCount_7 : decode cX5_isCount 7 = .ok (.invokestatic 71, 3) := by decide +kernel
theorem dX5_isCount_10 : decode cX5_isCount 10 = .ok (.ireturn, 1) := by decide +kernel
theorem dX5_isLength_0 : decode cX5_isLength 0 = .ok (.lload_n 0, 1) := by decide +kernel
theorem dX5_isLength_1 : decode cX5_isLength 1 = .ok (.ldc2_w 256, 3) := by decide +kernel
theorem dX5_isLength_4 : decode cX5_isLength 4 = .ok (.ldc2_w 204, 3) := by decide +kernel
theorem dX5_isLength_7 : decode cX5_isLength 7 = .ok (.invokestatic 71, 3) := by decide +kernel
theorem dX5_isLength_10 : decode cX5_isLength 10 = .ok (.ireturn, 1) := by decide +kernel
theorem dX5_checkKind_0 : decode cX5_checkKind 0 = .ok (.iload_n 0, 1) := by decide +kernel
theorem dX5_checkKind_1 : decode cX5_checkKind 1 = .ok (.ifCond .lt 8, 3) := by decide +kernel
theorem dX5_checkKind_4 : decode cX5_checkKind 4 = .ok (.iload_n 0, 1) := by decide +kernel
theorem dX5_checkKind_5 : decode cX5_checkKind 5 = .ok (.iload_n 1, 1) := by decide +kernel
theorem dX5_checkKind_6 : decode cX5_checkKind 6 = .ok (.if_icmp .le 14, 3) := by decide +kernel
theorem dX5_checkKind_9 : decode cX5_checkKind 9 = .ok (.new 62, 3) := by decide +kernel
theorem dX5_checkKind_12 : decode cX5_checkKind 12 = .ok (.dup, 1) := by decide +kernel
theorem dX5_checkKind_13 : decode cX5_checkKind 13 = .ok (.ldc_w 258, 3) := by decide +kernel
theorem dX5_checkKind_16 : decode cX5_checkKind 16 = .ok (.invokespecial 66, 3) := by decide +kernel
theorem dX5_checkKind_19 : decode cX5_checkKind 19 = .ok (.athrow, 1) := by decide +kernel
theorem dX5_checkKind_20 : decode cX5_checkKind 20 = .ok (.return_, 1) := by decide +kernel
theorem dX5_checkRegister_0 : decode cX5_checkRegister 0 = .ok (.lload_n 0, 1) := by decide +kernel
theorem dX5_checkRegister_1 : decode cX5_checkRegister 1 = .ok (.lconst 0, 1) := by decide +kernel
theorem dX5_checkRegister_2 : decode cX5_checkRegister 2 = .ok (.ldc2_w 260, 3) := by decide +kernel
theorem dX5_checkRegister_5 : decode cX5_checkRegister 5 = .ok (.invokestatic 71, 3) := by decide +kernel
theorem dX5_checkRegister_8 : decode cX5_checkRegister 8 = .ok (.ifCond .ne 14, 3) := by decide +kernel
theorem dX5_checkRegister_11 : decode cX5_checkRegister 11 = .ok (.new 108, 3) := by decide +kernel
theorem dX5_checkRegister_14 : decode cX5_checkRegister 14 = .ok (.dup, 1) := by decide +kernel
theorem dX5_checkRegister_15 : decode cX5_checkRegister 15 = .ok (.ldc_w 262, 3) := by decide +kernel
theorem dX5_checkRegister_18 : decode cX5_checkRegister 18 = .ok (.invokespecial 112, 3) := by decide +kernel
theorem dX5_checkRegister_21 : decode cX5_checkRegister 21 = .ok (.athrow, 1) := by decide +kernel
theorem dX5_checkRegister_22 : decode cX5_checkRegister 22 = .ok (.return_, 1) := by decide +kernel
theorem dX5_checkToken_0 : decode cX5_checkToken 0 = .ok (.iload_n 0, 1) := by decide +kernel
theorem dX5_checkToken_1 : decode cX5_checkToken 1 = .ok (.i2l, 1) := by decide +kernel
theorem dX5_checkToken_2 : decode cX5_checkToken 2 = .ok (.lconst 0, 1) := by decide +kernel
theorem dX5_checkToken_3 : decode cX5_checkToken 3 = .ok (.ldc2_w 264, 3) := by decide +kernel
theorem dX5_checkToken_6 : decode cX5_checkToken 6 = .ok (.invokestatic 71, 3) := by decide +kernel
theorem dX5_checkToken_9 : decode cX5_checkToken 9 = .ok (.ifCond .ne 14, 3) := by decide +kernel
theorem dX5_checkToken_12 : decode cX5_checkToken 12 = .ok (.new 62, 3) := by decide +kernel
theorem dX5_checkToken_15 : decode cX5_checkToken 15 = .ok (.dup, 1) := by decide +kernel
theorem dX5_checkToken_16 : decode cX5_checkToken 16 = .ok (.ldc_w 266, 3) := by decide +kernel
theorem dX5_checkToken_19 : decode cX5_checkToken 19 = .ok (.invokespecial 66, 3) := by decide +kernel
theorem dX5_checkToken_22 : decode cX5_checkToken 22 = .ok (.athrow, 1) := by decide +kernel
theorem dX5_checkToken_23 : decode cX5_checkToken 23 = .ok (.return_, 1) := by decide +kernel
theorem dX5_makeGiven_0 : decode cX5_makeGiven 0 = .ok (.iload_n 1, 1) := by decide +kernel
theorem dX5_makeGiven_1 : decode cX5_makeGiven 1 = .ok (.iconst 2, 1) := by decide +kernel
theorem dX5_makeGiven_2 : decode cX5_makeGiven 2 = .ok (.if_icmp .ne 20, 3) := by decide +kernel
theorem dX5_makeGiven_5 : decode cX5_makeGiven 5 = .ok (.aload_n 0, 1) := by decide +kernel
theorem dX5_makeGiven_6 : decode cX5_makeGiven 6 = .ok (.getfield 44, 3) := by decide +kernel
theorem dX5_makeGiven_9 : decode cX5_makeGiven 9 = .ok (.iconst 0, 1) := by decide +kernel
theorem dX5_makeGiven_10 : decode cX5_makeGiven 10 = .ok (.aload_n 0, 1) := by decide +kernel
theorem dX5_makeGiven_11 : decode cX5_makeGiven 11 = .ok (.getfield 51, 3) := by decide +kernel
theorem dX5_makeGiven_14 : decode cX5_makeGiven 14 = .ok (.iconst 0, 1) := by decide +kernel
theorem dX5_makeGiven_15 : decode cX5_makeGiven 15 = .ok (.iconst 5, 1) := by decide +kernel
theorem dX5_makeGiven_16 : decode cX5_makeGiven 16 = .ok (.invokestatic 268, 3) := by decide +kernel
theorem dX5_makeGiven_19 : decode cX5_makeGiven 19 = .ok (.goto 33, 3) := by decide +kernel
theorem dX5_makeGiven_22 : decode cX5_makeGiven 22 = .ok (.iload_n 1, 1) := by decide +kernel
theorem dX5_makeGiven_23 : decode cX5_makeGiven 23 = .ok (.iconst 3, 1) := by decide +kernel
theorem dX5_makeGiven_24 : decode cX5_makeGiven 24 = .ok (.if_icmp .ne 21, 3) := by decide +kernel
theorem dX5_makeGiven_27 : decode cX5_makeGiven 27 = .ok (.aload_n 0, 1) := by decide +kernel
theorem dX5_makeGiven_28 : decode cX5_makeGiven 28 = .ok (.getfield 48, 3) := by decide +kernel
theorem dX5_makeGiven_31 : decode cX5_makeGiven 31 = .ok (.iconst 0, 1) := by decide +kernel
theorem dX5_makeGiven_32 : decode cX5_makeGiven 32 = .ok (.aload_n 0, 1) := by decide +kernel
theorem dX5_makeGiven_33 : decode cX5_makeGiven 33 = .ok (.getfield 51, 3) := by decide +kernel
theorem dX5_makeGiven_36 : decode cX5_makeGiven 36 = .ok (.iconst 0, 1) := by decide +kernel
theorem dX5_makeGiven_37 : decode cX5_makeGiven 37 = .ok (.bipush 21, 2) := by decide +kernel
theorem dX5_makeGiven_39 : decode cX5_makeGiven 39 = .ok (.invokestatic 268, 3) := by decide +kernel
theorem dX5_makeGiven_42 : decode cX5_makeGiven 42 = .ok (.goto 10, 3) := by decide +kernel
theorem dX5_makeGiven_45 : decode cX5_makeGiven 45 = .ok (.aload_n 0, 1) := by decide +kernel
theorem dX5_makeGiven_46 : decode cX5_makeGiven 46 = .ok (.getfield 51, 3) := by decide +kernel
theorem dX5_makeGiven_49 : decode cX5_makeGiven 49 = .ok (.iconst 0, 1) := by decide +kernel
theorem dX5_makeGiven_50 : decode cX5_makeGiven 50 = .ok (.lload_n 2, 1) := by decide +kernel
theorem dX5_makeGiven_51 : decode cX5_makeGiven 51 = .ok (.lastore, 1) := by decide +kernel
theorem dX5_makeGiven_52 : decode cX5_makeGiven 52 = .ok (.return_, 1) := by decide +kernel
theorem dX5_madeFits_0 : decode cX5_madeFits 0 = .ok (.iload_n 1, 1) := by decide +kernel
theorem dX5_madeFits_1 : decode cX5_madeFits 1 = .ok (.ifCond .ne 13, 3) := by decide +kernel
theorem dX5_madeFits_4 : decode cX5_madeFits 4 = .ok (.aload_n 0, 1) := by decide +kernel
theorem dX5_madeFits_5 : decode cX5_madeFits 5 = .ok (.getfield 51, 3) := by decide +kernel
theorem dX5_madeFits_8 : decode cX5_madeFits 8 = .ok (.iconst 0, 1) := by decide +kernel
theorem dX5_madeFits_9 : decode cX5_madeFits 9 = .ok (.laload, 1) := by decide +kernel
theorem dX5_madeFits_10 : decode cX5_madeFits 10 = .ok (.invokestatic 126, 3) := by decide +kernel
theorem dX5_madeFits_13 : decode cX5_madeFits 13 = .ok (.ireturn, 1) := by decide +kernel
theorem dX5_madeFits_14 : decode cX5_madeFits 14 = .ok (.iload_n 1, 1) := by decide +kernel
theorem dX5_madeFits_15 : decode cX5_madeFits 15 = .ok (.iconst 1, 1) := by decide +kernel
theorem dX5_madeFits_16 : decode cX5_madeFits 16 = .ok (.if_icmp .ne 13, 3) := by decide +kernel
theorem dX5_madeFits_19 : decode cX5_madeFits 19 = .ok (.aload_n 0, 1) := by decide +kernel
theorem dX5_madeFits_20 : decode cX5_madeFits 20 = .ok (.getfield 51, 3) := by decide +kernel
theorem dX5_madeFits_23 : decode cX5_madeFits 23 = .ok (.iconst 0, 1) := by decide +kernel
theorem dX5_madeFits_24 : decode cX5_madeFits 24 = .ok (.laload, 1) := by decide +kernel
theorem dX5_madeFits_25 : decode cX5_madeFits 25 = .ok (.invokestatic 58, 3) := by decide +kernel
theorem dX5_madeFits_28 : decode cX5_madeFits 28 = .ok (.ireturn, 1) := by decide +kernel
theorem dX5_madeFits_29 : decode cX5_madeFits 29 = .ok (.iload_n 1, 1) := by decide +kernel
theorem dX5_madeFits_30 : decode cX5_madeFits 30 = .ok (.iconst 2, 1) := by decide +kernel
theorem dX5_madeFits_31 : decode cX5_madeFits 31 = .ok (.if_icmp .ne 39, 3) := by decide +kernel
theorem dX5_madeFits_34 : decode cX5_madeFits 34 = .ok (.aload_n 0, 1) := by decide +kernel
theorem dX5_madeFits_35 : decode cX5_madeFits 35 = .ok (.getfield 51, 3) := by decide +kernel
theorem dX5_madeFits_38 : decode cX5_madeFits 38 = .ok (.iconst 0, 1) := by decide +kernel
theorem dX5_madeFits_39 : decode cX5_madeFits 39 = .ok (.laload, 1) := by decide +kernel
theorem dX5_madeFits_40 : decode cX5_madeFits 40 = .ok (.invokestatic 58, 3) := by decide +kernel
theorem dX5_madeFits_43 : decode cX5_madeFits 43 = .ok (.ifCond .eq 31, 3) := by decide +kernel
theorem dX5_madeFits_46 : decode cX5_madeFits 46 = .ok (.aload_n 0, 1) := by decide +kernel
theorem dX5_madeFits_47 : decode cX5_madeFits 47 = .ok (.getfield 51, 3) := by decide +kernel
theorem dX5_madeFits_50 : decode cX5_madeFits 50 = .ok (.iconst 1, 1) := by decide +kernel
theorem dX5_madeFits_51 : decode cX5_madeFits 51 = .ok (.laload, 1) := by decide +kernel
theorem dX5_madeFits_52 : decode cX5_madeFits 52 = .ok (.invokestatic 58, 3) := by decide +kernel
theorem dX5_madeFits_55 : decode cX5_madeFits 55 = .ok (.ifCond .eq 19, 3) := by decide +kernel
theorem dX5_madeFits_58 : decode cX5_madeFits 58 = .ok (.aload_n 0, 1) := by decide +kernel
theorem dX5_madeFits_59 : decode cX5_madeFits 59 = .ok (.getfield 51, 3) := by decide +kernel
theorem dX5_madeFits_62 : decode cX5_madeFits 62 = .ok (.iconst 3, 1) := by decide +kernel
theorem dX5_madeFits_63 : decode cX5_madeFits 63 = .ok (.laload, 1) := by decide +kernel
theorem dX5_madeFits_64 : decode cX5_madeFits 64 = .ok (.invokestatic 58, 3) := by decide +kernel
theorem dX5_madeFits_67 : decode cX5_madeFits 67 = .ok (.ifCond .eq 7, 3) := by decide +kernel
theorem dX5_madeFits_70 : decode cX5_madeFits 70 = .ok (.iconst 1, 1) := by decide +kernel
theorem dX5_madeFits_71 : decode cX5_madeFits 71 = .ok (.goto 4, 3) := by decide +kernel
theorem dX5_madeFits_74 : decode cX5_madeFits 74 = .ok (.iconst 0, 1) := by decide +kernel
theorem dX5_madeFits_75 : decode cX5_madeFits 75 = .ok (.ireturn, 1) := by decide +kernel
theorem dX5_putMade_0 : decode cX5_putMade 0 = .ok (.aload_n 0, 1) := by decide +kernel
theorem dX5_putMade_1 : decode cX5_putMade 1 = .ok (.iload_n 1, 1) := by decide +kernel
theorem dX5_putMade_2 : decode cX5_putMade 2 = .ok (.invokevirtual 274, 3) := by decide +kernel
theorem dX5_putMade_5 : decode cX5_putMade 5 = .ok (.ifCond .ne 5, 3) := by decide +kernel
theorem dX5_putMade_8 : decode cX5_putMade 8 = .ok (.iconst 0, 1) := by decide +kernel
theorem dX5_putMade_9 : decode cX5_putMade 9 = .ok (.ireturn, 1) := by decide +kernel
theorem dX5_putMade_10 : decode cX5_putMade 10 = .ok (.iload_n 1, 1) := by decide +kernel
theorem dX5_putMade_11 : decode cX5_putMade 11 = .ok (.iload_n 2, 1) := by decide +kernel
theorem dX5_putMade_12 : decode cX5_putMade 12 = .ok (.invokestatic 249, 3) := by decide +kernel
theorem dX5_putMade_15 : decode cX5_putMade 15 = .ok (.istore 4, 2) := by decide +kernel
theorem dX5_putMade_17 : decode cX5_putMade 17 = .ok (.iload_n 3, 1) := by decide +kernel
theorem dX5_putMade_18 : decode cX5_putMade 18 = .ok (.ifCond .ne 70, 3) := by decide +kernel
theorem dX5_putMade_21 : decode cX5_putMade 21 = .ok (.aload_n 0, 1) := by decide +kernel
theorem dX5_putMade_22 : decode cX5_putMade 22 = .ok (.getfield 10, 3) := by decide +kernel
theorem dX5_putMade_25 : decode cX5_putMade 25 = .ok (.getfield 246, 3) := by decide +kernel
theorem dX5_putMade_28 : decode cX5_putMade 28 = .ok (.iload 4, 2) := by decide +kernel
theorem dX5_putMade_30 : decode cX5_putMade 30 = .ok (.iaload, 1) := by decide +kernel
theorem dX5_putMade_31 : decode cX5_putMade 31 = .ok (.aload_n 0, 1) := by decide +kernel
theorem dX5_putMade_32 : decode cX5_putMade 32 = .ok (.getfield 26, 3) := by decide +kernel
theorem dX5_putMade_35 : decode cX5_putMade 35 = .ok (.getfield 134, 3) := by decide +kernel
theorem dX5_putMade_38 : decode cX5_putMade 38 = .ok (.if_icmp .ge 50, 3) := by decide +kernel
theorem dX5_putMade_41 : decode cX5_putMade 41 = .ok (.aload_n 0, 1) := by decide +kernel
theorem dX5_putMade_42 : decode cX5_putMade 42 = .ok (.getfield 19, 3) := by decide +kernel
theorem dX5_putMade_45 : decode cX5_putMade 45 = .ok (.getfield 143, 3) := by decide +kernel
theorem dX5_putMade_48 : decode cX5_putMade 48 = .ok (.ifCond .lt 16, 3) := by decide +kernel
theorem dX5_putMade_51 : decode cX5_putMade 51 = .ok (.aload_n 0, 1) := by decide +kernel
theorem dX5_putMade_52 : decode cX5_putMade 52 = .ok (.getfield 19, 3) := by decide +kernel
theorem dX5_putMade_55 : decode cX5_putMade 55 = .ok (.getfield 143, 3) := by decide +kernel
theorem dX5_putMade_58 : decode cX5_putMade 58 = .ok (.sipush 200, 3) := by decide +kernel
theorem dX5_putMade_61 : decode cX5_putMade 61 = .ok (.if_icmp .lt 14, 3) := by decide +kernel
theorem dX5_putMade_64 : decode cX5_putMade 64 = .ok (.new 138, 3) := by decide +kernel
theorem dX5_putMade_67 : decode cX5_putMade 67 = .ok (.dup, 1) := by decide +kernel
theorem dX5_putMade_68 : decode cX5_putMade 68 = .ok (.ldc_w 278, 3) := by decide +kernel
theorem dX5_putMade_71 : decode cX5_putMade 71 = .ok (.invokespecial 142, 3) := by decide +kernel
theorem dX5_putMade_74 : decode cX5_putMade 74 = .ok (.athrow, 1) := by decide +kernel
theorem dX5_putMade_75 : decode cX5_putMade 75 = .ok (.aload_n 0, 1) := by decide +kernel
theorem dX5_putMade_76 : decode cX5_putMade 76 = .ok (.getfield 19, 3) := by decide +kernel
theorem dX5_putMade_79 : decode cX5_putMade 79 = .ok (.aload_n 0, 1) := by decide +kernel
theorem dX5_putMade_80 : decode cX5_putMade 80 = .ok (.getfield 10, 3) := by decide +kernel
theorem dX5_putMade_83 : decode cX5_putMade 83 = .ok (.iload_n 1, 1) := by decide +kernel
theorem dX5_putMade_84 : decode cX5_putMade 84 = .ok (.iload_n 2, 1) := by decide +kernel
theorem dX5_putMade_85 : decode cX5_putMade 85 = .ok (.invokevirtual 280, 3) := by decide +kernel
theorem dX5_putMade_88 : decode cX5_putMade 88 = .ok (.aload_n 0, 1) := by decide +kernel
theorem dX5_putMade_89 : decode cX5_putMade 89 = .ok (.getfield 10, 3) := by decide +kernel
theorem dX5_putMade_92 : decode cX5_putMade 92 = .ok (.aload_n 0, 1) := by decide +kernel
theorem dX5_putMade_93 : decode cX5_putMade 93 = .ok (.getfield 51, 3) := by decide +kernel
theorem dX5_putMade_96 : decode cX5_putMade 96 = .ok (.iconst 0, 1) := by decide +kernel
theorem dX5_putMade_97 : decode cX5_putMade 97 = .ok (.iload_n 1, 1) := by decide +kernel
theorem dX5_putMade_98 : decode cX5_putMade 98 = .ok (.iload_n 2, 1) := by decide +kernel
theorem dX5_putMade_99 : decode cX5_putMade 99 = .ok (.invokevirtual 284, 3) := by decide +kernel
theorem dX5_putMade_102 : decode cX5_putMade 102 = .ok (.aload_n 0, 1) := by decide +kernel
theorem dX5_putMade_103 : decode cX5_putMade 103 = .ok (.getfield 10, 3) := by decide +kernel
theorem dX5_putMade_106 : decode cX5_putMade 106 = .ok (.getfield 246, 3) := by decide +kernel
theorem dX5_putMade_109 : decode cX5_putMade 109 = .ok (.iload 4, 2) := by decide +kernel
theorem dX5_putMade_111 : decode cX5_putMade 111 = .ok (.iload_n 3, 1) := by decide +kernel
theorem dX5_putMade_112 : decode cX5_putMade 112 = .ok (.ifCond .eq 7, 3) := by decide +kernel
theorem dX5_putMade_115 : decode cX5_putMade 115 = .ok (.iconst 0, 1) := by decide +kernel
theorem dX5_putMade_116 : decode cX5_putMade 116 = .ok (.goto 10, 3) := by decide +kernel
theorem dX5_putMade_119 : decode cX5_putMade 119 = .ok (.aload_n 0, 1) := by decide +kernel
theorem dX5_putMade_120 : decode cX5_putMade 120 = .ok (.getfield 26, 3) := by decide +kernel
theorem dX5_putMade_123 : decode cX5_putMade 123 = .ok (.getfield 134, 3) := by decide +kernel
theorem dX5_putMade_126 : decode cX5_putMade 126 = .ok (.iastore, 1) := by decide +kernel
theorem dX5_putMade_127 : decode cX5_putMade 127 = .ok (.iconst 1, 1) := by decide +kernel
theorem dX5_putMade_128 : decode cX5_putMade 128 = .ok (.ireturn, 1) := by decide +kernel
theorem dX5_addGlue_0 : decode cX5_addGlue 0 = .ok (.aload_n 0, 1) := by decide +kernel
theorem dX5_addGlue_1 : decode cX5_addGlue 1 = .ok (.getfield 51, 3) := by decide +kernel
theorem dX5_addGlue_4 : decode cX5_addGlue 4 = .ok (.iconst 0, 1) := by decide +kernel
theorem dX5_addGlue_5 : decode cX5_addGlue 5 = .ok (.dup2, 1) := by decide +kernel
theorem dX5_addGlue_6 : decode cX5_addGlue 6 = .ok (.laload, 1) := by decide +kernel
theorem dX5_addGlue_7 : decode cX5_addGlue 7 = .ok (.aload_n 0, 1) := by decide +kernel
theorem dX5_addGlue_8 : decode cX5_addGlue 8 = .ok (.getfield 10, 3) := by decide +kernel
theorem dX5_addGlue_11 : decode cX5_addGlue 11 = .ok (.getfield 99, 3) := by decide +kernel
theorem dX5_addGlue_14 : decode cX5_addGlue 14 = .ok (.iload_n 1, 1) := by decide +kernel
theorem dX5_addGlue_15 : decode cX5_addGlue 15 = .ok (.laload, 1) := by decide +kernel
theorem dX5_addGlue_16 : decode cX5_addGlue 16 = .ok (.ladd, 1) := by decide +kernel
theorem dX5_addGlue_17 : decode cX5_addGlue 17 = .ok (.lastore, 1) := by decide +kernel
theorem dX5_addGlue_18 : decode cX5_addGlue 18 = .ok (.aload_n 0, 1) := by decide +kernel
theorem dX5_addGlue_19 : decode cX5_addGlue 19 = .ok (.iconst 1, 1) := by decide +kernel
theorem dX5_addGlue_20 : decode cX5_addGlue 20 = .ok (.aload_n 0, 1) := by decide +kernel
theorem dX5_addGlue_21 : decode cX5_addGlue 21 = .ok (.getfield 10, 3) := by decide +kernel
theorem dX5_addGlue_24 : decode cX5_addGlue 24 = .ok (.getfield 99, 3) := by decide +kernel
theorem dX5_addGlue_27 : decode cX5_addGlue 27 = .ok (.iload_n 1, 1) := by decide +kernel
theorem dX5_addGlue_28 : decode cX5_addGlue 28 = .ok (.iconst 1, 1) := by decide +kernel
theorem dX5_addGlue_29 : decode cX5_addGlue 29 = .ok (.iadd, 1) := by decide +kernel
theorem dX5_addGlue_30 : decode cX5_addGlue 30 = .ok (.laload, 1) := by decide +kernel
theorem dX5_addGlue_31 : decode cX5_addGlue 31 = .ok (.aload_n 0, 1) := by decide +kernel
theorem dX5_addGlue_32 : decode cX5_addGlue 32 = .ok (.getfield 10, 3) := by decide +kernel
theorem dX5_addGlue_35 : decode cX5_addGlue 35 = .ok (.getfield 99, 3) := by decide +kernel
theorem dX5_addGlue_38 : decode cX5_addGlue 38 = .ok (.iload_n 1, 1) := by decide +kernel
theorem dX5_addGlue_39 : decode cX5_addGlue 39 = .ok (.iconst 1, 1) := by decide +kernel
theorem dX5_addGlue_40 : decode cX5_addGlue 40 = .ok (.iadd, 1) := by decide +kernel
theorem dX5_addGlue_41 : decode cX5_addGlue 41 = .ok (.iconst 1, 1) := by decide +kernel
theorem dX5_addGlue_42 : decode cX5_addGlue 42 = .ok (.iadd, 1) := by decide +kernel
theorem dX5_addGlue_43 : decode cX5_addGlue 43 = .ok (.laload, 1) := by decide +kernel
theorem dX5_addGlue_44 : decode cX5_addGlue 44 = .ok (.invokevirtual 288, 3) := by decide +kernel
theorem dX5_addGlue_47 : decode cX5_addGlue 47 = .ok (.aload_n 0, 1) := by decide +kernel
theorem dX5_addGlue_48 : decode cX5_addGlue 48 = .ok (.iconst 3, 1) := by decide +kernel
theorem dX5_addGlue_49 : decode cX5_addGlue 49 = .ok (.aload_n 0, 1) := by decide +kernel
theorem dX5_addGlue_50 : decode cX5_addGlue 50 = .ok (.getfield 10, 3) := by decide +kernel
theorem dX5_addGlue_53 : decode cX5_addGlue 53 = .ok (.getfield 99, 3) := by decide +kernel
theorem dX5_addGlue_56 : decode cX5_addGlue 56 = .ok (.iload_n 1, 1) := by decide +kernel
theorem dX5_addGlue_57 : decode cX5_addGlue 57 = .ok (.iconst 3, 1) := by decide +kernel
theorem dX5_addGlue_58 : decode cX5_addGlue 58 = .ok (.iadd, 1) := by decide +kernel
theorem dX5_addGlue_59 : decode cX5_addGlue 59 = .ok (.laload, 1) := by decide +kernel
theorem dX5_addGlue_60 : decode cX5_addGlue 60 = .ok (.aload_n 0, 1) := by decide +kernel
theorem dX5_addGlue_61 : decode cX5_addGlue 61 = .ok (.getfield 10, 3) := by decide +kernel
theorem dX5_addGlue_64 : decode cX5_addGlue 64 = .ok (.getfield 99, 3) := by decide +kernel
theorem dX5_addGlue_67 : decode cX5_addGlue 67 = .ok (.iload_n 1, 1) := by decide +kernel
theorem dX5_addGlue_68 : decode cX5_addGlue 68 = .ok (.iconst 3, 1) := by decide +kernel
theorem dX5_addGlue_69 : decode cX5_addGlue 69 = .ok (.iadd, 1) := by decide +kernel
theorem dX5_addGlue_70 : decode cX5_addGlue 70 = .ok (.iconst 1, 1) := by decide +kernel
theorem dX5_addGlue_71 : decode cX5_addGlue 71 = .ok (.iadd, 1) := by decide +kernel
theorem dX5_addGlue_72 : decode cX5_addGlue 72 = .ok (.laload, 1) := by decide +kernel
theorem dX5_addGlue_73 : decode cX5_addGlue 73 = .ok (.invokevirtual 288, 3) := by decide +kernel
theorem dX5_addGlue_76 : decode cX5_addGlue 76 = .ok (.return_, 1) := by decide +kernel
theorem dX5_addFlexible_0 : decode cX5_addFlexible 0 = .ok (.aload_n 0, 1) := by decide +kernel
theorem dX5_addFlexible_1 : decode cX5_addFlexible 1 = .ok (.getfield 51, 3) := by decide +kernel
theorem dX5_addFlexible_4 : decode cX5_addFlexible 4 = .ok (.iload_n 1, 1) := by decide +kernel
theorem dX5_addFlexible_5 : decode cX5_addFlexible 5 = .ok (.laload, 1) := by decide +kernel
theorem dX5_addFlexible_6 : decode cX5_addFlexible 6 = .ok (.lconst 0, 1) := by decide +kernel
theorem dX5_addFlexible_7 : decode cX5_addFlexible 7 = .ok (.lcmp, 1) := by decide +kernel
theorem dX5_addFlexible_8 : decode cX5_addFlexible 8 = .ok (.ifCond .ne 7, 3) := by decide +kernel
theorem dX5_addFlexible_11 : decode cX5_addFlexible 11 = .ok (.lconst 0, 1) := by decide +kernel
theorem dX5_addFlexible_12 : decode cX5_addFlexible 12 = .ok (.goto 11, 3) := by decide +kernel
theorem dX5_addFlexible_15 : decode cX5_addFlexible 15 = .ok (.aload_n 0, 1) := by decide +kernel
theorem dX5_addFlexible_16 : decode cX5_addFlexible 16 = .ok (.getfield 51, 3) := by decide +kernel
theorem dX5_addFlexible_19 : decode cX5_addFlexible 19 = .ok (.iload_n 1, 1) := by decide +kernel
theorem dX5_addFlexible_20 : decode cX5_addFlexible 20 = .ok (.iconst 1, 1) := by decide +kernel
theorem dX5_addFlexible_21 : decode cX5_addFlexible 21 = .ok (.iadd, 1) := by decide +kernel
theorem dX5_addFlexible_22 : decode cX5_addFlexible 22 = .ok (.laload, 1) := by decide +kernel
theorem dX5_addFlexible_23 : decode cX5_addFlexible 23 = .ok (.lstore 6, 2) := by decide +kernel
theorem dX5_addFlexible_25 : decode cX5_addFlexible 25 = .ok (.lload 4, 2) := by decide +kernel
theorem dX5_addFlexible_27 : decode cX5_addFlexible 27 = .ok (.lload 6, 2) := by decide +kernel
theorem dX5_addFlexible_29 : decode cX5_addFlexible 29 = .ok (.lcmp, 1) := by decide +kernel
theorem dX5_addFlexible_30 : decode cX5_addFlexible 30 = .ok (.ifCond .ne 26, 3) := by decide +kernel
theorem dX5_addFlexible_33 : decode cX5_addFlexible 33 = .ok (.aload_n 0, 1) := by decide +kernel
theorem dX5_addFlexible_34 : decode cX5_addFlexible 34 = .ok (.getfield 51, 3) := by decide +kernel
theorem dX5_addFlexible_37 : decode cX5_addFlexible 37 = .ok (.iload_n 1, 1) := by decide +kernel
theorem dX5_addFlexible_38 : decode cX5_addFlexible 38 = .ok (.dup2, 1) := by decide +kernel
theorem dX5_addFlexible_39 : decode cX5_addFlexible 39 = .ok (.laload, 1) := by decide +kernel
theorem dX5_addFlexible_40 : decode cX5_addFlexible 40 = .ok (.lload_n 2, 1) := by decide +kernel
theorem dX5_addFlexible_41 : decode cX5_addFlexible 41 = .ok (.ladd, 1) := by decide +kernel
theorem dX5_addFlexible_42 : decode cX5_addFlexible 42 = .ok (.lastore, 1) := by decide +kernel
theorem dX5_addFlexible_43 : decode cX5_addFlexible 43 = .ok (.aload_n 0, 1) := by decide +kernel
theorem dX5_addFlexible_44 : decode cX5_addFlexible 44 = .ok (.getfield 51, 3) := by decide +kernel
theorem dX5_addFlexible_47 : decode cX5_addFlexible 47 = .ok (.iload_n 1, 1) := by decide +kernel
theorem dX5_addFlexible_48 : decode cX5_addFlexible 48 = .ok (.iconst 1, 1) := by decide +kernel
theorem dX5_addFlexible_49 : decode cX5_addFlexible 49 = .ok (.iadd, 1) := by decide +kernel
theorem dX5_addFlexible_50 : decode cX5_addFlexible 50 = .ok (.lload 6, 2) := by decide +kernel
theorem dX5_addFlexible_52 : decode cX5_addFlexible 52 = .ok (.lastore, 1) := by decide +kernel
theorem dX5_addFlexible_53 : decode cX5_addFlexible 53 = .ok (.goto 34, 3) := by decide +kernel
theorem dX5_addFlexible_56 : decode cX5_addFlexible 56 = .ok (.lload 4, 2) := by decide +kernel
theorem dX5_addFlexible_58 : decode cX5_addFlexible 58 = .ok (.lload 6, 2) := by decide +kernel
theorem dX5_addFlexible_60 : decode cX5_addFlexible 60 = .ok (.lcmp, 1) := by decide +kernel
theorem dX5_addFlexible_61 : decode cX5_addFlexible 61 = .ok (.ifCond .le 26, 3) := by decide +kernel
theorem dX5_addFlexible_64 : decode cX5_addFlexible 64 = .ok (.lload_n 2, 1) := by decide +kernel
theorem dX5_addFlexible_65 : decode cX5_addFlexible 65 = .ok (.lconst 0, 1) := by decide +kernel
theorem dX5_addFlexible_66 : decode cX5_addFlexible 66 = .ok (.lcmp, 1) := by decide +kernel
theorem dX5_addFlexible_67 : decode cX5_addFlexible 67 = .ok (.ifCond .eq 20, 3) := by decide +kernel
theorem dX5_addFlexible_70 : decode cX5_addFlexible 70 = .ok (.aload_n 0, 1) := by decide +kernel
theorem dX5_addFlexible_71 : decode cX5_addFlexible 71 = .ok (.getfield 51, 3) := by decide +kernel
theorem dX5_addFlexible_74 : decode cX5_addFlexible 74 = .ok (.iload_n 1, 1) := by decide +kernel
theorem dX5_addFlexible_75 : decode cX5_addFlexible 75 = .ok (.lload_n 2, 1) := by decide +kernel
theorem dX5_addFlexible_76 : decode cX5_addFlexible 76 = .ok (.lastore, 1) := by decide +kernel
theorem dX5_addFlexible_77 : decode cX5_addFlexible 77 = .ok (.aload_n 0, 1) := by decide +kernel
theorem dX5_addFlexible_78 : decode cX5_addFlexible 78 = .ok (.getfield 51, 3) := by decide +kernel
theorem dX5_addFlexible_81 : decode cX5_addFlexible 81 = .ok (.iload_n 1, 1) := by decide +kernel
theorem dX5_addFlexible_82 : decode cX5_addFlexible 82 = .ok (.iconst 1, 1) := by decide +kernel
theorem dX5_addFlexible_83 : decode cX5_addFlexible 83 = .ok (.iadd, 1) := by decide +kernel
theorem dX5_addFlexible_84 : decode cX5_addFlexible 84 = .ok (.lload 4, 2) := by decide +kernel
theorem dX5_addFlexible_86 : decode cX5_addFlexible 86 = .ok (.lastore, 1) := by decide +kernel
theorem dX5_addFlexible_87 : decode cX5_addFlexible 87 = .ok (.return_, 1) := by decide +kernel
theorem dX5_giveBackKept_0 : decode cX5_giveBackKept 0 = .ok (.aload_n 0, 1) := by decide +kernel
theorem dX5_giveBackKept_1 : decode cX5_giveBackKept 1 = .ok (.getfield 19, 3) := by decide +kernel
theorem dX5_giveBackKept_4 : decode cX5_giveBackKept 4 = .ok (.getfield 143, 3) := by decide +kernel
theorem dX5_giveBackKept_7 : decode cX5_giveBackKept 7 = .ok (.iconst 1, 1) := by decide +kernel
theorem dX5_giveBackKept_8 : decode cX5_giveBackKept 8 = .ok (.isub, 1) := by decide +kernel
theorem dX5_giveBackKept_9 : decode cX5_giveBackKept 9 = .ok (.istore_n 2, 1) := by decide +kernel
theorem dX5_giveBackKept_10 : decode cX5_giveBackKept 10 = .ok (.iload_n 2, 1) := by decide +kernel
theorem dX5_giveBackKept_11 : decode cX5_giveBackKept 11 = .ok (.iload_n 1, 1) := by decide +kernel
theorem dX5_giveBackKept_12 : decode cX5_giveBackKept 12 = .ok (.if_icmp .lt 154, 3) := by decide +kernel
theorem dX5_giveBackKept_15 : decode cX5_giveBackKept 15 = .ok (.iload_n 2, 1) := by decide +kernel
theorem dX5_giveBackKept_16 : decode cX5_giveBackKept 16 = .ok (.ifCond .lt 150, 3) := by decide +kernel
theorem dX5_giveBackKept_19 : decode cX5_giveBackKept 19 = .ok (.iload_n 2, 1) := by decide +kernel
theorem dX5_giveBackKept_20 : decode cX5_giveBackKept 20 = .ok (.sipush 200, 3) := by decide +kernel
theorem dX5_giveBackKept_23 : decode cX5_giveBackKept 23 = .ok (.if_icmp .ge 143, 3) := by decide +kernel
theorem dX5_giveBackKept_26 : decode cX5_giveBackKept 26 = .ok (.aload_n 0, 1) := by decide +kernel
theorem dX5_giveBackKept_27 : decode cX5_giveBackKept 27 = .ok (.getfield 19, 3) := by decide +kernel
theorem dX5_giveBackKept_30 : decode cX5_giveBackKept 30 = .ok (.getfield 292, 3) := by decide +kernel
theorem dX5_giveBackKept_33 : decode cX5_giveBackKept 33 = .ok (.iload_n 2, 1) := by decide +kernel
theorem dX5_giveBackKept_34 : decode cX5_giveBackKept 34 = .ok (.iaload, 1) := by decide +kernel
theorem dX5_giveBackKept_35 : decode cX5_giveBackKept 35 = .ok (.istore_n 3, 1) := by decide +kernel
theorem dX5_giveBackKept_36 : decode cX5_giveBackKept 36 = .ok (.aload_n 0, 1) := by decide +kernel
theorem dX5_giveBackKept_37 : decode cX5_giveBackKept 37 = .ok (.getfield 19, 3) := by decide +kernel
theorem dX5_giveBackKept_40 : decode cX5_giveBackKept 40 = .ok (.getfield 293, 3) := by decide +kernel
theorem dX5_giveBackKept_43 : decode cX5_giveBackKept 43 = .ok (.iload_n 2, 1) := by decide +kernel
theorem dX5_giveBackKept_44 : decode cX5_giveBackKept 44 = .ok (.iaload, 1) := by decide +kernel
theorem dX5_giveBackKept_45 : decode cX5_giveBackKept 45 = .ok (.istore 4, 2) := by decide +kernel
theorem dX5_giveBackKept_47 : decode cX5_giveBackKept 47 = .ok (.iload_n 3, 1) := by decide +kernel
theorem dX5_giveBackKept_48 : decode cX5_giveBackKept 48 = .ok (.i2l, 1) := by decide +kernel
theorem dX5_giveBackKept_49 : decode cX5_giveBackKept 49 = .ok (.lconst 0, 1) := by decide +kernel
theorem dX5_giveBackKept_50 : decode cX5_giveBackKept 50 = .ok (.ldc2_w 106, 3) := by decide +kernel
theorem dX5_giveBackKept_53 : decode cX5_giveBackKept 53 = .ok (.invokestatic 71, 3) := by decide +kernel
theorem dX5_giveBackKept_56 : decode cX5_giveBackKept 56 = .ok (.ifCond .eq 104, 3) := by decide +kernel
theorem dX5_giveBackKept_59 : decode cX5_giveBackKept 59 = .ok (.iload 4, 2) := by decide +kernel
theorem dX5_giveBackKept_61 : decode cX5_giveBackKept 61 = .ok (.i2l, 1) := by decide +kernel
theorem dX5_giveBackKept_62 : decode cX5_giveBackKept 62 = .ok (.lconst 0, 1) := by decide +kernel
theorem dX5_giveBackKept_63 : decode cX5_giveBackKept 63 = .ok (.ldc2_w 260, 3) := by decide +kernel
theorem dX5_giveBackKept_66 : decode cX5_giveBackKept 66 = .ok (.invokestatic 71, 3) := by decide +kernel
theorem dX5_giveBackKept_69 : decode cX5_giveBackKept 69 = .ok (.ifCond .ne 6, 3) := by decide +kernel
theorem dX5_giveBackKept_72 : decode cX5_giveBackKept 72 = .ok (.goto 88, 3) := by decide +kernel
theorem dX5_giveBackKept_75 : decode cX5_giveBackKept 75 = .ok (.iload_n 3, 1) := by decide +kernel
theorem dX5_giveBackKept_76 : decode cX5_giveBackKept 76 = .ok (.iload 4, 2) := by decide +kernel
theorem dX5_giveBackKept_78 : decode cX5_giveBackKept 78 = .ok (.invokestatic 249, 3) := by decide +kernel
theorem dX5_giveBackKept_81 : decode cX5_giveBackKept 81 = .ok (.istore 5, 2) := by decide +kernel
theorem dX5_giveBackKept_83 : decode cX5_giveBackKept 83 = .ok (.aload_n 0, 1) := by decide +kernel
theorem dX5_giveBackKept_84 : decode cX5_giveBackKept 84 = .ok (.getfield 10, 3) := by decide +kernel
theorem dX5_giveBackKept_87 : decode cX5_giveBackKept 87 = .ok (.getfield 246, 3) := by decide +kernel
theorem dX5_giveBackKept_90 : decode cX5_giveBackKept 90 = .ok (.iload 5, 2) := by decide +kernel
theorem dX5_giveBackKept_92 : decode cX5_giveBackKept 92 = .ok (.iaload, 1) := by decide +kernel
theorem dX5_giveBackKept_93 : decode cX5_giveBackKept 93 = .ok (.ifCond .eq 7, 3) := by decide +kernel
theorem dX5_giveBackKept_96 : decode cX5_giveBackKept 96 = .ok (.iconst 1, 1) := by decide +kernel
theorem dX5_giveBackKept_97 : decode cX5_giveBackKept 97 = .ok (.goto 4, 3) := by decide +kernel
theorem dX5_giveBackKept_100 : decode cX5_giveBackKept 100 = .ok (.iconst 0, 1) := by decide +kernel
theorem dX5_giveBackKept_101 : decode cX5_giveBackKept 101 = .ok (.istore 6, 2) := by decide +kernel
theorem dX5_giveBackKept_103 : decode cX5_giveBackKept 103 = .ok (.iload 6, 2) := by decide +kernel
theorem dX5_giveBackKept_105 : decode cX5_giveBackKept 105 = .ok (.ifCond .eq 43, 3) := by decide +kernel
theorem dX5_giveBackKept_108 : decode cX5_giveBackKept 108 = .ok (.aload_n 0, 1) := by decide +kernel
theorem dX5_giveBackKept_109 : decode cX5_giveBackKept 109 = .ok (.getfield 10, 3) := by decide +kernel
theorem dX5_giveBackKept_112 : decode cX5_giveBackKept 112 = .ok (.aload_n 0, 1) := by decide +kernel
theorem dX5_giveBackKept_113 : decode cX5_giveBackKept 113 = .ok (.getfield 19, 3) := by decide +kernel
theorem dX5_giveBackKept_116 : decode cX5_giveBackKept 116 = .ok (.getfield 294, 3) := by decide +kernel
theorem dX5_giveBackKept_119 : decode cX5_giveBackKept 119 = .ok (.iload_n 2, 1) := by decide +kernel
theorem dX5_giveBackKept_120 : decode cX5_giveBackKept 120 = .ok (.bipush 21, 2) := by decide +kernel
theorem dX5_giveBackKept_122 : decode cX5_giveBackKept 122 = .ok (.imul, 1) := by decide +kernel
theorem dX5_giveBackKept_123 : decode cX5_giveBackKept 123 = .ok (.iload_n 3, 1) := by decide +kernel
theorem dX5_giveBackKept_124 : decode cX5_giveBackKept 124 = .ok (.iload 4, 2) := by decide +kernel
theorem dX5_giveBackKept_126 : decode cX5_giveBackKept 126 = .ok (.invokevirtual 284, 3) := by decide +kernel
theorem dX5_giveBackKept_129 : decode cX5_giveBackKept 129 = .ok (.aload_n 0, 1) := by decide +kernel
theorem dX5_giveBackKept_130 : decode cX5_giveBackKept 130 = .ok (.getfield 10, 3) := by decide +kernel
theorem dX5_giveBackKept_133 : decode cX5_giveBackKept 133 = .ok (.getfield 246, 3) := by decide +kernel
theorem dX5_giveBackKept_136 : decode cX5_giveBackKept 136 = .ok (.iload 5, 2) := by decide +kernel
theorem dX5_giveBackKept_138 : decode cX5_giveBackKept 138 = .ok (.aload_n 0, 1) := by decide +kernel
theorem dX5_giveBackKept_139 : decode cX5_giveBackKept 139 = .ok (.getfield 19, 3) := by decide +kernel
theorem dX5_giveBackKept_142 : decode cX5_giveBackKept 142 = .ok (.getfield 295, 3) := by decide +kernel
theorem dX5_giveBackKept_145 : decode cX5_giveBackKept 145 = .ok (.iload_n 2, 1) := by decide +kernel
theorem dX5_giveBackKept_146 : decode cX5_giveBackKept 146 = .ok (.iaload, 1) := by decide +kernel
theorem dX5_giveBackKept_147 : decode cX5_giveBackKept 147 = .ok (.iastore, 1) := by decide +kernel
theorem dX5_giveBackKept_148 : decode cX5_giveBackKept 148 = .ok (.aload_n 0, 1) := by decide +kernel
theorem dX5_giveBackKept_149 : decode cX5_giveBackKept 149 = .ok (.getfield 33, 3) := by decide +kernel
theorem dX5_giveBackKept_152 : decode cX5_giveBackKept 152 = .ok (.iload_n 3, 1) := by decide +kernel
theorem dX5_giveBackKept_153 : decode cX5_giveBackKept 153 = .ok (.iload 4, 2) := by decide +kernel
theorem dX5_giveBackKept_155 : decode cX5_giveBackKept 155 = .ok (.iload 6, 2) := by decide +kernel
theorem dX5_giveBackKept_157 : decode cX5_giveBackKept 157 = .ok (.invokevirtual 296, 3) := by decide +kernel
theorem dX5_giveBackKept_160 : decode cX5_giveBackKept 160 = .ok (.iinc 2 (-1), 3) := by decide +kernel
theorem dX5_giveBackKept_163 : decode cX5_giveBackKept 163 = .ok (.goto (-153), 3) := by decide +kernel
theorem dX5_giveBackKept_166 : decode cX5_giveBackKept 166 = .ok (.aload_n 0, 1) := by decide +kernel
theorem dX5_giveBackKept_167 : decode cX5_giveBackKept 167 = .ok (.getfield 19, 3) := by decide +kernel
theorem dX5_giveBackKept_170 : decode cX5_giveBackKept 170 = .ok (.iload_n 1, 1) := by decide +kernel
theorem dX5_giveBackKept_171 : decode cX5_giveBackKept 171 = .ok (.putfield 143, 3) := by decide +kernel
theorem dX5_giveBackKept_174 : decode cX5_giveBackKept 174 = .ok (.return_, 1) := by decide +kernel
theorem dX5_inPoints_0 : decode cX5_inPoints 0 = .ok (.lload 6, 2) := by decide +kernel
theorem dX5_inPoints_2 : decode cX5_inPoints 2 = .ok (.lconst 0, 1) := by decide +kernel
theorem dX5_inPoints_3 : decode cX5_inPoints 3 = .ok (.lcmp, 1) := by decide +kernel
theorem dX5_inPoints_4 : decode cX5_inPoints 4 = .ok (.ifCond .gt 5, 3) := by decide +kernel
theorem dX5_inPoints_7 : decode cX5_inPoints 7 = .ok (.lconst 0, 1) := by decide +kernel
theorem dX5_inPoints_8 : decode cX5_inPoints 8 = .ok (.lreturn, 1) := by decide +kernel
theorem dX5_inPoints_9 : decode cX5_inPoints 9 = .ok (.lload_n 0, 1) := by decide +kernel
theorem dX5_inPoints_10 : decode cX5_inPoints 10 = .ok (.lload 4, 2) := by decide +kernel
theorem dX5_inPoints_12 : decode cX5_inPoints 12 = .ok (.lmul, 1) := by decide +kernel
theorem dX5_inPoints_13 : decode cX5_inPoints 13 = .ok (.lload 6, 2) := by decide +kernel
theorem dX5_inPoints_15 : decode cX5_inPoints 15 = .ok (.ldiv, 1) := by decide +kernel
theorem dX5_inPoints_16 : decode cX5_inPoints 16 = .ok (.lstore 8, 2) := by decide +kernel
theorem dX5_inPoints_18 : decode cX5_inPoints 18 = .ok (.lload_n 0, 1) := by decide +kernel
theorem dX5_inPoints_19 : decode cX5_inPoints 19 = .ok (.lload 4, 2) := by decide +kernel
theorem dX5_inPoints_21 : decode cX5_inPoints 21 = .ok (.lmul, 1) := by decide +kernel
theorem dX5_inPoints_22 : decode cX5_inPoints 22 = .ok (.lload 6, 2) := by decide +kernel
theorem dX5_inPoints_24 : decode cX5_inPoints 24 = .ok (.lrem, 1) := by decide +kernel
theorem dX5_inPoints_25 : decode cX5_inPoints 25 = .ok (.lstore 10, 2) := by decide +kernel
theorem dX5_inPoints_27 : decode cX5_inPoints 27 = .ok (.ldc2_w 299, 3) := by decide +kernel
theorem dX5_inPoints_30 : decode cX5_inPoints 30 = .ok (.lload 8, 2) := by decide +kernel
theorem dX5_inPoints_32 : decode cX5_inPoints 32 = .ok (.lmul, 1) := by decide +kernel
theorem dX5_inPoints_33 : decode cX5_inPoints 33 = .ok (.lload 4, 2) := by decide +kernel
theorem dX5_inPoints_35 : decode cX5_inPoints 35 = .ok (.lload_n 2, 1) := by decide +kernel
theorem dX5_inPoints_36 : decode cX5_inPoints 36 = .ok (.lmul, 1) := by decide +kernel
theorem dX5_inPoints_37 : decode cX5_inPoints 37 = .ok (.ldc2_w 299, 3) := by decide +kernel
theorem dX5_inPoints_40 : decode cX5_inPoints 40 = .ok (.lload 10, 2) := by decide +kernel
theorem dX5_inPoints_42 : decode cX5_inPoints 42 = .ok (.lmul, 1) := by decide +kernel
theorem dX5_inPoints_43 : decode cX5_inPoints 43 = .ok (.ladd, 1) := by decide +kernel
theorem dX5_inPoints_44 : decode cX5_inPoints 44 = .ok (.lload 6, 2) := by decide +kernel
theorem dX5_inPoints_46 : decode cX5_inPoints 46 = .ok (.ldiv, 1) := by decide +kernel
theorem dX5_inPoints_47 : decode cX5_inPoints 47 = .ok (.ladd, 1) := by decide +kernel
theorem dX5_inPoints_48 : decode cX5_inPoints 48 = .ok (.lreturn, 1) := by decide +kernel
theorem dX5_writeRegister_0 : decode cX5_writeRegister 0 = .ok (.iload_n 1, 1) := by decide +kernel
theorem dX5_writeRegister_1 : decode cX5_writeRegister 1 = .ok (.ifCond .ne 22, 3) := by decide +kernel
theorem dX5_writeRegister_4 : decode cX5_writeRegister 4 = .ok (.aload_n 0, 1) := by decide +kernel
theorem dX5_writeRegister_5 : decode cX5_writeRegister 5 = .ok (.getfield 40, 3) := by decide +kernel
theorem dX5_writeRegister_8 : decode cX5_writeRegister 8 = .ok (.aload_n 0, 1) := by decide +kernel
theorem dX5_writeRegister_9 : decode cX5_writeRegister 9 = .ok (.getfield 10, 3) := by decide +kernel
theorem dX5_writeRegister_12 : decode cX5_writeRegister 12 = .ok (.getfield 99, 3) := by decide +kernel
theorem dX5_writeRegister_15 : decode cX5_writeRegister 15 = .ok (.iload_n 2, 1) := by decide +kernel
theorem dX5_writeRegister_16 : decode cX5_writeRegister 16 = .ok (.laload, 1) := by decide +kernel
theorem dX5_writeRegister_17 : decode cX5_writeRegister 17 = .ok (.invokevirtual 301, 3) := by decide +kernel
theorem dX5_writeRegister_20 : decode cX5_writeRegister 20 = .ok (.goto 98, 3) := by decide +kernel
theorem dX5_writeRegister_23 : decode cX5_writeRegister 23 = .ok (.iload_n 1, 1) := by decide +kernel
theorem dX5_writeRegister_24 : decode cX5_writeRegister 24 = .ok (.iconst 1, 1) := by decide +kernel
theorem dX5_writeRegister_25 : decode cX5_writeRegister 25 = .ok (.if_icmp .ne 22, 3) := by decide +kernel
theorem dX5_writeRegister_28 : decode cX5_writeRegister 28 = .ok (.aload_n 0, 1) := by decide +kernel
theorem dX5_writeRegister_29 : decode cX5_writeRegister 29 = .ok (.getfield 40, 3) := by decide +kernel
theorem dX5_writeRegister_32 : decode cX5_writeRegister 32 = .ok (.aload_n 0, 1) := by decide +kernel
theorem dX5_writeRegister_33 : decode cX5_writeRegister 33 = .ok (.getfield 10, 3) := by decide +kernel
theorem dX5_writeRegister_36 : decode cX5_writeRegister 36 = .ok (.getfield 99, 3) := by decide +kernel
theorem dX5_writeRegister_39 : decode cX5_writeRegister 39 = .ok (.iload_n 2, 1) := by decide +kernel
theorem dX5_writeRegister_40 : decode cX5_writeRegister 40 = .ok (.laload, 1) := by decide +kernel
theorem dX5_writeRegister_41 : decode cX5_writeRegister 41 = .ok (.invokevirtual 304, 3) := by decide +kernel
theorem dX5_writeRegister_44 : decode cX5_writeRegister 44 = .ok (.goto 74, 3) := by decide +kernel
theorem dX5_writeRegister_47 : decode cX5_writeRegister 47 = .ok (.iload_n 1, 1) := by decide +kernel
theorem dX5_writeRegister_48 : decode cX5_writeRegister 48 = .ok (.iconst 2, 1) := by decide +kernel
theorem dX5_writeRegister_49 : decode cX5_writeRegister 49 = .ok (.if_icmp .ne 11, 3) := by decide +kernel
theorem dX5_writeRegister_52 : decode cX5_writeRegister 52 = .ok (.aload_n 0, 1) := by decide +kernel
theorem dX5_writeRegister_53 : decode cX5_writeRegister 53 = .ok (.iload_n 2, 1) := by decide +kernel
theorem dX5_writeRegister_54 : decode cX5_writeRegister 54 = .ok (.invokevirtual 307, 3) := by decide +kernel
theorem dX5_writeRegister_57 : decode cX5_writeRegister 57 = .ok (.goto 61, 3) := by decide +kernel
theorem dX5_writeRegister_60 : decode cX5_writeRegister 60 = .ok (.iload_n 1, 1) := by decide +kernel
theorem dX5_writeRegister_61 : decode cX5_writeRegister 61 = .ok (.iconst 3, 1) := by decide +kernel
theorem dX5_writeRegister_62 : decode cX5_writeRegister 62 = .ok (.if_icmp .ne 11, 3) := by decide +kernel
theorem dX5_writeRegister_65 : decode cX5_writeRegister 65 = .ok (.aload_n 0, 1) := by decide +kernel
theorem dX5_writeRegister_66 : decode cX5_writeRegister 66 = .ok (.iload_n 2, 1) := by decide +kernel
theorem dX5_writeRegister_67 : decode cX5_writeRegister 67 = .ok (.invokevirtual 310, 3) := by decide +kernel
theorem dX5_writeRegister_70 : decode cX5_writeRegister 70 = .ok (.goto 48, 3) := by decide +kernel
theorem dX5_writeRegister_73 : decode cX5_writeRegister 73 = .ok (.aload_n 0, 1) := by decide +kernel
theorem dX5_writeRegister_74 : decode cX5_writeRegister 74 = .ok (.getfield 10, 3) := by decide +kernel
theorem dX5_writeRegister_77 : decode cX5_writeRegister 77 = .ok (.getfield 99, 3) := by decide +kernel
theorem dX5_writeRegister_80 : decode cX5_writeRegister 80 = .ok (.iload_n 2, 1) := by decide +kernel
theorem dX5_writeRegister_81 : decode cX5_writeRegister 81 = .ok (.laload, 1) := by decide +kernel
theorem dX5_writeRegister_82 : decode cX5_writeRegister 82 = .ok (.ldc2_w 81, 3) := by decide +kernel
theorem dX5_writeRegister_85 : decode cX5_writeRegister 85 = .ok (.lcmp, 1) := by decide +kernel
theorem dX5_writeRegister_86 : decode cX5_writeRegister 86 = .ok (.ifCond .ne 16, 3) := by decide +kernel
theorem dX5_writeRegister_89 : decode cX5_writeRegister 89 = .ok (.aload_n 0, 1) := by decide +kernel
theorem dX5_writeRegister_90 : decode cX5_writeRegister 90 = .ok (.getfield 40, 3) := by decide +kernel
theorem dX5_writeRegister_93 : decode cX5_writeRegister 93 = .ok (.ldc_w 313, 3) := by decide +kernel
theorem dX5_writeRegister_96 : decode cX5_writeRegister 96 = .ok (.invokevirtual 315, 3) := by decide +kernel
theorem dX5_writeRegister_99 : decode cX5_writeRegister 99 = .ok (.goto 19, 3) := by decide +kernel
theorem dX5_writeRegister_102 : decode cX5_writeRegister 102 = .ok (.aload_n 0, 1) := by decide +kernel
theorem dX5_writeRegister_103 : decode cX5_writeRegister 103 = .ok (.getfield 40, 3) := by decide +kernel
theorem dX5_writeRegister_106 : decode cX5_writeRegister 106 = .ok (.aload_n 0, 1) := by decide +kernel
theorem dX5_writeRegister_107 : decode cX5_writeRegister 107 = .ok (.getfield 10, 3) := by decide +kernel
theorem dX5_writeRegister_110 : decode cX5_writeRegister 110 = .ok (.getfield 99, 3) := by decide +kernel
theorem dX5_writeRegister_113 : decode cX5_writeRegister 113 = .ok (.iload_n 2, 1) := by decide +kernel
theorem dX5_writeRegister_114 : decode cX5_writeRegister 114 = .ok (.laload, 1) := by decide +kernel
theorem dX5_writeRegister_115 : decode cX5_writeRegister 115 = .ok (.invokevirtual 301, 3) := by decide +kernel
theorem dX5_writeRegister_118 : decode cX5_writeRegister 118 = .ok (.return_, 1) := by decide +kernel
theorem dX5_writeGlue_0 : decode cX5_writeGlue 0 = .ok (.aload_n 0, 1) := by decide +kernel
theorem dX5_writeGlue_1 : decode cX5_writeGlue 1 = .ok (.getfield 40, 3) := by decide +kernel
theorem dX5_writeGlue_4 : decode cX5_writeGlue 4 = .ok (.aload_n 0, 1) := by decide +kernel
theorem dX5_writeGlue_5 : decode cX5_writeGlue 5 = .ok (.getfield 10, 3) := by decide +kernel
theorem dX5_writeGlue_8 : decode cX5_writeGlue 8 = .ok (.getfield 99, 3) := by decide +kernel
theorem dX5_writeGlue_11 : decode cX5_writeGlue 11 = .ok (.iload_n 1, 1) := by decide +kernel
theorem dX5_writeGlue_12 : decode cX5_writeGlue 12 = .ok (.laload, 1) := by decide +kernel
theorem dX5_writeGlue_13 : decode cX5_writeGlue 13 = .ok (.invokevirtual 304, 3) := by decide +kernel
theorem dX5_writeGlue_16 : decode cX5_writeGlue 16 = .ok (.aload_n 0, 1) := by decide +kernel
theorem dX5_writeGlue_17 : decode cX5_writeGlue 17 = .ok (.getfield 40, 3) := by decide +kernel
theorem dX5_writeGlue_20 : decode cX5_writeGlue 20 = .ok (.ldc_w 318, 3) := by decide +kernel
theorem dX5_writeGlue_23 : decode cX5_writeGlue 23 = .ok (.invokevirtual 315, 3) := by decide +kernel
theorem dX5_writeGlue_26 : decode cX5_writeGlue 26 = .ok (.aload_n 0, 1) := by decide +kernel
theorem dX5_writeGlue_27 : decode cX5_writeGlue 27 = .ok (.ldc_w 320, 3) := by decide +kernel
theorem dX5_writeGlue_30 : decode cX5_writeGlue 30 = .ok (.iload_n 1, 1) := by decide +kernel
theorem dX5_writeGlue_31 : decode cX5_writeGlue 31 = .ok (.iconst 1, 1) := by decide +kernel
theorem dX5_writeGlue_32 : decode cX5_writeGlue 32 = .ok (.iadd, 1) := by decide +kernel
theorem dX5_writeGlue_33 : decode cX5_writeGlue 33 = .ok (.invokevirtual 322, 3) := by decide +kernel
theorem dX5_writeGlue_36 : decode cX5_writeGlue 36 = .ok (.aload_n 0, 1) := by decide +kernel
theorem dX5_writeGlue_37 : decode cX5_writeGlue 37 = .ok (.ldc_w 326, 3) := by decide +kernel
theorem dX5_writeGlue_40 : decode cX5_writeGlue 40 = .ok (.iload_n 1, 1) := by decide +kernel
theorem dX5_writeGlue_41 : decode cX5_writeGlue 41 = .ok (.iconst 3, 1) := by decide +kernel
theorem dX5_writeGlue_42 : decode cX5_writeGlue 42 = .ok (.iadd, 1) := by decide +kernel
theorem dX5_writeGlue_43 : decode cX5_writeGlue 43 = .ok (.invokevirtual 322, 3) := by decide +kernel
theorem dX5_writeGlue_46 : decode cX5_writeGlue 46 = .ok (.return_, 1) := by decide +kernel
theorem dX5_writeFlexible_0 : decode cX5_writeFlexible 0 = .ok (.aload_n 0, 1) := by decide +kernel
theorem dX5_writeFlexible_1 : decode cX5_writeFlexible 1 = .ok (.getfield 10, 3) := by decide +kernel
theorem dX5_writeFlexible_4 : decode cX5_writeFlexible 4 = .ok (.getfield 99, 3) := by decide +kernel
theorem dX5_writeFlexible_7 : decode cX5_writeFlexible 7 = .ok (.iload_n 2, 1) := by decide +kernel
theorem dX5_writeFlexible_8 : decode cX5_writeFlexible 8 = .ok (.laload, 1) := by decide +kernel
theorem dX5_writeFlexible_9 : decode cX5_writeFlexible 9 = .ok (.lconst 0, 1) := by decide +kernel
theorem dX5_writeFlexible_10 : decode cX5_writeFlexible 10 = .ok (.lcmp, 1) := by decide +kernel
theorem dX5_writeFlexible_11 : decode cX5_writeFlexible 11 = .ok (.ifCond .eq 48, 3) := by decide +kernel
theorem dX5_writeFlexible_14 : decode cX5_writeFlexible 14 = .ok (.aload_n 0, 1) := by decide +kernel
theorem dX5_writeFlexible_15 : decode cX5_writeFlexible 15 = .ok (.getfield 40, 3) := by decide +kernel
theorem dX5_writeFlexible_18 : decode cX5_writeFlexible 18 = .ok (.aload_n 1, 1) := by decide +kernel
theorem dX5_writeFlexible_19 : decode cX5_writeFlexible 19 = .ok (.invokevirtual 315, 3) := by decide +kernel
theorem dX5_writeFlexible_22 : decode cX5_writeFlexible 22 = .ok (.aload_n 0, 1) := by decide +kernel
theorem dX5_writeFlexible_23 : decode cX5_writeFlexible 23 = .ok (.getfield 40, 3) := by decide +kernel
theorem dX5_writeFlexible_26 : decode cX5_writeFlexible 26 = .ok (.aload_n 0, 1) := by decide +kernel
theorem dX5_writeFlexible_27 : decode cX5_writeFlexible 27 = .ok (.getfield 10, 3) := by decide +kernel
theorem dX5_writeFlexible_30 : decode cX5_writeFlexible 30 = .ok (.getfield 99, 3) := by decide +kernel
theorem dX5_writeFlexible_33 : decode cX5_writeFlexible 33 = .ok (.iload_n 2, 1) := by decide +kernel
theorem dX5_writeFlexible_34 : decode cX5_writeFlexible 34 = .ok (.laload, 1) := by decide +kernel
theorem dX5_writeFlexible_35 : decode cX5_writeFlexible 35 = .ok (.invokevirtual 304, 3) := by decide +kernel
theorem dX5_writeFlexible_38 : decode cX5_writeFlexible 38 = .ok (.aload_n 0, 1) := by decide +kernel
theorem dX5_writeFlexible_39 : decode cX5_writeFlexible 39 = .ok (.getfield 40, 3) := by decide +kernel
theorem dX5_writeFlexible_42 : decode cX5_writeFlexible 42 = .ok (.aload_n 0, 1) := by decide +kernel
theorem dX5_writeFlexible_43 : decode cX5_writeFlexible 43 = .ok (.getfield 10, 3) := by decide +kernel
theorem dX5_writeFlexible_46 : decode cX5_writeFlexible 46 = .ok (.getfield 99, 3) := by decide +kernel
theorem dX5_writeFlexible_49 : decode cX5_writeFlexible 49 = .ok (.iload_n 2, 1) := by decide +kernel
theorem dX5_writeFlexible_50 : decode cX5_writeFlexible 50 = .ok (.iconst 1, 1) := by decide +kernel
theorem dX5_writeFlexible_51 : decode cX5_writeFlexible 51 = .ok (.iadd, 1) := by decide +kernel
theorem dX5_writeFlexible_52 : decode cX5_writeFlexible 52 = .ok (.laload, 1) := by decide +kernel
theorem dX5_writeFlexible_53 : decode cX5_writeFlexible 53 = .ok (.invokestatic 328, 3) := by decide +kernel
theorem dX5_writeFlexible_56 : decode cX5_writeFlexible 56 = .ok (.invokevirtual 315, 3) := by decide +kernel
theorem dX5_writeFlexible_59 : decode cX5_writeFlexible 59 = .ok (.return_, 1) := by decide +kernel
theorem dX5_orderName_0 : decode cX5_orderName 0 = .ok (.lload_n 0, 1) := by decide +kernel
theorem dX5_orderName_1 : decode cX5_orderName 1 = .ok (.lconst 0, 1) := by decide +kernel
theorem dX5_orderName_2 : decode cX5_orderName 2 = .ok (.lcmp, 1) := by decide +kernel
theorem dX5_orderName_3 : decode cX5_orderName 3 = .ok (.ifCond .ne 7, 3) := by decide +kernel
theorem dX5_orderName_6 : decode cX5_orderName 6 = .ok (.ldc_w 318, 3) := by decide +kernel
theorem dX5_orderName_9 : decode cX5_orderName 9 = .ok (.areturn, 1) := by decide +kernel
theorem dX5_orderName_10 : decode cX5_orderName 10 = .ok (.lload_n 0, 1) := by decide +kernel
theorem dX5_orderName_11 : decode cX5_orderName 11 = .ok (.lconst 1, 1) := by decide +kernel
theorem dX5_orderName_12 : decode cX5_orderName 12 = .ok (.lcmp, 1) := by decide +kernel
theorem dX5_orderName_13 : decode cX5_orderName 13 = .ok (.ifCond .ne 9, 3) := by decide +kernel
theorem dX5_orderName_16 : decode cX5_orderName 16 = .ok (.ldc_w 332, 3) := by decide +kernel
theorem dX5_orderName_19 : decode cX5_orderName 19 = .ok (.goto 20, 3) := by decide +kernel
theorem dX5_orderName_22 : decode cX5_orderName 22 = .ok (.lload_n 0, 1) := by decide +kernel
theorem dX5_orderName_23 : decode cX5_orderName 23 = .ok (.ldc2_w 184, 3) := by decide +kernel
theorem dX5_orderName_26 : decode cX5_orderName 26 = .ok (.lcmp, 1) := by decide +kernel
theorem dX5_orderName_27 : decode cX5_orderName 27 = .ok (.ifCond .ne 9, 3) := by decide +kernel
theorem dX5_orderName_30 : decode cX5_orderName 30 = .ok (.ldc_w 334, 3) := by decide +kernel
theorem dX5_orderName_33 : decode cX5_orderName 33 = .ok (.goto 6, 3) := by decide +kernel
theorem dX5_orderName_36 : decode cX5_orderName 36 = .ok (.ldc_w 336, 3) := by decide +kernel
theorem dX5_orderName_39 : decode cX5_orderName 39 = .ok (.areturn, 1) := by decide +kernel
theorem dX5_writeRow_0 : decode cX5_writeRow 0 = .ok (.iconst 0, 1) := by decide +kernel
theorem dX5_writeRow_1 : decode cX5_writeRow 1 = .ok (.istore_n 2, 1) := by decide +kernel
theorem dX5_writeRow_2 : decode cX5_writeRow 2 = .ok (.iload_n 2, 1) := by decide +kernel
theorem dX5_writeRow_3 : decode cX5_writeRow 3 = .ok (.bipush 20, 2) := by decide +kernel
theorem dX5_writeRow_5 : decode cX5_writeRow 5 = .ok (.if_icmp .ge 45, 3) := by decide +kernel
theorem dX5_writeRow_8 : decode cX5_writeRow 8 = .ok (.iload_n 2, 1) := by decide +kernel
theorem dX5_writeRow_9 : decode cX5_writeRow 9 = .ok (.i2l, 1) := by decide +kernel
theorem dX5_writeRow_10 : decode cX5_writeRow 10 = .ok (.aload_n 0, 1) := by decide +kernel
theorem dX5_writeRow_11 : decode cX5_writeRow 11 = .ok (.getfield 10, 3) := by decide +kernel
theorem dX5_writeRow_14 : decode cX5_writeRow 14 = .ok (.getfield 99, 3) := by decide +kernel
theorem dX5_writeRow_17 : decode cX5_writeRow 17 = .ok (.iload_n 1, 1) := by decide +kernel
theorem dX5_writeRow_18 : decode cX5_writeRow 18 = .ok (.laload, 1) := by decide +kernel
theorem dX5_writeRow_19 : decode cX5_writeRow 19 = .ok (.lcmp, 1) := by decide +kernel
theorem dX5_writeRow_20 : decode cX5_writeRow 20 = .ok (.ifCond .ge 30, 3) := by decide +kernel
theorem dX5_writeRow_23 : decode cX5_writeRow 23 = .ok (.aload_n 0, 1) := by decide +kernel
theorem dX5_writeRow_24 : decode cX5_writeRow 24 = .ok (.getfield 40, 3) := by decide +kernel
theorem dX5_writeRow_27 : decode cX5_writeRow 27 = .ok (.aload_n 0, 1) := by decide +kernel
theorem dX5_writeRow_28 : decode cX5_writeRow 28 = .ok (.getfield 10, 3) := by decide +kernel
theorem dX5_writeRow_31 : decode cX5_writeRow 31 = .ok (.getfield 99, 3) := by decide +kernel
theorem dX5_writeRow_34 : decode cX5_writeRow 34 = .ok (.iload_n 1, 1) := by decide +kernel
theorem dX5_writeRow_35 : decode cX5_writeRow 35 = .ok (.iconst 1, 1) := by decide +kernel
theorem dX5_writeRow_36 : decode cX5_writeRow 36 = .ok (.iadd, 1) := by decide +kernel
theorem dX5_writeRow_37 : decode cX5_writeRow 37 = .ok (.iload_n 2, 1) := by decide +kernel
theorem dX5_writeRow_38 : decode cX5_writeRow 38 = .ok (.iadd, 1) := by decide +kernel
theorem dX5_writeRow_39 : decode cX5_writeRow 39 = .ok (.laload, 1) := by decide +kernel
theorem dX5_writeRow_40 : decode cX5_writeRow 40 = .ok (.l2i, 1) := by decide +kernel
theorem dX5_writeRow_41 : decode cX5_writeRow 41 = .ok (.invokevirtual 338, 3) := by decide +kernel
theorem dX5_writeRow_44 : decode cX5_writeRow 44 = .ok (.iinc 2 1, 3) := by decide +kernel
theorem dX5_writeRow_47 : decode cX5_writeRow 47 = .ok (.goto (-45), 3) := by decide +kernel
theorem dX5_writeRow_50 : decode cX5_writeRow 50 = .ok (.return_, 1) := by decide +kernel
theorem dX6_init_0 : decode cX6_init 0 = .ok (.aload_n 0, 1) := by decide +kernel
theorem dX6_init_1 : decode cX6_init 1 = .ok (.invokespecial 1, 3) := by decide +kernel
theorem dX6_init_4 : decode cX6_init 4 = .ok (.aload_n 0, 1) := by decide +kernel
theorem dX6_init_5 : decode cX6_init 5 = .ok (.sipush 3360, 3) := by decide +kernel
theorem dX6_init_8 : decode cX6_init 8 = .ok (.newarray .long, 2) := by decide +kernel
theorem dX6_init_10 : decode cX6_init 10 = .ok (.putfield 7, 3) := by decide +kernel
theorem dX6_init_13 : decode cX6_init 13 = .ok (.aload_n 0, 1) := by decide +kernel
theorem dX6_init_14 : decode cX6_init 14 = .ok (.sipush 160, 3) := by decide +kernel
theorem dX6_init_17 : decode cX6_init 17 = .ok (.newarray .int, 2) := by decide +kernel
theorem dX6_init_19 : decode cX6_init 19 = .ok (.putfield 13, 3) := by decide +kernel
theorem dX6_init_22 : decode cX6_init 22 = .ok (.aload_n 0, 1) := by decide +kernel
theorem dX6_init_23 : decode cX6_init 23 = .ok (.sipush 4200, 3) := by decide +kernel
theorem dX6_init_26 : decode cX6_init 26 = .ok (.newarray .long, 2) := by decide +kernel
theorem dX6_init_28 : decode cX6_init 28 = .ok (.putfield 17, 3) := by decide +kernel
theorem dX6_init_31 : decode cX6_init 31 = .ok (.aload_n 0, 1) := by decide +kernel
theorem dX6_init_32 : decode cX6_init 32 = .ok (.sipush 200, 3) := by decide +kernel
theorem dX6_init_35 : decode cX6_init 35 = .ok (.newarray .int, 2) := by decide +kernel
theorem dX6_init_37 : decode cX6_init 37 = .ok (.putfield 20, 3) := by decide +kernel
theorem dX6_init_40 : decode cX6_init 40 = .ok (.aload_n 0, 1) := by decide +kernel
theorem dX6_init_41 : decode cX6_init 41 = .ok (.sipush 200, 3) := by decide +kernel
theorem dX6_init_44 : decode cX6_init 44 = .ok (.newarray .int, 2) := by decide +kernel
theorem dX6_init_46 : decode cX6_init 46 = .ok (.putfield 23, 3) := by decide +kernel
theorem dX6_init_49 : decode cX6_init 49 = .ok (.aload_n 0, 1) := by decide +kernel
theorem dX6_init_50 : decode cX6_init 50 = .ok (.sipush 200, 3) := by decide +kernel
theorem dX6_init_53 : decode cX6_init 53 = .ok (.newarray .int, 2) := by decide +kernel
theorem dX6_init_55 : decode cX6_init 55 = .ok (.putfield 26, 3) := by decide +kernel
theorem dX6_init_58 : decode cX6_init 58 = .ok (.aload_n 0, 1) := by decide +kernel
theorem dX6_init_59 : decode cX6_init 59 = .ok (.iconst 5, 1) := by decide +kernel
theorem dX6_init_60 : decode cX6_init 60 = .ok (.newarray .long, 2) := by decide +kernel
theorem dX6_init_62 : decode cX6_init 62 = .ok (.putfield 29, 3) := by decide +kernel
theorem dX6_init_65 : decode cX6_init 65 = .ok (.aload_n 0, 1) := by decide +kernel
theorem dX6_init_66 : decode cX6_init 66 = .ok (.bipush 21, 2) := by decide +kernel
theorem dX6_init_68 : decode cX6_init 68 = .ok (.newarray .long, 2) := by decide +kernel
theorem dX6_init_70 : decode cX6_init 70 = .ok (.putfield 32, 3) := by decide +kernel
theorem dX6_init_73 : decode cX6_init 73 = .ok (.aload_n 0, 1) := by decide +kernel
theorem dX6_init_74 : decode cX6_init 74 = .ok (.bipush 21, 2) := by decide +kernel
theorem dX6_init_76 : decode cX6_init 76 = .ok (.newarray .long, 2) := by decide +kernel
theorem dX6_init_78 : decode cX6_init 78 = .ok (.putfield 35, 3) := by decide +kernel
theorem dX6_init_81 : decode cX6_init 81 = .ok (.aload_n 0, 1) := by decide +kernel
theorem dX6_init_82 : decode cX6_init 82 = .ok (.bipush 60, 2) := by decide +kernel
theorem dX6_init_84 : decode cX6_init 84 = .ok (.newarray .int, 2) := by decide +kernel
theorem dX6_init_86 : decode cX6_init 86 = .ok (.putfield 38, 3) := by decide +kernel
theorem dX6_init_89 : decode cX6_init 89 = .ok (.aload_n 0, 1) := by decide +kernel
theorem dX6_init_90 : decode cX6_init 90 = .ok (.bipush 60, 2) := by decide +kernel
theorem dX6_init_92 : decode cX6_init 92 = .ok (.newarray .int, 2) := by decide +kernel
theorem dX6_init_94 : decode cX6_init 94 = .ok (.putfield 41, 3) := by decide +kernel
theorem dX6_init_97 : decode cX6_init 97 = .ok (.aload_n 0, 1) := by decide +kernel
theorem dX6_init_98 : decode cX6_init 98 = .ok (.sipush 200, 3) := by decide +kernel
theorem dX6_init_101 : decode cX6_init 101 = .ok (.newarray .int, 2) := by decide +kernel
theorem dX6_init_103 : decode cX6_init 103 = .ok (.putfield 44, 3) := by decide +kernel
theorem dX6_init_106 : decode cX6_init 106 = .ok (.aload_n 0, 1) := by decide +kernel
theorem dX6_init_107 : decode cX6_init 107 = .ok (.sipush 200, 3) := by decide +kernel
theorem dX6_init_110 : decode cX6_init 110 = .ok (.newarray .int, 2) := by decide +kernel
theorem dX6_init_112 : decode cX6_init 112 = .ok (.putfield 47, 3) := by decide +kernel
theorem dX6_init_115 : decode cX6_init 115 = .ok (.aload_n 0, 1) := by decide +kernel
theorem dX6_init_116 : decode cX6_init 116 = .ok (.bipush 60, 2) := by decide +kernel
theorem dX6_init_118 : decode cX6_init 118 = .ok (.newarray .int, 2) := by decide +kernel
theorem dX6_init_120 : decode cX6_init 120 = .ok (.putfield 50, 3) := by decide +kernel
theorem dX6_init_123 : decode cX6_init 123 = .ok (.aload_n 0, 1) := by decide +kernel
theorem dX6_init_124 : decode cX6_init 124 = .ok (.bipush 120, 2) := by decide +kernel
theorem dX6_init_126 : decode cX6_init 126 = .ok (.newarray .int, 2) := by decide +kernel
theorem dX6_init_128 : decode cX6_init 128 = .ok (.putfield 53, 3) := by decide +kernel
theorem dX6_init_131 : decode cX6_init 131 = .ok (.aload_n 0, 1) := by decide +kernel
theorem dX6_init_132 : decode cX6_init 132 = .ok (.bipush 20, 2) := by decide +kernel
theorem dX6_init_134 : decode cX6_init 134 = .ok (.newarray .int, 2) := by decide +kernel
theorem dX6_init_136 : decode cX6_init 136 = .ok (.putfield 56, 3) := by decide +kernel
theorem dX6_init_139 : decode cX6_init 139 = .ok (.iconst 0, 1) := by decide +kernel
theorem dX6_init_140 : decode cX6_init 140 = .ok (.istore_n 1, 1) := by decide +kernel
theorem dX6_init_141 : decode cX6_init 141 = .ok (.iload_n 1, 1) := by decide +kernel
theorem dX6_init_142 : decode cX6_init 142 = .ok (.bipush 32, 2) := by decide +kernel
theorem dX6_init_144 : decode cX6_init 144 = .ok (.if_icmp .ge 25, 3) := by decide +kernel
theorem dX6_init_147 : decode cX6_init 147 = .ok (.aload_n 0, 1) := by decide +kernel
theorem dX6_init_148 : decode cX6_init 148 = .ok (.getfield 7, 3) := by decide +kernel
theorem dX6_init_151 : decode cX6_init 151 = .ok (.bipush 21, 2) := by decide +kernel
theorem dX6_init_153 : decode cX6_init 153 = .ok (.sipush 128, 3) := by decide +kernel
theorem dX6_init_156 : decode cX6_init 156 = .ok (.iload_n 1, 1) := by decide +kernel
theorem dX6_init_157 : decode cX6_init 157 = .ok (.iadd, 1) := by decide +kernel
theorem dX6_init_158 : decode cX6_init 158 = .ok (.imul, 1) := by decide +kernel
theorem dX6_init_159 : decode cX6_init 159 = .ok (.ldc2_w 59, 3) := by decide +kernel
theorem dX6_init_162 : decode cX6_init 162 = .ok (.lastore, 1) := by decide +kernel
theorem dX6_init_163 : decode cX6_init 163 = .ok (.iinc 1 1, 3) := by decide +kernel
theorem dX6_init_166 : decode cX6_init 166 = .ok (.goto (-25), 3) := by decide +kernel
theorem dX6_init_169 : decode cX6_init 169 = .ok (.return_, 1) := by decide +kernel
theorem dX6_thrown_0 : decode cX6_thrown 0 = .ok (.aload_n 0, 1) := by decide +kernel
theorem dX6_thrown_1 : decode cX6_thrown 1 = .ok (.getfield 61, 3) := by decide +kernel
theorem dX6_thrown_4 : decode cX6_thrown 4 = .ok (.ireturn, 1) := by decide +kernel
theorem dX6_in_0 : decode cX6_in 0 = .ok (.lload_n 0, 1) := by decide +kernel
theorem dX6_in_1 : decode cX6_in 1 = .ok (.lload_n 2, 1) := by decide +kernel
theorem dX6_in_2 : decode cX6_in 2 = .ok (.lcmp, 1) := by decide +kernel
theorem dX6_in_3 : decode cX6_in 3 = .ok (.ifCond .lt 14, 3) := by decide +kernel
theorem dX6_in_6 : decode cX6_in 6 = .ok (.lload_n 0, 1) := by decide +kernel
theorem dX6_in_7 : decode cX6_in 7 = .ok (.lload 4, 2) := by decide +kernel
theorem dX6_in_9 : decode cX6_in 9 = .ok (.lcmp, 1) := by decide +kernel
theorem dX6_in_10 : decode cX6_in 10 = .ok (.ifCond .gt 7, 3) := by decide +kernel
theorem dX6_in_13 : decode cX6_in 13 = .ok (.iconst 1, 1) := by decide +kernel
theorem dX6_in_14 : decode cX6_in 14 = .ok (.goto 4, 3) := by decide +kernel
theorem dX6_in_17 : decode cX6_in 17 = .ok (.iconst 0, 1) := by decide +kernel
theorem dX6_in_18 : decode cX6_in 18 = .ok (.ireturn, 1) := by decide +kernel
theorem dX6_isKind_0 : decode cX6_isKind 0 = .ok (.iload_n 0, 1) := by decide +kernel
theorem dX6_isKind_1 : decode cX6_isKind 1 = .ok (.i2l, 1) := by decide +kernel
theorem dX6_isKind_2 : decode cX6_isKind 2 = .ok (.lconst 0, 1) := by decide +kernel
theorem dX6_isKind_3 : decode cX6_isKind 3 = .ok (.ldc2_w 65, 3) := by decide +kernel
theorem dX6_isKind_6 : decode cX6_isKind 6 = .ok (.invokestatic 67, 3) := by decide +kernel
theorem dX6_isKind_9 : decode cX6_isKind 9 = .ok (.ireturn, 1) := by decide +kernel
theorem dX6_isRegister_0 : decode cX6_isRegister 0 = .ok (.iload_n 0, 1) := by decide +kernel
theorem dX6_isRegister_1 : decode cX6_isRegister 1 = .ok (.i2l, 1) := by decide +kernel
theorem dX6_isRegister_2 : decode cX6_isRegister 2 = .ok (.lconst 0, 1) := by decide +kernel
theorem dX6_isRegister_3 : decode cX6_isRegister 3 = .ok (.ldc2_w 71, 3) := by decide +kernel
theorem dX6_isRegister_6 : decode cX6_isRegister 6 = .ok (.invokestatic 67, 3) := by decide +kernel
theorem dX6_isRegister_9 : decode cX6_isRegister 9 = .ok (.ireturn, 1) := by decide +kernel
theorem dX6_isLength_0 : decode cX6_isLength 0 = .ok (.lload_n 0, 1) := by decide +kernel
theorem dX6_isLength_1 : decode cX6_isLength 1 = .ok (.ldc2_w 73, 3) := by decide +kernel
theorem dX6_isLength_4 : decode cX6_isLength 4 = .ok (.ldc2_w 75, 3) := by decide +kernel
theorem dX6_isLength_7 : decode cX6_isLength 7 = .ok (.invokestatic 67, 3) := by decide +kernel
theorem dX6_isLength_10 : decode cX6_isLength 10 = .ok (.ireturn, 1) := by decide +kernel
theorem dX6_token_0 : decode cX6_token 0 = .ok (.aload_n 0, 1) := by decide +kernel
theorem dX6_token_1 : decode cX6_token 1 = .ok (.iload_n 1, 1) := by decide +kernel
theorem dX6_token_2 : decode cX6_token 2 = .ok (.i2l, 1) := by decide +kernel
theorem dX6_token_3 : decode cX6_token 3 = .ok (.lconst 0, 1) := by decide +kernel
theorem dX6_token_4 : decode cX6_token 4 = .ok (.ldc2_w 77, 3) := by decide +kernel
theorem dX6_token_7 : decode cX6_token 7 = .ok (.invokestatic 67, 3) := by decide +kernel
theorem dX6_token_10 : decode cX6_token 10 = .ok (.ifCond .eq 7, 3) := by decide +kernel
theorem dX6_token_13 : decode cX6_token 13 = .ok (.iconst 0, 1) := by decide +kernel
theorem dX6_token_14 : decode cX6_token 14 = .ok (.goto 4, 3) := by decide +kernel
theorem dX6_token_17 : decode cX6_token 17 = .ok (.iconst 1, 1) := by decide +kernel
theorem dX6_token_18 : decode cX6_token 18 = .ok (.putfield 61, 3) := by decide +kernel
theorem dX6_token_21 : decode cX6_token 21 = .ok (.aload_n 0, 1) := by decide +kernel
theorem dX6_token_22 : decode cX6_token 22 = .ok (.getfield 61, 3) := by decide +kernel
theorem dX6_token_25 : decode cX6_token 25 = .ok (.ifCond .le 5, 3) := by decide +kernel
theorem dX6_token_28 : decode cX6_token 28 = .ok (.iconst 0, 1) := by decide +kernel
theorem dX6_token_29 : decode cX6_token 29 = .ok (.ireturn, 1) := by decide +kernel
theorem dX6_token_30 : decode cX6_token 30 = .ok (.aload_n 0, 1) := by decide +kernel
theorem dX6_token_31 : decode cX6_token 31 = .ok (.getfield 32, 3) := by decide +kernel
theorem dX6_token_34 : decode cX6_token 34 = .ok (.iconst 0, 1) := by decide +kernel
theorem dX6_token_35 : decode cX6_token 35 = .ok (.laload, 1) := by decide +kernel
theorem dX6_token_36 : decode cX6_token 36 = .ok (.ldc2_w 79, 3) := by decide +kernel
theorem dX6_token_39 : decode cX6_token 39 = .ok (.lcmp, 1) := by decide +kernel
theorem dX6_token_40 : decode cX6_token 40 = .ok (.ifCond .ne 5, 3) := by decide +kernel
theorem dX6_token_43 : decode cX6_token 43 = .ok (.iconst (-1), 1) := by decide +kernel
theorem dX6_token_44 : decode cX6_token 44 = .ok (.ireturn, 1) := by decide +kernel
theorem dX6_token_45 : decode cX6_token 45 = .ok (.aload_n 0, 1) := by decide +kernel
theorem dX6_token_46 : decode cX6_token 46 = .ok (.getfield 32, 3) := by decide +kernel
theorem dX6_token_49 : decode cX6_token 49 = .ok (.iconst 0, 1) := by decide +kernel
theorem dX6_token_50 : decode cX6_token 50 = .ok (.dup2, 1) := by decide +kernel
theorem dX6_token_51 : decode cX6_token 51 = .ok (.laload, 1) := by decide +kernel
theorem dX6_token_52 : decode cX6_token 52 = .ok (.lconst 1, 1) := by decide +kernel
theorem dX6_token_53 : decode cX6_token 53 = .ok (.ladd, 1) := by decide +kernel
theorem dX6_token_54 : decode cX6_token 54 = .ok (.lastore, 1) := by decide +kernel
theorem dX6_token_55 : decode cX6_token 55 = .ok (.aload_n 0, 1) := by decide +kernel
theorem dX6_token_56 : decode cX6_token 56 = .ok (.getfield 32, 3) := by decide +kernel
theorem dX6_token_59 : decode cX6_token 59 = .ok (.aload_n 0, 1) := by decide +kernel
theorem dX6_token_60 : decode cX6_token 60 = .ok (.getfield 32, 3) := by decide +kernel
theorem dX6_token_63 : decode cX6_token 63 = .ok (.iconst 0, 1) := by decide +kernel
theorem dX6_token_64 : decode cX6_token 64 = .ok (.laload, 1) := by decide +kernel
theorem dX6_token_65 : decode cX6_token 65 = .ok (.l2i, 1) := by decide +kernel
theorem dX6_token_66 : decode cX6_token 66 = .ok (.iload_n 1, 1) := by decide +kernel
theorem dX6_token_67 : decode cX6_token 67 = .ok (.i2l, 1) := by decide +kernel
theorem dX6_token_68 : decode cX6_token 68 = .ok (.lastore, 1) := by decide +kernel
theorem dX6_token_69 : decode cX6_token 69 = .ok (.aload_n 0, 1) := by decide +kernel
theorem dX6_token_70 : decode cX6_token 70 = .ok (.getfield 32, 3) := by decide +kernel
theorem dX6_token_73 : decode cX6_token 73 = .ok (.iconst 0, 1) := by decide +kernel
theorem dX6_token_74 : decode cX6_token 74 = .ok (.laload, 1) := by decide +kernel
theorem dX6_token_75 : decode cX6_token 75 = .ok (.l2i, 1) := by decide +kernel
theorem dX6_token_76 : decode cX6_token 76 = .ok (.ireturn, 1) := by decide +kernel
theorem dX6_glue_0 : decode cX6_glue 0 = .ok (.lload_n 1, 1) := by decide +kernel
theorem dX6_glue_1 : decode cX6_glue 1 = .ok (.invokestatic 81, 3) := by decide +kernel
theorem dX6_glue_4 : decode cX6_glue 4 = .ok (.ifCond .eq 48, 3) := by decide +kernel
theorem dX6_glue_7 : decode cX6_glue 7 = .ok (.lload_n 3, 1) := by decide +kernel
theorem dX6_glue_8 : decode cX6_glue 8 = .ok (.invokestatic 81, 3) := by decide +kernel
theorem dX6_glue_11 : decode cX6_glue 11 = .ok (.ifCond .eq 41, 3) := by decide +kernel
theorem dX6_glue_14 : decode cX6_glue 14 = .ok (.iload 5, 2) := by decide +kernel
theorem dX6_glue_16 : decode cX6_glue 16 = .ok (.i2l, 1) := by decide +kernel
theorem dX6_glue_17 : decode cX6_glue 17 = .ok (.lconst 0, 1) := by decide +kernel
theorem dX6_glue_18 : decode cX6_glue 18 = .ok (.ldc2_w 85, 3) := by decide +kernel
theorem dX6_glue_21 : decode cX6_glue 21 = .ok (.invokestatic 67, 3) := by decide +kernel
theorem dX6_glue_24 : decode cX6_glue 24 = .ok (.ifCond .eq 28, 3) := by decide +kernel
theorem dX6_glue_27 : decode cX6_glue 27 = .ok (.lload 6, 2) := by decide +kernel
theorem dX6_glue_29 : decode cX6_glue 29 = .ok (.invokestatic 81, 3) := by decide +kernel
theorem dX6_glue_32 : decode cX6_glue 32 = .ok (.ifCond .eq 20, 3) := by decide +kernel
theorem dX6_glue_35 : decode cX6_glue 35 = .ok (.iload 8, 2) := by decide +kernel
theorem dX6_glue_37 : decode cX6_glue 37 = .ok (.i2l, 1) := by decide +kernel
theorem dX6_glue_38 : decode cX6_glue 38 = .ok (.lconst 0, 1) := by decide +kernel
theorem dX6_glue_39 : decode cX6_glue 39 = .ok (.ldc2_w 85, 3) := by decide +kernel
theorem dX6_glue_42 : decode cX6_glue 42 = .ok (.invokestatic 67, 3) := by decide +kernel
theorem dX6_glue_45 : decode cX6_glue 45 = .ok (.ifCond .eq 7, 3) := by decide +kernel
theorem dX6_glue_48 : decode cX6_glue 48 = .ok (.iconst 1, 1) := by decide +kernel
theorem dX6_glue_49 : decode cX6_glue 49 = .ok (.goto 4, 3) := by decide +kernel
theorem dX6_glue_52 : decode cX6_glue 52 = .ok (.iconst 0, 1) := by decide +kernel
theorem dX6_glue_53 : decode cX6_glue 53 = .ok (.istore 9, 2) := by decide +kernel
theorem dX6_glue_55 : decode cX6_glue 55 = .ok (.aload_n 0, 1) := by decide +kernel
theorem dX6_glue_56 : decode cX6_glue 56 = .ok (.iload 9, 2) := by decide +kernel
theorem dX6_glue_58 : decode cX6_glue 58 = .ok (.ifCond .eq 7, 3) := by decide +kernel
theorem dX6_glue_61 : decode cX6_glue 61 = .ok (.iconst 0, 1) := by decide +kernel
theorem dX6_glue_62 : decode cX6_glue 62 = .ok (.goto 4, 3) := by decide +kernel
theorem dX6_glue_65 : decode cX6_glue 65 = .ok (.iconst 1, 1) := by decide +kernel
theorem dX6_glue_66 : decode cX6_glue 66 = .ok (.putfield 61, 3) := by decide +kernel
theorem dX6_glue_69 : decode cX6_glue 69 = .ok (.aload_n 0, 1) := by decide +kernel
theorem dX6_glue_70 : decode cX6_glue 70 = .ok (.getfield 61, 3) := by decide +kernel
theorem dX6_glue_73 : decode cX6_glue 73 = .ok (.ifCond .le 4, 3) := by decide +kernel
theorem dX6_glue_76 : decode cX6_glue 76 = .ok (.return_, 1) := by decide +kernel
theorem dX6_glue_77 : decode cX6_glue 77 = .ok (.aload_n 0, 1) := by decide +kernel
theorem dX6_glue_78 : decode cX6_glue 78 = .ok (.getfield 29, 3) := by decide +kernel
theorem dX6_glue_81 : decode cX6_glue 81 = .ok (.iconst 0, 1) := by decide +kernel
theorem dX6_glue_82 : decode cX6_glue 82 = .ok (.lload_n 1, 1) := by decide +kernel
theorem dX6_glue_83 : decode cX6_glue 83 = .ok (.lastore, 1) := by decide +kernel
theorem dX6_glue_84 : decode cX6_glue 84 = .ok (.aload_n 0, 1) := by decide +kernel
theorem dX6_glue_85 : decode cX6_glue 85 = .ok (.getfield 29, 3) := by decide +kernel
theorem dX6_glue_88 : decode cX6_glue 88 = .ok (.iconst 1, 1) := by decide +kernel
theorem dX6_glue_89 : decode cX6_glue 89 = .ok (.lload_n 3, 1) := by decide +kernel
theorem dX6_glue_90 : decode cX6_glue 90 = .ok (.lastore, 1) := by decide +kernel
theorem dX6_glue_91 : decode cX6_glue 91 = .ok (.aload_n 0, 1) := by decide +kernel
theorem dX6_glue_92 : decode cX6_glue 92 = .ok (.getfield 29, 3) := by decide +kernel
theorem dX6_glue_95 : decode cX6_glue 95 = .ok (.iconst 2, 1) := by decide +kernel
theorem dX6_glue_96 : decode cX6_glue 96 = .ok (.iload 5, 2) := by decide +kernel
theorem dX6_glue_98 : decode cX6_glue 98 = .ok (.i2l, 1) := by decide +kernel
theorem dX6_glue_99 : decode cX6_glue 99 = .ok (.lastore, 1) := by decide +kernel
theorem dX6_glue_100 : decode cX6_glue 100 = .ok (.aload_n 0, 1) := by decide +kernel
theorem dX6_glue_101 : decode cX6_glue 101 = .ok (.getfield 29, 3) := by decide +kernel
theorem dX6_glue_104 : decode cX6_glue 104 = .ok (.iconst 3, 1) := by decide +kernel
theorem dX6_glue_105 : decode cX6_glue 105 = .ok (.lload 6, 2) := by decide +kernel
theorem dX6_glue_107 : decode cX6_glue 107 = .ok (.lastore, 1) := by decide +kernel
theorem dX6_glue_108 : decode cX6_glue 108 = .ok (.aload_n 0, 1) := by decide +kernel
theorem dX6_glue_109 : decode cX6_glue 109 = .ok (.getfield 29, 3) := by decide +kernel
theorem dX6_glue_112 : decode cX6_glue 112 = .ok (.iconst 4, 1) := by decide +kernel
theorem dX6_glue_113 : decode cX6_glue 113 = .ok (.iload 8, 2) := by decide +kernel
theorem dX6_glue_115 : decode cX6_glue 115 = .ok (.i2l, 1) := by decide +kernel
theorem dX6_glue_116 : decode cX6_glue 116 = .ok (.lastore, 1) := by decide +kernel
theorem dX6_glue_117 : decode cX6_glue 117 = .ok (.return_, 1) := by decide +kernel
theorem dX6_isWithin_0 : decode cX6_isWithin 0 = .ok (.iload_n 1, 1) := by decide +kernel
theorem dX6_isWithin_1 : decode cX6_isWithin 1 = .ok (.ifCond .ne 19, 3) := by decide +kernel
theorem dX6_isWithin_4 : decode cX6_isWithin 4 = .ok (.aload_n 0, 1) := by decide +kernel
theorem dX6_isWithin_5 : decode cX6_isWithin 5 = .ok (.getfield 35, 3) := by decide +kernel
theorem dX6_isWithin_8 : decode cX6_isWithin 8 = .ok (.iconst 0, 1) := by decide +kernel
theorem dX6_isWithin_9 : decode cX6_isWithin 9 = .ok (.laload, 1) := by decide +kernel
theorem dX6_isWithin_10 : decode cX6_isWithin 10 = .ok (.ldc2_w 87, 3) := by decide +kernel
theorem dX6_isWithin_13 : decode cX6_isWithin 13 = .ok (.ldc2_w 89, 3) := by decide +kernel
theorem dX6_isWithin_16 : decode cX6_isWithin 16 = .ok (.invokestatic 67, 3) := by decide +kernel
theorem dX6_isWithin_19 : decode cX6_isWithin 19 = .ok (.ireturn, 1) := by decide +kernel
theorem dX6_isWithin_20 : decode cX6_isWithin 20 = .ok (.iload_n 1, 1) := by decide +kernel
theorem dX6_isWithin_21 : decode cX6_isWithin 21 = .ok (.iconst 1, 1) := by decide +kernel
theorem dX6_isWithin_22 : decode cX6_isWithin 22 = .ok (.if_icmp .ne 13, 3) := by decide +kernel
theorem dX6_isWithin_25 : decode cX6_isWithin 25 = .ok (.aload_n 0, 1) := by decide +kernel
theorem dX6_isWithin_26 : decode cX6_isWithin 26 = .ok (.getfield 35, 3) := by decide +kernel
theorem dX6_isWithin_29 : decode cX6_isWithin 29 = .ok (.iconst 0, 1) := by decide +kernel
theorem dX6_isWithin_30 : decode cX6_isWithin 30 = .ok (.laload, 1) := by decide +kernel
theorem dX6_isWithin_31 : decode cX6_isWithin 31 = .ok (.invokestatic 81, 3) := by decide +kernel
theorem dX6_isWithin_34 : decode cX6_isWithin 34 = .ok (.ireturn, 1) := by decide +kernel
theorem dX6_isWithin_35 : decode cX6_isWithin 35 = .ok (.iload_n 1, 1) := by decide +kernel
theorem dX6_isWithin_36 : decode cX6_isWithin 36 = .ok (.iconst 2, 1) := by decide +kernel
theorem dX6_isWithin_37 : decode cX6_isWithin 37 = .ok (.if_icmp .ne 39, 3) := by decide +kernel
theorem dX6_isWithin_40 : decode cX6_isWithin 40 = .ok (.aload_n 0, 1) := by decide +kernel
theorem dX6_isWithin_41 : decode cX6_isWithin 41 = .ok (.getfield 35, 3) := by decide +kernel
theorem dX6_isWithin_44 : decode cX6_isWithin 44 = .ok (.iconst 0, 1) := by decide +kernel
theorem dX6_isWithin_45 : decode cX6_isWithin 45 = .ok (.laload, 1) := by decide +kernel
theorem dX6_isWithin_46 : decode cX6_isWithin 46 = .ok (.invokestatic 81, 3) := by decide +kernel
theorem dX6_isWithin_49 : decode cX6_isWithin 49 = .ok (.ifCond .eq 31, 3) := by decide +kernel
theorem dX6_isWithin_52 : decode cX6_isWithin 52 = .ok (.aload_n 0, 1) := by decide +kernel
theorem dX6_isWithin_53 : decode cX6_isWithin 53 = .ok (.getfield 35, 3) := by decide +kernel
theorem dX6_isWithin_56 : decode cX6_isWithin 56 = .ok (.iconst 1, 1) := by decide +kernel
theorem dX6_isWithin_57 : decode cX6_isWithin 57 = .ok (.laload, 1) := by decide +kernel
theorem dX6_isWithin_58 : decode cX6_isWithin 58 = .ok (.invokestatic 81, 3) := by decide +kernel
theorem dX6_isWithin_61 : decode cX6_isWithin 61 = .ok (.ifCond .eq 19, 3) := by decide +kernel
theorem dX6_isWithin_64 : decode cX6_isWithin 64 = .ok (.aload_n 0, 1) := by decide +kernel
theorem dX6_isWithin_65 : decode cX6_isWithin 65 = .ok (.getfield 35, 3) := by decide +kernel
theorem dX6_isWithin_68 : decode cX6_isWithin 68 = .ok (.iconst 3, 1) := by decide +kernel
theorem dX6_isWithin_69 : decode cX6_isWithin 69 = .ok (.laload, 1) := by decide +kernel
theorem dX6_isWithin_70 : decode cX6_isWithin 70 = .ok (.invokestatic 81, 3) := by decide +kernel
theorem dX6_isWithin_73 : decode cX6_isWithin 73 = .ok (.ifCond .eq 7, 3) := by decide +kernel
theorem dX6_isWithin_76 : decode cX6_isWithin 76 = .ok (.iconst 1, 1) := by decide +kernel
theorem dX6_isWithin_77 : decode cX6_isWithin 77 = .ok (.goto 4, 3) := by decide +kernel
theorem dX6_isWithin_80 : decode cX6_isWithin 80 = .ok (.iconst 0, 1) := by decide +kernel
theorem dX6_isWithin_81 : decode cX6_isWithin 81 = .ok (.ireturn, 1) := by decide +kernel
theorem dX6_isFull_0 : decode cX6_isFull 0 = .ok (.iload_n 2, 1) := by decide +kernel
theorem dX6_isFull_1 : decode cX6_isFull 1 = .ok (.ifCond .ne 30, 3) := by decide +kernel
theorem dX6_isFull_4 : decode cX6_isFull 4 = .ok (.aload_n 0, 1) := by decide +kernel
theorem dX6_isFull_5 : decode cX6_isFull 5 = .ok (.getfield 13, 3) := by decide +kernel
theorem dX6_isFull_8 : decode cX6_isFull 8 = .ok (.iload_n 1, 1) := by decide +kernel
theorem dX6_isFull_9 : decode cX6_isFull 9 = .ok (.iaload, 1) := by decide +kernel
theorem dX6_isFull_10 : decode cX6_isFull 10 = .ok (.aload_n 0, 1) := by decide +kernel
theorem dX6_isFull_11 : decode cX6_isFull 11 = .ok (.getfield 91, 3) := by decide +kernel
theorem dX6_isFull_14 : decode cX6_isFull 14 = .ok (.if_icmp .ge 17, 3) := by decide +kernel
theorem dX6_isFull_17 : decode cX6_isFull 17 = .ok (.aload_n 0, 1) := by decide +kernel
theorem dX6_isFull_18 : decode cX6_isFull 18 = .ok (.getfield 94, 3) := by decide +kernel
theorem dX6_isFull_21 : decode cX6_isFull 21 = .ok (.sipush 200, 3) := by decide +kernel
theorem dX6_isFull_24 : decode cX6_isFull 24 = .ok (.if_icmp .ne 7, 3) := by decide +kernel
theorem dX6_isFull_27 : decode cX6_isFull 27 = .ok (.iconst 1, 1) := by decide +kernel
theorem dX6_isFull_28 : decode cX6_isFull 28 = .ok (.goto 4, 3) := by decide +kernel
theorem dX6_isFull_31 : decode cX6_isFull 31 = .ok (.iconst 0, 1) := by decide +kernel
theorem dX6_isFull_32 : decode cX6_isFull 32 = .ok (.ireturn, 1) := by decide +kernel
theorem dX6_put_0 : decode cX6_put 0 = .ok (.iload_n 2, 1) := by decide +kernel
theorem dX6_put_1 : decode cX6_put 1 = .ok (.ifCond .ne 103, 3) := by decide +kernel
theorem dX6_put_4 : decode cX6_put 4 = .ok (.aload_n 0, 1) := by decide +kernel
theorem dX6_put_5 : decode cX6_put 5 = .ok (.getfield 13, 3) := by decide +kernel
theorem dX6_put_8 : decode cX6_put 8 = .ok (.iload_n 1, 1) := by decide +kernel
theorem dX6_put_9 : decode cX6_put 9 = .ok (.iaload, 1) := by decide +kernel
theorem dX6_put_10 : decode cX6_put 10 = .ok (.aload_n 0, 1) := by decide +kernel
theorem dX6_put_11 : decode cX6_put 11 = .ok (.getfield 91, 3) := by decide +kernel
theorem dX6_put_14 : decode cX6_put 14 = .ok (.if_icmp .ge 90, 3) := by decide +kernel
theorem dX6_put_17 : decode cX6_put 17 = .ok (.iconst 0, 1) := by decide +kernel
theorem dX6_put_18 : decode cX6_put 18 = .ok (.istore_n 3, 1) := by decide +kernel
theorem dX6_put_19 : decode cX6_put 19 = .ok (.iload_n 3, 1) := by decide +kernel
theorem dX6_put_20 : decode cX6_put 20 = .ok (.bipush 21, 2) := by decide +kernel
theorem dX6_put_22 : decode cX6_put 22 = .ok (.if_icmp .ge 34, 3) := by decide +kernel
theorem dX6_put_25 : decode cX6_put 25 = .ok (.aload_n 0, 1) := by decide +kernel
theorem dX6_put_26 : decode cX6_put 26 = .ok (.getfield 17, 3) := by decide +kernel
theorem dX6_put_29 : decode cX6_put 29 = .ok (.bipush 21, 2) := by decide +kernel
theorem dX6_put_31 : decode cX6_put 31 = .ok (.aload_n 0, 1) := by decide +kernel
theorem dX6_put_32 : decode cX6_put 32 = .ok (.getfield 94, 3) := by decide +kernel
theorem dX6_put_35 : decode cX6_put 35 = .ok (.imul, 1) := by decide +kernel
theorem dX6_put_36 : decode cX6_put 36 = .ok (.iload_n 3, 1) := by decide +kernel
theorem dX6_put_37 : decode cX6_put 37 = .ok (.iadd, 1) := by decide +kernel
theorem dX6_put_38 : decode cX6_put 38 = .ok (.aload_n 0, 1) := by decide +kernel
theorem dX6_put_39 : decode cX6_put 39 = .ok (.getfield 7, 3) := by decide +kernel
theorem dX6_put_42 : decode cX6_put 42 = .ok (.bipush 21, 2) := by decide +kernel
theorem dX6_put_44 : decode cX6_put 44 = .ok (.iload_n 1, 1) := by decide +kernel
theorem dX6_put_45 : decode cX6_put 45 = .ok (.imul, 1) := by decide +kernel
theorem dX6_put_46 : decode cX6_put 46 = .ok (.iload_n 3, 1) := by decide +kernel
theorem dX6_put_47 : decode cX6_put 47 = .ok (.iadd, 1) := by decide +kernel
theorem dX6_put_48 : decode cX6_put 48 = .ok (.laload, 1) := by decide +kernel
theorem dX6_put_49 : decode cX6_put 49 = .ok (.lastore, 1) := by decide +kernel
theorem dX6_put_50 : decode cX6_put 50 = .ok (.iinc 3 1, 3) := by decide +kernel
theorem dX6_put_53 : decode cX6_put 53 = .ok (.goto (-34), 3) := by decide +kernel
theorem dX6_put_56 : decode cX6_put 56 = .ok (.aload_n 0, 1) := by decide +kernel
theorem dX6_put_57 : decode cX6_put 57 = .ok (.getfield 20, 3) := by decide +kernel
theorem dX6_put_60 : decode cX6_put 60 = .ok (.aload_n 0, 1) := by decide +kernel
theorem dX6_put_61 : decode cX6_put 61 = .ok (.getfield 94, 3) := by decide +kernel
theorem dX6_put_64 : decode cX6_put 64 = .ok (.iload_n 1, 1) := by decide +kernel
theorem dX6_put_65 : decode cX6_put 65 = .ok (.iastore, 1) := by decide +kernel
theorem dX6_put_66 : decode cX6_put 66 = .ok (.aload_n 0, 1) := by decide +kernel
theorem dX6_put_67 : decode cX6_put 67 = .ok (.getfield 23, 3) := by decide +kernel
theorem dX6_put_70 : decode cX6_put 70 = .ok (.aload_n 0, 1) := by decide +kernel
theorem dX6_put_71 : decode cX6_put 71 = .ok (.getfield 94, 3) := by decide +kernel
theorem dX6_put_74 : decode cX6_put 74 = .ok (.aload_n 0, 1) := by decide +kernel
theorem dX6_put_75 : decode cX6_put 75 = .ok (.getfield 13, 3) := by decide +kernel
theorem dX6_put_78 : decode cX6_put 78 = .ok (.iload_n 1, 1) := by decide +kernel
theorem dX6_put_79 : decode cX6_put 79 = .ok (.iaload, 1) := by decide +kernel
theorem dX6_put_80 : decode cX6_put 80 = .ok (.iastore, 1) := by decide +kernel
theorem dX6_put_81 : decode cX6_put 81 = .ok (.aload_n 0, 1) := by decide +kernel
theorem dX6_put_82 : decode cX6_put 82 = .ok (.getfield 26, 3) := by decide +kernel
theorem dX6_put_85 : decode cX6_put 85 = .ok (.aload_n 0, 1) := by decide +kernel
theorem dX6_put_86 : decode cX6_put 86 = .ok (.getfield 94, 3) := by decide +kernel
theorem dX6_put_89 : decode cX6_put 89 = .ok (.aload_n 0, 1) := by decide +kernel
theorem dX6_put_90 : decode cX6_put 90 = .ok (.getfield 91, 3) := by decide +kernel
theorem dX6_put_93 : decode cX6_put 93 = .ok (.iastore, 1) := by decide +kernel
theorem dX6_put_94 : decode cX6_put 94 = .ok (.aload_n 0, 1) := by decide +kernel
theorem dX6_put_95 : decode cX6_put 95 = .ok (.dup, 1) := by decide +kernel
theorem dX6_put_96 : decode cX6_put 96 = .ok (.getfield 94, 3) := by decide +kernel
theorem dX6_put_99 : decode cX6_put 99 = .ok (.iconst 1, 1) := by decide +kernel
theorem dX6_put_100 : decode cX6_put 100 = .ok (.iadd, 1) := by decide +kernel
theorem dX6_put_101 : decode cX6_put 101 = .ok (.putfield 94, 3) := by decide +kernel
theorem dX6_put_104 : decode cX6_put 104 = .ok (.iconst 0, 1) := by decide +kernel
theorem dX6_put_105 : decode cX6_put 105 = .ok (.istore_n 3, 1) := by decide +kernel
theorem dX6_put_106 : decode cX6_put 106 = .ok (.iload_n 3, 1) := by decide +kernel
theorem dX6_put_107 : decode cX6_put 107 = .ok (.bipush 21, 2) := by decide +kernel
theorem dX6_put_109 : decode cX6_put 109 = .ok (.if_icmp .ge 26, 3) := by decide +kernel
theorem dX6_put_112 : decode cX6_put 112 = .ok (.aload_n 0, 1) := by decide +kernel
theorem dX6_put_113 : decode cX6_put 113 = .ok (.getfield 7, 3) := by decide +kernel
theorem dX6_put_116 : decode cX6_put 116 = .ok (.bipush 21, 2) := by decide +kernel
theorem dX6_put_118 : decode cX6_put 118 = .ok (.iload_n 1, 1) := by decide +kernel
theorem dX6_put_119 : decode cX6_put 119 = .ok (.imul, 1) := by decide +kernel
theorem dX6_put_120 : decode cX6_put 120 = .ok (.iload_n 3, 1) := by decide +kernel
theorem dX6_put_121 : decode cX6_put 121 = .ok (.iadd, 1) := by decide +kernel
theorem dX6_put_122 : decode cX6_put 122 = .ok (.aload_n 0, 1) := by decide +kernel
theorem dX6_put_123 : decode cX6_put 123 = .ok (.getfield 35, 3) := by decide +kernel
theorem dX6_put_126 : decode cX6_put 126 = .ok (.iload_n 3, 1) := by decide +kernel
theorem dX6_put_127 : decode cX6_put 127 = .ok (.laload, 1) := by decide +kernel
theorem dX6_put_128 : decode cX6_put 128 = .ok (.lastore, 1) := by decide +kernel
theorem dX6_put_129 : decode cX6_put 129 = .ok (.iinc 3 1, 3) := by decide +kernel
theorem dX6_put_132 : decode cX6_put 132 = .ok (.goto (-26), 3) := by decide +kernel
theorem dX6_put_135 : decode cX6_put 135 = .ok (.aload_n 0, 1) := by decide +kernel
theorem dX6_put_136 : decode cX6_put 136 = .ok (.getfield 13, 3) := by decide +kernel
theorem dX6_put_139 : decode cX6_put 139 = .ok (.iload_n 1, 1) := by decide +kernel
theorem dX6_put_140 : decode cX6_put 140 = .ok (.iload_n 2, 1) := by decide +kernel
theorem dX6_put_141 : decode cX6_put 141 = .ok (.ifCond .eq 7, 3) := by decide +kernel
theorem dX6_put_144 : decode cX6_put 144 = .ok (.iconst 0, 1) := by decide +kernel
theorem dX6_put_145 : decode cX6_put 145 = .ok (.goto 7, 3) := by decide +kernel
theorem dX6_put_148 : decode cX6_put 148 = .ok (.aload_n 0, 1) := by decide +kernel
theorem dX6_put_149 : decode cX6_put 149 = .ok (.getfield 91, 3) := by decide +kernel
theorem dX6_put_152 : decode cX6_put 152 = .ok (.iastore, 1) := by decide +kernel
theorem dX6_put_153 : decode cX6_put 153 = .ok (.return_, 1) := by decide +kernel
theorem dX6_finish_0 : decode cX6_finish 0 = .ok (.aload_n 0, 1) := by decide +kernel
theorem dX6_finish_1 : decode cX6_finish 1 = .ok (.iload_n 1, 1) := by decide +kernel
theorem dX6_finish_2 : decode cX6_finish 2 = .ok (.invokevirtual 97, 3) := by decide +kernel
theorem dX6_finish_5 : decode cX6_finish 5 = .ok (.ifCond .ne 5, 3) := by decide +kernel
theorem dX6_finish_8 : decode cX6_finish 8 = .ok (.iconst 0, 1) := by decide +kernel
theorem dX6_finish_9 : decode cX6_finish 9 = .ok (.ireturn, 1) := by decide +kernel
theorem dX6_finish_10 : decode cX6_finish 10 = .ok (.bipush 32, 2) := by decide +kernel
theorem dX6_finish_12 : decode cX6_finish 12 = .ok (.iload_n 1, 1) := by decide +kernel
theorem dX6_finish_13 : decode cX6_finish 13 = .ok (.imul, 1) := by decide +kernel
theorem dX6_finish_14 : decode cX6_finish 14 = .ok (.iload_n 2, 1) := by decide +kernel
theorem dX6_finish_15 : decode cX6_finish 15 = .ok (.iadd, 1) := by decide +kernel
theorem dX6_finish_16 : decode cX6_finish 16 = .ok (.istore 5, 2) := by decide +kernel
theorem dX6_finish_18 : decode cX6_finish 18 = .ok (.aload_n 0, 1) := by decide +kernel
theorem dX6_finish_19 : decode cX6_finish 19 = .ok (.aload_n 0, 1) := by decide +kernel
theorem dX6_finish_20 : decode cX6_finish 20 = .ok (.iload 5, 2) := by decide +kernel
theorem dX6_finish_22 : decode cX6_finish 22 = .ok (.iload_n 3, 1) := by decide +kernel
theorem dX6_finish_23 : decode cX6_finish 23 = .ok (.invokevirtual 101, 3) := by decide +kernel
theorem dX6_finish_26 : decode cX6_finish 26 = .ok (.ifCond .eq 8, 3) := by decide +kernel
theorem dX6_finish_29 : decode cX6_finish 29 = .ok (.iload 4, 2) := by decide +kernel
theorem dX6_finish_31 : decode cX6_finish 31 = .ok (.goto 4, 3) := by decide +kernel
theorem dX6_finish_34 : decode cX6_finish 34 = .ok (.iconst 0, 1) := by decide +kernel
theorem dX6_finish_35 : decode cX6_finish 35 = .ok (.putfield 61, 3) := by decide +kernel
theorem dX6_finish_38 : decode cX6_finish 38 = .ok (.aload_n 0, 1) := by decide +kernel
theorem dX6_finish_39 : decode cX6_finish 39 = .ok (.getfield 61, 3) := by decide +kernel
theorem dX6_finish_42 : decode cX6_finish 42 = .ok (.ifCond .le 5, 3) := by decide +kernel
theorem dX6_finish_45 : decode cX6_finish 45 = .ok (.iconst 0, 1) := by decide +kernel
theorem dX6_finish_46 : decode cX6_finish 46 = .ok (.ireturn, 1) := by decide +kernel
theorem dX6_finish_47 : decode cX6_finish 47 = .ok (.aload_n 0, 1) := by decide +kernel
theorem dX6_finish_48 : decode cX6_finish 48 = .ok (.iload 5, 2) := by decide +kernel
theorem dX6_finish_50 : decode cX6_finish 50 = .ok (.iload_n 3, 1) := by decide +kernel
theorem dX6_finish_51 : decode cX6_finish 51 = .ok (.invokevirtual 105, 3) := by decide +kernel
theorem dX6_finish_54 : decode cX6_finish 54 = .ok (.iconst 1, 1) := by decide +kernel
theorem dX6_finish_55 : decode cX6_finish 55 = .ok (.ireturn, 1) := by decide +kernel
theorem dX6_fetch_0 : decode cX6_fetch 0 = .ok (.iconst 0, 1) := by decide +kernel
theorem dX6_fetch_1 : decode cX6_fetch 1 = .ok (.istore_n 3, 1) := by decide +kernel
theorem dX6_fetch_2 : decode cX6_fetch 2 = .ok (.iload_n 3, 1) := by decide +kernel
theorem dX6_fetch_3 : decode cX6_fetch 3 = .ok (.bipush 21, 2) := by decide +kernel
theorem dX6_fetch_5 : decode cX6_fetch 5 = .ok (.if_icmp .ge 31, 3) := by decide +kernel
theorem dX6_fetch_8 : decode cX6_fetch 8 = .ok (.aload_n 0, 1) := by decide +kernel
theorem dX6_fetch_9 : decode cX6_fetch 9 = .ok (.getfield 35, 3) := by decide +kernel
theorem dX6_fetch_12 : decode cX6_fetch 12 = .ok (.iload_n 3, 1) := by decide +kernel
theorem dX6_fetch_13 : decode cX6_fetch 13 = .ok (.aload_n 0, 1) := by decide +kernel
theorem dX6_fetch_14 : decode cX6_fetch 14 = .ok (.getfield 7, 3) := by decide +kernel
theorem dX6_fetch_17 : decode cX6_fetch 17 = .ok (.bipush 21, 2) := by decide +kernel
theorem dX6_fetch_19 : decode cX6_fetch 19 = .ok (.bipush 32, 2) := by decide +kernel
theorem dX6_fetch_21 : decode cX6_fetch 21 = .ok (.iload_n 1, 1) := by decide +kernel
theorem dX6_fetch_22 : decode cX6_fetch 22 = .ok (.imul, 1) := by decide +kernel
theorem dX6_fetch_23 : decode cX6_fetch 23 = .ok (.iload_n 2, 1) := by decide +kernel
theorem dX6_fetch_24 : decode cX6_fetch 24 = .ok (.iadd, 1) := by decide +kernel
theorem dX6_fetch_25 : decode cX6_fetch 25 = .ok (.imul, 1) := by decide +kernel
theorem dX6_fetch_26 : decode cX6_fetch 26 = .ok (.iload_n 3, 1) := by decide +kernel
theorem dX6_fetch_27 : decode cX6_fetch 27 = .ok (.iadd, 1) := by decide +kernel
theorem dX6_fetch_28 : decode cX6_fetch 28 = .ok (.laload, 1) := by decide +kernel
theorem dX6_fetch_29 : decode cX6_fetch 29 = .ok (.lastore, 1) := by decide +kernel
theorem dX6_fetch_30 : decode cX6_fetch 30 = .ok (.iinc 3 1, 3) := by decide +kernel
theorem dX6_fetch_33 : decode cX6_fetch 33 = .ok (.goto (-31), 3) := by decide +kernel
theorem dX6_fetch_36 : decode cX6_fetch 36 = .ok (.return_, 1) := by decide +kernel
theorem dX6_set_0 : decode cX6_set 0 = .ok (.aload_n 0, 1) := by decide +kernel
theorem dX6_set_1 : decode cX6_set 1 = .ok (.iload_n 1, 1) := by decide +kernel
theorem dX6_set_2 : decode cX6_set 2 = .ok (.invokestatic 109, 3) := by decide +kernel
theorem dX6_set_5 : decode cX6_set 5 = .ok (.ifCond .eq 21, 3) := by decide +kernel
theorem dX6_set_8 : decode cX6_set 8 = .ok (.iload_n 1, 1) := by decide +kernel
theorem dX6_set_9 : decode cX6_set 9 = .ok (.iconst 4, 1) := by decide +kernel
theorem dX6_set_10 : decode cX6_set 10 = .ok (.if_icmp .ne 20, 3) := by decide +kernel
theorem dX6_set_13 : decode cX6_set 13 = .ok (.lload_n 3, 1) := by decide +kernel
theorem dX6_set_14 : decode cX6_set 14 = .ok (.ldc2_w 59, 3) := by decide +kernel
theorem dX6_set_17 : decode cX6_set 17 = .ok (.ldc2_w 112, 3) := by decide +kernel
theorem dX6_set_20 : decode cX6_set 20 = .ok (.invokestatic 67, 3) := by decide +kernel
theorem dX6_set_23 : decode cX6_set 23 = .ok (.ifCond .ne 7, 3) := by decide +kernel
theorem dX6_set_26 : decode cX6_set 26 = .ok (.iconst 1, 1) := by decide +kernel
theorem dX6_set_27 : decode cX6_set 27 = .ok (.goto 15, 3) := by decide +kernel
theorem dX6_set_30 : decode cX6_set 30 = .ok (.iload_n 2, 1) := by decide +kernel
theorem dX6_set_31 : decode cX6_set 31 = .ok (.invokestatic 114, 3) := by decide +kernel
theorem dX6_set_34 : decode cX6_set 34 = .ok (.ifCond .ne 7, 3) := by decide +kernel
theorem dX6_set_37 : decode cX6_set 37 = .ok (.iconst 2, 1) := by decide +kernel
theorem dX6_set_38 : decode cX6_set 38 = .ok (.goto 4, 3) := by decide +kernel
theorem dX6_set_41 : decode cX6_set 41 = .ok (.iconst 0, 1) := by decide +kernel
theorem dX6_set_42 : decode cX6_set 42 = .ok (.putfield 61, 3) := by decide +kernel
theorem dX6_set_45 : decode cX6_set 45 = .ok (.aload_n 0, 1) := by decide +kernel
theorem dX6_set_46 : decode cX6_set 46 = .ok (.getfield 61, 3) := by decide +kernel
theorem dX6_set_49 : decode cX6_set 49 = .ok (.ifCond .le 5, 3) := by decide +kernel
theorem dX6_set_52 : decode cX6_set 52 = .ok (.iconst 0, 1) := by decide +kernel
theorem dX6_set_53 : decode cX6_set 53 = .ok (.ireturn, 1) := by decide +kernel
theorem dX6_set_54 : decode cX6_set 54 = .ok (.iconst 0, 1) := by decide +kernel
theorem dX6_set_55 : decode cX6_set 55 = .ok (.istore 6, 2) := by decide +kernel
theorem dX6_set_57 : decode cX6_set 57 = .ok (.iload 6, 2) := by decide +kernel
theorem dX6_set_59 : decode cX6_set 59 = .ok (.bipush 21, 2) := by decide +kernel
theorem dX6_set_61 : decode cX6_set 61 = .ok (.if_icmp .ge 66, 3) := by decide +kernel
theorem dX6_set_64 : decode cX6_set 64 = .ok (.aload_n 0, 1) := by decide +kernel
theorem dX6_set_65 : decode cX6_set 65 = .ok (.getfield 35, 3) := by decide +kernel
theorem dX6_set_68 : decode cX6_set 68 = .ok (.iload 6, 2) := by decide +kernel
theorem dX6_set_70 : decode cX6_set 70 = .ok (.iload_n 1, 1) := by decide +kernel
theorem dX6_set_71 : decode cX6_set 71 = .ok (.iconst 3, 1) := by decide +kernel
theorem dX6_set_72 : decode cX6_set 72 = .ok (.if_icmp .ne 13, 3) := by decide +kernel
theorem dX6_set_75 : decode cX6_set 75 = .ok (.aload_n 0, 1) := by decide +kernel
theorem dX6_set_76 : decode cX6_set 76 = .ok (.getfield 32, 3) := by decide +kernel
theorem dX6_set_79 : decode cX6_set 79 = .ok (.iload 6, 2) := by decide +kernel
theorem dX6_set_81 : decode cX6_set 81 = .ok (.laload, 1) := by decide +kernel
theorem dX6_set_82 : decode cX6_set 82 = .ok (.goto 38, 3) := by decide +kernel
theorem dX6_set_85 : decode cX6_set 85 = .ok (.iload_n 1, 1) := by decide +kernel
theorem dX6_set_86 : decode cX6_set 86 = .ok (.iconst 2, 1) := by decide +kernel
theorem dX6_set_87 : decode cX6_set 87 = .ok (.if_icmp .ne 23, 3) := by decide +kernel
theorem dX6_set_90 : decode cX6_set 90 = .ok (.iload 6, 2) := by decide +kernel
theorem dX6_set_92 : decode cX6_set 92 = .ok (.iconst 5, 1) := by decide +kernel
theorem dX6_set_93 : decode cX6_set 93 = .ok (.if_icmp .ge 13, 3) := by decide +kernel
theorem dX6_set_96 : decode cX6_set 96 = .ok (.aload_n 0, 1) := by decide +kernel
theorem dX6_set_97 : decode cX6_set 97 = .ok (.getfield 29, 3) := by decide +kernel
theorem dX6_set_100 : decode cX6_set 100 = .ok (.iload 6, 2) := by decide +kernel
theorem dX6_set_102 : decode cX6_set 102 = .ok (.laload, 1) := by decide +kernel
theorem dX6_set_103 : decode cX6_set 103 = .ok (.goto 17, 3) := by decide +kernel
theorem dX6_set_106 : decode cX6_set 106 = .ok (.lconst 0, 1) := by decide +kernel
theorem dX6_set_107 : decode cX6_set 107 = .ok (.goto 13, 3) := by decide +kernel
theorem dX6_set_110 : decode cX6_set 110 = .ok (.iload 6, 2) := by decide +kernel
theorem dX6_set_112 : decode cX6_set 112 = .ok (.ifCond .ne 7, 3) := by decide +kernel
theorem dX6_set_115 : decode cX6_set 115 = .ok (.lload_n 3, 1) := by decide +kernel
theorem dX6_set_116 : decode cX6_set 116 = .ok (.goto 4, 3) := by decide +kernel
theorem dX6_set_119 : decode cX6_set 119 = .ok (.lconst 0, 1) := by decide +kernel
theorem dX6_set_120 : decode cX6_set 120 = .ok (.lastore, 1) := by decide +kernel
theorem dX6_set_121 : decode cX6_set 121 = .ok (.iinc 6 1, 3) := by decide +kernel
theorem dX6_set_124 : decode cX6_set 124 = .ok (.goto (-67), 3) := by decide +kernel
theorem dX6_set_127 : decode cX6_set 127 = .ok (.aload_n 0, 1) := by decide +kernel
theorem dX6_set_128 : decode cX6_set 128 = .ok (.iload_n 1, 1) := by decide +kernel
theorem dX6_set_129 : decode cX6_set 129 = .ok (.iload_n 2, 1) := by decide +kernel
theorem dX6_set_130 : decode cX6_set 130 = .ok (.iload 5, 2) := by decide +kernel
theorem dX6_set_132 : decode cX6_set 132 = .ok (.iconst 3, 1) := by decide +kernel
theorem dX6_set_133 : decode cX6_set 133 = .ok (.invokevirtual 117, 3) := by decide +kernel
theorem dX6_set_136 : decode cX6_set 136 = .ok (.istore 6, 2) := by decide +kernel
theorem dX6_set_138 : decode cX6_set 138 = .ok (.iload 6, 2) := by decide +kernel
theorem dX6_set_140 : decode cX6_set 140 = .ok (.iconst 1, 1) := by decide +kernel
theorem dX6_set_141 : decode cX6_set 141 = .ok (.if_icmp .ne 15, 3) := by decide +kernel
theorem dX6_set_144 : decode cX6_set 144 = .ok (.iload_n 1, 1) := by decide +kernel
theorem dX6_set_145 : decode cX6_set 145 = .ok (.iconst 3, 1) := by decide +kernel
theorem dX6_set_146 : decode cX6_set 146 = .ok (.if_icmp .ne 10, 3) := by decide +kernel
theorem dX6_set_149 : decode cX6_set 149 = .ok (.aload_n 0, 1) := by decide +kernel
theorem dX6_set_150 : decode cX6_set 150 = .ok (.getfield 32, 3) := by decide +kernel
theorem dX6_set_153 : decode cX6_set 153 = .ok (.iconst 0, 1) := by decide +kernel
theorem dX6_set_154 : decode cX6_set 154 = .ok (.lconst 0, 1) := by decide +kernel
theorem dX6_set_155 : decode cX6_set 155 = .ok (.lastore, 1) := by decide +kernel
theorem dX6_set_156 : decode cX6_set 156 = .ok (.iload 6, 2) := by decide +kernel
theorem dX6_set_158 : decode cX6_set 158 = .ok (.ireturn, 1) := by decide +kernel
theorem dX6_addPart_0 : decode cX6_addPart 0 = .ok (.aload_n 0, 1) := by decide +kernel
theorem dX6_addPart_1 : decode cX6_addPart 1 = .ok (.getfield 7, 3) := by decide +kernel
theorem dX6_addPart_4 : decode cX6_addPart 4 = .ok (.bipush 21, 2) := by decide +kernel
theorem dX6_addPart_6 : decode cX6_addPart 6 = .ok (.bipush 64, 2) := by decide +kernel
theorem dX6_addPart_8 : decode cX6_addPart 8 = .ok (.iload_n 1, 1) := by decide +kernel
theorem dX6_addPart_9 : decode cX6_addPart 9 = .ok (.iadd, 1) := by decide +kernel
theorem dX6_addPart_10 : decode cX6_addPart 10 = .ok (.imul, 1) := by decide +kernel
theorem dX6_addPart_11 : decode cX6_addPart 11 = .ok (.iload_n 2, 1) := by decide +kernel
theorem dX6_addPart_12 : decode cX6_addPart 12 = .ok (.iadd, 1) := by decide +kernel
theorem dX6_addPart_13 : decode cX6_addPart 13 = .ok (.laload, 1) := by decide +kernel
theorem dX6_addPart_14 : decode cX6_addPart 14 = .ok (.lstore_n 3, 1) := by decide +kernel
theorem dX6_addPart_15 : decode cX6_addPart 15 = .ok (.aload_n 0, 1) := by decide +kernel
theorem dX6_addPart_16 : decode cX6_addPart 16 = .ok (.getfield 7, 3) := by decide +kernel
theorem dX6_addPart_19 : decode cX6_addPart 19 = .ok (.bipush 21, 2) := by decide +kernel
theorem dX6_addPart_21 : decode cX6_addPart 21 = .ok (.bipush 64, 2) := by decide +kernel
theorem dX6_addPart_23 : decode cX6_addPart 23 = .ok (.iload_n 1, 1) := by decide +kernel
theorem dX6_addPart_24 : decode cX6_addPart 24 = .ok (.iadd, 1) := by decide +kernel
theorem dX6_addPart_25 : decode cX6_addPart 25 = .ok (.imul, 1) := by decide +kernel
theorem dX6_addPart_26 : decode cX6_addPart 26 = .ok (.iload_n 2, 1) := by decide +kernel
theorem dX6_addPart_27 : decode cX6_addPart 27 = .ok (.iadd, 1) := by decide +kernel
theorem dX6_addPart_28 : decode cX6_addPart 28 = .ok (.iconst 1, 1) := by decide +kernel
theorem dX6_addPart_29 : decode cX6_addPart 29 = .ok (.iadd, 1) := by decide +kernel
theorem dX6_addPart_30 : decode cX6_addPart 30 = .ok (.laload, 1) := by decide +kernel
theorem dX6_addPart_31 : decode cX6_addPart 31 = .ok (.lstore 5, 2) := by decide +kernel
theorem dX6_addPart_33 : decode cX6_addPart 33 = .ok (.aload_n 0, 1) := by decide +kernel
theorem dX6_addPart_34 : decode cX6_addPart 34 = .ok (.getfield 35, 3) := by decide +kernel
theorem dX6_addPart_37 : decode cX6_addPart 37 = .ok (.iload_n 2, 1) := by decide +kernel
theorem dX6_addPart_38 : decode cX6_addPart 38 = .ok (.laload, 1) := by decide +kernel
theorem dX6_addPart_39 : decode cX6_addPart 39 = .ok (.lconst 0, 1) := by decide +kernel
theorem dX6_addPart_40 : decode cX6_addPart 40 = .ok (.lcmp, 1) := by decide +kernel
theorem dX6_addPart_41 : decode cX6_addPart 41 = .ok (.ifCond .ne 7, 3) := by decide +kernel
theorem dX6_addPart_44 : decode cX6_addPart 44 = .ok (.lconst 0, 1) := by decide +kernel
theorem dX6_addPart_45 : decode cX6_addPart 45 = .ok (.goto 11, 3) := by decide +kernel
theorem dX6_addPart_48 : decode cX6_addPart 48 = .ok (.aload_n 0, 1) := by decide +kernel
theorem dX6_addPart_49 : decode cX6_addPart 49 = .ok (.getfield 35, 3) := by decide +kernel
theorem dX6_addPart_52 : decode cX6_addPart 52 = .ok (.iload_n 2, 1) := by decide +kernel
theorem dX6_addPart_53 : decode cX6_addPart 53 = .ok (.iconst 1, 1) := by decide +kernel
theorem dX6_addPart_54 : decode cX6_addPart 54 = .ok (.iadd, 1) := by decide +kernel
theorem dX6_addPart_55 : decode cX6_addPart 55 = .ok (.laload, 1) := by decide +kernel
theorem dX6_addPart_56 : decode cX6_addPart 56 = .ok (.lstore 7, 2) := by decide +kernel
theorem dX6_addPart_58 : decode cX6_addPart 58 = .ok (.lload 5, 2) := by decide +kernel
theorem dX6_addPart_60 : decode cX6_addPart 60 = .ok (.lload 7, 2) := by decide +kernel
theorem dX6_addPart_62 : decode cX6_addPart 62 = .ok (.lcmp, 1) := by decide +kernel
theorem dX6_addPart_63 : decode cX6_addPart 63 = .ok (.ifCond .ne 30, 3) := by decide +kernel
theorem dX6_addPart_66 : decode cX6_addPart 66 = .ok (.aload_n 0, 1) := by decide +kernel
theorem dX6_addPart_67 : decode cX6_addPart 67 = .ok (.getfield 35, 3) := by decide +kernel
theorem dX6_addPart_70 : decode cX6_addPart 70 = .ok (.iload_n 2, 1) := by decide +kernel
theorem dX6_addPart_71 : decode cX6_addPart 71 = .ok (.aload_n 0, 1) := by decide +kernel
theorem dX6_addPart_72 : decode cX6_addPart 72 = .ok (.getfield 35, 3) := by decide +kernel
theorem dX6_addPart_75 : decode cX6_addPart 75 = .ok (.iload_n 2, 1) := by decide +kernel
theorem dX6_addPart_76 : decode cX6_addPart 76 = .ok (.laload, 1) := by decide +kernel
theorem dX6_addPart_77 : decode cX6_addPart 77 = .ok (.lload_n 3, 1) := by decide +kernel
theorem dX6_addPart_78 : decode cX6_addPart 78 = .ok (.ladd, 1) := by decide +kernel
theorem dX6_addPart_79 : decode cX6_addPart 79 = .ok (.lastore, 1) := by decide +kernel
theorem dX6_addPart_80 : decode cX6_addPart 80 = .ok (.aload_n 0, 1) := by decide +kernel
theorem dX6_addPart_81 : decode cX6_addPart 81 = .ok (.getfield 35, 3) := by decide +kernel
theorem dX6_addPart_84 : decode cX6_addPart 84 = .ok (.iload_n 2, 1) := by decide +kernel
theorem dX6_addPart_85 : decode cX6_addPart 85 = .ok (.iconst 1, 1) := by decide +kernel
theorem dX6_addPart_86 : decode cX6_addPart 86 = .ok (.iadd, 1) := by decide +kernel
theorem dX6_addPart_87 : decode cX6_addPart 87 = .ok (.lload 7, 2) := by decide +kernel
theorem dX6_addPart_89 : decode cX6_addPart 89 = .ok (.lastore, 1) := by decide +kernel
theorem dX6_addPart_90 : decode cX6_addPart 90 = .ok (.goto 34, 3) := by decide +kernel
theorem dX6_addPart_93 : decode cX6_addPart 93 = .ok (.lload 5, 2) := by decide +kernel
theorem dX6_addPart_95 : decode cX6_addPart 95 = .ok (.lload 7, 2) := by decide +kernel
theorem dX6_addPart_97 : decode cX6_addPart 97 = .ok (.lcmp, 1) := by decide +kernel
theorem dX6_addPart_98 : decode cX6_addPart 98 = .ok (.ifCond .le 26, 3) := by decide +kernel
theorem dX6_addPart_101 : decode cX6_addPart 101 = .ok (.lload_n 3, 1) := by decide +kernel
theorem dX6_addPart_102 : decode cX6_addPart 102 = .ok (.lconst 0, 1) := by decide +kernel
theorem dX6_addPart_103 : decode cX6_addPart 103 = .ok (.lcmp, 1) := by decide +kernel
theorem dX6_addPart_104 : decode cX6_addPart 104 = .ok (.ifCond .eq 20, 3) := by decide +kernel
theorem dX6_addPart_107 : decode cX6_addPart 107 = .ok (.aload_n 0, 1) := by decide +kernel
theorem dX6_addPart_108 : decode cX6_addPart 108 = .ok (.getfield 35, 3) := by decide +kernel
theorem dX6_addPart_111 : decode cX6_addPart 111 = .ok (.iload_n 2, 1) := by decide +kernel
theorem dX6_addPart_112 : decode cX6_addPart 112 = .ok (.lload_n 3, 1) := by decide +kernel
theorem dX6_addPart_113 : decode cX6_addPart 113 = .ok (.lastore, 1) := by decide +kernel
theorem dX6_addPart_114 : decode cX6_addPart 114 = .ok (.aload_n 0, 1) := by decide +kernel
theorem dX6_addPart_115 : decode cX6_addPart 115 = .ok (.getfield 35, 3) := by decide +kernel
theorem dX6_addPart_118 : decode cX6_addPart 118 = .ok (.iload_n 2, 1) := by decide +kernel
theorem dX6_addPart_119 : decode cX6_addPart 119 = .ok (.iconst 1, 1) := by decide +kernel
theorem dX6_addPart_120 : decode cX6_addPart 120 = .ok (.iadd, 1) := by decide +kernel
theorem dX6_addPart_121 : decode cX6_addPart 121 = .ok (.lload 5, 2) := by decide +kernel
theorem dX6_addPart_123 : decode cX6_addPart 123 = .ok (.lastore, 1) := by decide +kernel
theorem dX6_addPart_124 : decode cX6_addPart 124 = .ok (.return_, 1) := by decide +kernel
theorem dX6_add_0 : decode cX6_add 0 = .ok (.aload_n 0, 1) := by decide +kernel
theorem dX6_add_1 : decode cX6_add 1 = .ok (.iload_n 1, 1) := by decide +kernel
theorem dX6_add_2 : decode cX6_add 2 = .ok (.i2l, 1) := by decide +kernel
theorem dX6_add_3 : decode cX6_add 3 = .ok (.lconst 0, 1) := by decide +kernel
theorem dX6_add_4 : decode cX6_add 4 = .ok (.ldc2_w 121, 3) := by decide +kernel
theorem dX6_add_7 : decode cX6_add 7 = .ok (.invokestatic 67, 3) := by decide +kernel
theorem dX6_add_10 : decode cX6_add 10 = .ok (.ifCond .ne 7, 3) := by decide +kernel
theorem dX6_add_13 : decode cX6_add 13 = .ok (.iconst 1, 1) := by decide +kernel
theorem dX6_add_14 : decode cX6_add 14 = .ok (.goto 31, 3) := by decide +kernel
theorem dX6_add_17 : decode cX6_add 17 = .ok (.iload_n 2, 1) := by decide +kernel
theorem dX6_add_18 : decode cX6_add 18 = .ok (.invokestatic 114, 3) := by decide +kernel
theorem dX6_add_21 : decode cX6_add 21 = .ok (.ifCond .eq 19, 3) := by decide +kernel
theorem dX6_add_24 : decode cX6_add 24 = .ok (.iload_n 1, 1) := by decide +kernel
theorem dX6_add_25 : decode cX6_add 25 = .ok (.iconst 2, 1) := by decide +kernel
theorem dX6_add_26 : decode cX6_add 26 = .ok (.if_icmp .ne 18, 3) := by decide +kernel
theorem dX6_add_29 : decode cX6_add 29 = .ok (.lload_n 3, 1) := by decide +kernel
theorem dX6_add_30 : decode cX6_add 30 = .ok (.lconst 0, 1) := by decide +kernel
theorem dX6_add_31 : decode cX6_add 31 = .ok (.ldc2_w 71, 3) := by decide +kernel
theorem dX6_add_34 : decode cX6_add 34 = .ok (.invokestatic 67, 3) := by decide +kernel
theorem dX6_add_37 : decode cX6_add 37 = .ok (.ifCond .ne 7, 3) := by decide +kernel
theorem dX6_add_40 : decode cX6_add 40 = .ok (.iconst 2, 1) := by decide +kernel
theorem dX6_add_41 : decode cX6_add 41 = .ok (.goto 4, 3) := by decide +kernel
theorem dX6_add_44 : decode cX6_add 44 = .ok (.iconst 0, 1) := by decide +kernel
theorem dX6_add_45 : decode cX6_add 45 = .ok (.putfield 61, 3) := by decide +kernel
theorem dX6_add_48 : decode cX6_add 48 = .ok (.aload_n 0, 1) := by decide +kernel
theorem dX6_add_49 : decode cX6_add 49 = .ok (.getfield 61, 3) := by decide +kernel
theorem dX6_add_52 : decode cX6_add 52 = .ok (.ifCond .le 5, 3) := by decide +kernel
theorem dX6_add_55 : decode cX6_add 55 = .ok (.iconst 0, 1) := by decide +kernel
theorem dX6_add_56 : decode cX6_add 56 = .ok (.ireturn, 1) := by decide +kernel
theorem dX6_add_57 : decode cX6_add 57 = .ok (.aload_n 0, 1) := by decide +kernel
theorem dX6_add_58 : decode cX6_add 58 = .ok (.iload_n 1, 1) := by decide +kernel
theorem dX6_add_59 : decode cX6_add 59 = .ok (.iload_n 2, 1) := by decide +kernel
theorem dX6_add_60 : decode cX6_add 60 = .ok (.invokevirtual 123, 3) := by decide +kernel
theorem dX6_add_63 : decode cX6_add 63 = .ok (.iload_n 1, 1) := by decide +kernel
theorem dX6_add_64 : decode cX6_add 64 = .ok (.iconst 2, 1) := by decide +kernel
theorem dX6_add_65 : decode cX6_add 65 = .ok (.if_icmp .ne 46, 3) := by decide +kernel
theorem dX6_add_68 : decode cX6_add 68 = .ok (.aload_n 0, 1) := by decide +kernel
theorem dX6_add_69 : decode cX6_add 69 = .ok (.getfield 35, 3) := by decide +kernel
theorem dX6_add_72 : decode cX6_add 72 = .ok (.iconst 0, 1) := by decide +kernel
theorem dX6_add_73 : decode cX6_add 73 = .ok (.aload_n 0, 1) := by decide +kernel
theorem dX6_add_74 : decode cX6_add 74 = .ok (.getfield 35, 3) := by decide +kernel
theorem dX6_add_77 : decode cX6_add 77 = .ok (.iconst 0, 1) := by decide +kernel
theorem dX6_add_78 : decode cX6_add 78 = .ok (.laload, 1) := by decide +kernel
theorem dX6_add_79 : decode cX6_add 79 = .ok (.aload_n 0, 1) := by decide +kernel
theorem dX6_add_80 : decode cX6_add 80 = .ok (.getfield 7, 3) := by decide +kernel
theorem dX6_add_83 : decode cX6_add 83 = .ok (.bipush 21, 2) := by decide +kernel
theorem dX6_add_85 : decode cX6_add 85 = .ok (.bipush 64, 2) := by decide +kernel
theorem dX6_add_87 : decode cX6_add 87 = .ok (.lload_n 3, 1) := by decide +kernel
theorem dX6_add_88 : decode cX6_add 88 = .ok (.l2i, 1) := by decide +kernel
theorem dX6_add_89 : decode cX6_add 89 = .ok (.iadd, 1) := by decide +kernel
theorem dX6_add_90 : decode cX6_add 90 = .ok (.imul, 1) := by decide +kernel
theorem dX6_add_91 : decode cX6_add 91 = .ok (.laload, 1) := by decide +kernel
theorem dX6_add_92 : decode cX6_add 92 = .ok (.ladd, 1) := by decide +kernel
theorem dX6_add_93 : decode cX6_add 93 = .ok (.lastore, 1) := by decide +kernel
theorem dX6_add_94 : decode cX6_add 94 = .ok (.aload_n 0, 1) := by decide +kernel
theorem dX6_add_95 : decode cX6_add 95 = .ok (.lload_n 3, 1) := by decide +kernel
theorem dX6_add_96 : decode cX6_add 96 = .ok (.l2i, 1) := by decide +kernel
theorem dX6_add_97 : decode cX6_add 97 = .ok (.iconst 1, 1) := by decide +kernel
theorem dX6_add_98 : decode cX6_add 98 = .ok (.invokevirtual 127, 3) := by decide +kernel
theorem dX6_add_101 : decode cX6_add 101 = .ok (.aload_n 0, 1) := by decide +kernel
theorem dX6_add_102 : decode cX6_add 102 = .ok (.lload_n 3, 1) := by decide +kernel
theorem dX6_add_103 : decode cX6_add 103 = .ok (.l2i, 1) := by decide +kernel
theorem dX6_add_104 : decode cX6_add 104 = .ok (.iconst 3, 1) := by decide +kernel
theorem dX6_add_105 : decode cX6_add 105 = .ok (.invokevirtual 127, 3) := by decide +kernel
theorem dX6_add_108 : decode cX6_add 108 = .ok (.goto 35, 3) := by decide +kernel
theorem dX6_add_111 : decode cX6_add 111 = .ok (.lload_n 3, 1) := by decide +kernel
theorem dX6_add_112 : decode cX6_add 112 = .ok (.ldc2_w 130, 3) := by decide +kernel
theorem dX6_add_115 : decode cX6_add 115 = .ok (.ldc2_w 132, 3) := by decide +kernel
theorem dX6_add_118 : decode cX6_add 118 = .ok (.invokestatic 67, 3) := by decide +kernel
theorem dX6_add_121 : decode cX6_add 121 = .ok (.ifCond .eq 20, 3) := by decide +kernel
theorem dX6_add_124 : decode cX6_add 124 = .ok (.aload_n 0, 1) := by decide +kernel
theorem dX6_add_125 : decode cX6_add 125 = .ok (.getfield 35, 3) := by decide +kernel
theorem dX6_add_128 : decode cX6_add 128 = .ok (.iconst 0, 1) := by decide +kernel
theorem dX6_add_129 : decode cX6_add 129 = .ok (.aload_n 0, 1) := by decide +kernel
theorem dX6_add_130 : decode cX6_add 130 = .ok (.getfield 35, 3) := by decide +kernel
theorem dX6_add_133 : decode cX6_add 133 = .ok (.iconst 0, 1) := by decide +kernel
theorem dX6_add_134 : decode cX6_add 134 = .ok (.laload, 1) := by decide +kernel
theorem dX6_add_135 : decode cX6_add 135 = .ok (.lload_n 3, 1) := by decide +kernel
theorem dX6_add_136 : decode cX6_add 136 = .ok (.ladd, 1) := by decide +kernel
theorem dX6_add_137 : decode cX6_add 137 = .ok (.lastore, 1) := by decide +kernel
theorem dX6_add_138 : decode cX6_add 138 = .ok (.goto 5, 3) := by decide +kernel
theorem dX6_add_141 : decode cX6_add 141 = .ok (.iconst 0, 1) := by decide +kernel
theorem dX6_add_142 : decode cX6_add 142 = .ok (.ireturn, 1) := by decide +kernel
theorem dX6_add_143 : decode cX6_add 143 = .ok (.aload_n 0, 1) := by decide +kernel
theorem dX6_add_144 : decode cX6_add 144 = .ok (.iload_n 1, 1) := by decide +kernel
theorem dX6_add_145 : decode cX6_add 145 = .ok (.iload_n 2, 1) := by decide +kernel
theorem dX6_add_146 : decode cX6_add 146 = .ok (.iload 5, 2) := by decide +kernel
theorem dX6_add_148 : decode cX6_add 148 = .ok (.iconst 3, 1) := by decide +kernel
theorem dX6_add_149 : decode cX6_add 149 = .ok (.invokevirtual 117, 3) := by decide +kernel
theorem dX6_add_152 : decode cX6_add 152 = .ok (.ireturn, 1) := by decide +kernel
theorem dX6_scale_0 : decode cX6_scale 0 = .ok (.iconst 0, 1) := by decide +kernel
theorem dX6_scale_1 : decode cX6_scale 1 = .ok (.istore 5, 2) := by decide +kernel
theorem dX6_scale_3 : decode cX6_scale 3 = .ok (.iload 5, 2) := by decide +kernel
theorem dX6_scale_5 : decode cX6_scale 5 = .ok (.iconst 4, 1) := by decide +kernel
theorem dX6_scale_6 : decode cX6_scale 6 = .ok (.if_icmp .ge 58, 3) := by decide +kernel
theorem dX6_scale_9 : decode cX6_scale 9 = .ok (.iload 5, 2) := by decide +kernel
theorem dX6_scale_11 : decode cX6_scale 11 = .ok (.ifCond .eq 14, 3) := by decide +kernel
theorem dX6_scale_14 : decode cX6_scale 14 = .ok (.iload_n 1, 1) := by decide +kernel
theorem dX6_scale_15 : decode cX6_scale 15 = .ok (.iconst 2, 1) := by decide +kernel
theorem dX6_scale_16 : decode cX6_scale 16 = .ok (.if_icmp .ne 42, 3) := by decide +kernel
theorem dX6_scale_19 : decode cX6_scale 19 = .ok (.iload 5, 2) := by decide +kernel
theorem dX6_scale_21 : decode cX6_scale 21 = .ok (.iconst 2, 1) := by decide +kernel
theorem dX6_scale_22 : decode cX6_scale 22 = .ok (.if_icmp .eq 36, 3) := by decide +kernel
theorem dX6_scale_25 : decode cX6_scale 25 = .ok (.aload_n 0, 1) := by decide +kernel
theorem dX6_scale_26 : decode cX6_scale 26 = .ok (.getfield 35, 3) := by decide +kernel
theorem dX6_scale_29 : decode cX6_scale 29 = .ok (.iload 5, 2) := by decide +kernel
theorem dX6_scale_31 : decode cX6_scale 31 = .ok (.iload 4, 2) := by decide +kernel
theorem dX6_scale_33 : decode cX6_scale 33 = .ok (.ifCond .eq 15, 3) := by decide +kernel
theorem dX6_scale_36 : decode cX6_scale 36 = .ok (.aload_n 0, 1) := by decide +kernel
theorem dX6_scale_37 : decode cX6_scale 37 = .ok (.getfield 35, 3) := by decide +kernel
theorem dX6_scale_40 : decode cX6_scale 40 = .ok (.iload 5, 2) := by decide +kernel
theorem dX6_scale_42 : decode cX6_scale 42 = .ok (.laload, 1) := by decide +kernel
theorem dX6_scale_43 : decode cX6_scale 43 = .ok (.lload_n 2, 1) := by decide +kernel
theorem dX6_scale_44 : decode cX6_scale 44 = .ok (.ldiv, 1) := by decide +kernel
theorem dX6_scale_45 : decode cX6_scale 45 = .ok (.goto 12, 3) := by decide +kernel
theorem dX6_scale_48 : decode cX6_scale 48 = .ok (.aload_n 0, 1) := by decide +kernel
theorem dX6_scale_49 : decode cX6_scale 49 = .ok (.getfield 35, 3) := by decide +kernel
theorem dX6_scale_52 : decode cX6_scale 52 = .ok (.iload 5, 2) := by decide +kernel
theorem dX6_scale_54 : decode cX6_scale 54 = .ok (.laload, 1) := by decide +kernel
theorem dX6_scale_55 : decode cX6_scale 55 = .ok (.lload_n 2, 1) := by decide +kernel
theorem dX6_scale_56 : decode cX6_scale 56 = .ok (.lmul, 1) := by decide +kernel
theorem dX6_scale_57 : decode cX6_scale 57 = .ok (.lastore, 1) := by decide +kernel
theorem dX6_scale_58 : decode cX6_scale 58 = .ok (.iinc 5 1, 3) := by decide +kernel
theorem dX6_scale_61 : decode cX6_scale 61 = .ok (.goto (-58), 3) := by decide +kernel
theorem dX6_scale_64 : decode cX6_scale 64 = .ok (.return_, 1) := by decide +kernel
theorem dX6_multiply_0 : decode cX6_multiply 0 = .ok (.aload_n 0, 1) := by decide +kernel
theorem dX6_multiply_1 : decode cX6_multiply 1 = .ok (.iload_n 1, 1) := by decide +kernel
theorem dX6_multiply_2 : decode cX6_multiply 2 = .ok (.i2l, 1) := by decide +kernel
theorem dX6_multiply_3 : decode cX6_multiply 3 = .ok (.lconst 0, 1) := by decide +kernel
theorem dX6_multiply_4 : decode cX6_multiply 4 = .ok (.ldc2_w 121, 3) := by decide +kernel
theorem dX6_multiply_7 : decode cX6_multiply 7 = .ok (.invokestatic 67, 3) := by decide +kernel
theorem dX6_multiply_10 : decode cX6_multiply 10 = .ok (.ifCond .ne 7, 3) := by decide +kernel
theorem dX6_multiply_13 : decode cX6_multiply 13 = .ok (.iconst 1, 1) := by decide +kernel
theorem dX6_multiply_14 : decode cX6_multiply 14 = .ok (.goto 15, 3) := by decide +kernel
theorem dX6_multiply_17 : decode cX6_multiply 17 = .ok (.iload_n 2, 1) := by decide +kernel
theorem dX6_multiply_18 : decode cX6_multiply 18 = .ok (.invokestatic 114, 3) := by decide +kernel
theorem dX6_multiply_21 : decode cX6_multiply 21 = .ok (.ifCond .ne 7, 3) := by decide +kernel
theorem dX6_multiply_24 : decode cX6_multiply 24 = .ok (.iconst 2, 1) := by decide +kernel
theorem dX6_multiply_25 : decode cX6_multiply 25 = .ok (.goto 4, 3) := by decide +kernel
theorem dX6_multiply_28 : decode cX6_multiply 28 = .ok (.iconst 0, 1) := by decide +kernel
theorem dX6_multiply_29 : decode cX6_multiply 29 = .ok (.putfield 61, 3) := by decide +kernel
theorem dX6_multiply_32 : decode cX6_multiply 32 = .ok (.aload_n 0, 1) := by decide +kernel
theorem dX6_multiply_33 : decode cX6_multiply 33 = .ok (.getfield 61, 3) := by decide +kernel
theorem dX6_multiply_36 : decode cX6_multiply 36 = .ok (.ifCond .gt 16, 3) := by decide +kernel
theorem dX6_multiply_39 : decode cX6_multiply 39 = .ok (.lload_n 3, 1) := by decide +kernel
theorem dX6_multiply_40 : decode cX6_multiply 40 = .ok (.ldc2_w 87, 3) := by decide +kernel
theorem dX6_multiply_43 : decode cX6_multiply 43 = .ok (.ldc2_w 89, 3) := by decide +kernel
theorem dX6_multiply_46 : decode cX6_multiply 46 = .ok (.invokestatic 67, 3) := by decide +kernel
theorem dX6_multiply_49 : decode cX6_multiply 49 = .ok (.ifCond .ne 5, 3) := by decide +kernel
theorem dX6_multiply_52 : decode cX6_multiply 52 = .ok (.iconst 0, 1) := by decide +kernel
theorem dX6_multiply_53 : decode cX6_multiply 53 = .ok (.ireturn, 1) := by decide +kernel
theorem dX6_multiply_54 : decode cX6_multiply 54 = .ok (.aload_n 0, 1) := by decide +kernel
theorem dX6_multiply_55 : decode cX6_multiply 55 = .ok (.iload_n 1, 1) := by decide +kernel
theorem dX6_multiply_56 : decode cX6_multiply 56 = .ok (.iload_n 2, 1) := by decide +kernel
theorem dX6_multiply_57 : decode cX6_multiply 57 = .ok (.invokevirtual 123, 3) := by decide +kernel
theorem dX6_multiply_60 : decode cX6_multiply 60 = .ok (.aload_n 0, 1) := by decide +kernel
theorem dX6_multiply_61 : decode cX6_multiply 61 = .ok (.iload_n 1, 1) := by decide +kernel
theorem dX6_multiply_62 : decode cX6_multiply 62 = .ok (.lload_n 3, 1) := by decide +kernel
theorem dX6_multiply_63 : decode cX6_multiply 63 = .ok (.iconst 0, 1) := by decide +kernel
theorem dX6_multiply_64 : decode cX6_multiply 64 = .ok (.invokevirtual 134, 3) := by decide +kernel
theorem dX6_multiply_67 : decode cX6_multiply 67 = .ok (.aload_n 0, 1) := by decide +kernel
theorem dX6_multiply_68 : decode cX6_multiply 68 = .ok (.iload_n 1, 1) := by decide +kernel
theorem dX6_multiply_69 : decode cX6_multiply 69 = .ok (.iload_n 2, 1) := by decide +kernel
theorem dX6_multiply_70 : decode cX6_multiply 70 = .ok (.iload 5, 2) := by decide +kernel
theorem dX6_multiply_72 : decode cX6_multiply 72 = .ok (.iconst 3, 1) := by decide +kernel
theorem dX6_multiply_73 : decode cX6_multiply 73 = .ok (.invokevirtual 117, 3) := by decide +kernel
theorem dX6_multiply_76 : decode cX6_multiply 76 = .ok (.ireturn, 1) := by decide +kernel
theorem dX6_divide_0 : decode cX6_divide 0 = .ok (.aload_n 0, 1) := by decide +kernel
theorem dX6_divide_1 : decode cX6_divide 1 = .ok (.iload_n 1, 1) := by decide +kernel
theorem dX6_divide_2 : decode cX6_divide 2 = .ok (.i2l, 1) := by decide +kernel
theorem dX6_divide_3 : decode cX6_divide 3 = .ok (.lconst 0, 1) := by decide +kernel
theorem dX6_divide_4 : decode cX6_divide 4 = .ok (.ldc2_w 121, 3) := by decide +kernel
theorem dX6_divide_7 : decode cX6_divide 7 = .ok (.invokestatic 67, 3) := by decide +kernel
theorem dX6_divide_10 : decode cX6_divide 10 = .ok (.ifCond .ne 7, 3) := by decide +kernel
theorem dX6_divide_13 : decode cX6_divide 13 = .ok (.iconst 1, 1) := by decide +kernel
theorem dX6_divide_14 : decode cX6_divide 14 = .ok (.goto 25, 3) := by decide +kernel
theorem dX6_divide_17 : decode cX6_divide 17 = .ok (.iload_n 2, 1) := by decide +kernel
theorem dX6_divide_18 : decode cX6_divide 18 = .ok (.invokestatic 114, 3) := by decide +kernel
theorem dX6_divide_21 : decode cX6_divide 21 = .ok (.ifCond .ne 7, 3) := by decide +kernel
theorem dX6_divide_24 : decode cX6_divide 24 = .ok (.iconst 2, 1) := by decide +kernel
theorem dX6_divide_25 : decode cX6_divide 25 = .ok (.goto 14, 3) := by decide +kernel
theorem dX6_divide_28 : decode cX6_divide 28 = .ok (.lload_n 3, 1) := by decide +kernel
theorem dX6_divide_29 : decode cX6_divide 29 = .ok (.lconst 0, 1) := by decide +kernel
theorem dX6_divide_30 : decode cX6_divide 30 = .ok (.lcmp, 1) := by decide +kernel
theorem dX6_divide_31 : decode cX6_divide 31 = .ok (.ifCond .ne 7, 3) := by decide +kernel
theorem dX6_divide_34 : decode cX6_divide 34 = .ok (.iconst 3, 1) := by decide +kernel
theorem dX6_divide_35 : decode cX6_divide 35 = .ok (.goto 4, 3) := by decide +kernel
theorem dX6_divide_38 : decode cX6_divide 38 = .ok (.iconst 0, 1) := by decide +kernel
theorem dX6_divide_39 : decode cX6_divide 39 = .ok (.putfield 61, 3) := by decide +kernel
theorem dX6_divide_42 : decode cX6_divide 42 = .ok (.aload_n 0, 1) := by decide +kernel
theorem dX6_divide_43 : decode cX6_divide 43 = .ok (.getfield 61, 3) := by decide +kernel
theorem dX6_divide_46 : decode cX6_divide 46 = .ok (.ifCond .le 5, 3) := by decide +kernel
theorem dX6_divide_49 : decode cX6_divide 49 = .ok (.iconst 0, 1) := by decide +kernel
theorem dX6_divide_50 : decode cX6_divide 50 = .ok (.ireturn, 1) := by decide +kernel
theorem dX6_divide_51 : decode cX6_divide 51 = .ok (.aload_n 0, 1) := by decide +kernel
theorem dX6_divide_52 : decode cX6_divide 52 = .ok (.iload_n 1, 1) := by decide +kernel
theorem dX6_divide_53 : decode cX6_divide 53 = .ok (.iload_n 2, 1) := by decide +kernel
theorem dX6_divide_54 : decode cX6_divide 54 = .ok (.invokevirtual 123, 3) := by decide +kernel
theorem dX6_divide_57 : decode cX6_divide 57 = .ok (.aload_n 0, 1) := by decide +kernel
theorem dX6_divide_58 : decode cX6_divide 58 = .ok (.iload_n 1, 1) := by decide +kernel
theorem dX6_divide_59 : decode cX6_divide 59 = .ok (.lload_n 3, 1) := by decide +kernel
theorem dX6_divide_60 : decode cX6_divide 60 = .ok (.iconst 1, 1) := by decide +kernel
theorem dX6_divide_61 : decode cX6_divide 61 = .ok (.invokevirtual 134, 3) := by decide +kernel
theorem dX6_divide_64 : decode cX6_divide 64 = .ok (.aload_n 0, 1) := by decide +kernel
theorem dX6_divide_65 : decode cX6_divide 65 = .ok (.iload_n 1, 1) := by decide +kernel
theorem dX6_divide_66 : decode cX6_divide 66 = .ok (.iload_n 2, 1) := by decide +kernel
theorem dX6_divide_67 : decode cX6_divide 67 = .ok (.iload 5, 2) := by decide +kernel
theorem dX6_divide_69 : decode cX6_divide 69 = .ok (.iconst 4, 1) := by decide +kernel
theorem dX6_divide_70 : decode cX6_divide 70 = .ok (.invokevirtual 117, 3) := by decide +kernel
theorem dX6_divide_73 : decode cX6_divide 73 = .ok (.ireturn, 1) := by decide +kernel
theorem dX6_take_0 : decode cX6_take 0 = .ok (.aload_n 0, 1) := by decide +kernel
theorem dX6_take_1 : decode cX6_take 1 = .ok (.iload_n 1, 1) := by decide +kernel
theorem dX6_take_2 : decode cX6_take 2 = .ok (.invokestatic 114, 3) := by decide +kernel
theorem dX6_take_5 : decode cX6_take 5 = .ok (.ifCond .eq 7, 3) := by decide +kernel
theorem dX6_take_8 : decode cX6_take 8 = .ok (.iconst 0, 1) := by decide +kernel
theorem dX6_take_9 : decode cX6_take 9 = .ok (.goto 4, 3) := by decide +kernel
theorem dX6_take_12 : decode cX6_take 12 = .ok (.iconst 1, 1) := by decide +kernel
theorem dX6_take_13 : decode cX6_take 13 = .ok (.putfield 61, 3) := by decide +kernel
theorem dX6_take_16 : decode cX6_take 16 = .ok (.aload_n 0, 1) := by decide +kernel
theorem dX6_take_17 : decode cX6_take 17 = .ok (.getfield 61, 3) := by decide +kernel
theorem dX6_take_20 : decode cX6_take 20 = .ok (.ifCond .le 5, 3) := by decide +kernel
theorem dX6_take_23 : decode cX6_take 23 = .ok (.iconst 0, 1) := by decide +kernel
theorem dX6_take_24 : decode cX6_take 24 = .ok (.ireturn, 1) := by decide +kernel
theorem dX6_take_25 : decode cX6_take 25 = .ok (.bipush 21, 2) := by decide +kernel
theorem dX6_take_27 : decode cX6_take 27 = .ok (.sipush 128, 3) := by decide +kernel
theorem dX6_take_30 : decode cX6_take 30 = .ok (.iload_n 1, 1) := by decide +kernel
theorem dX6_take_31 : decode cX6_take 31 = .ok (.iadd, 1) := by decide +kernel
theorem dX6_take_32 : decode cX6_take 32 = .ok (.imul, 1) := by decide +kernel
theorem dX6_take_33 : decode cX6_take 33 = .ok (.istore_n 2, 1) := by decide +kernel
theorem dX6_take_34 : decode cX6_take 34 = .ok (.aload_n 0, 1) := by decide +kernel
theorem dX6_take_35 : decode cX6_take 35 = .ok (.getfield 7, 3) := by decide +kernel
theorem dX6_take_38 : decode cX6_take 38 = .ok (.iload_n 2, 1) := by decide +kernel
theorem dX6_take_39 : decode cX6_take 39 = .ok (.laload, 1) := by decide +kernel
theorem dX6_take_40 : decode cX6_take 40 = .ok (.l2i, 1) := by decide +kernel
theorem dX6_take_41 : decode cX6_take 41 = .ok (.istore_n 3, 1) := by decide +kernel
theorem dX6_take_42 : decode cX6_take 42 = .ok (.aload_n 0, 1) := by decide +kernel
theorem dX6_take_43 : decode cX6_take 43 = .ok (.getfield 7, 3) := by decide +kernel
theorem dX6_take_46 : decode cX6_take 46 = .ok (.iload_n 2, 1) := by decide +kernel
theorem dX6_take_47 : decode cX6_take 47 = .ok (.ldc2_w 59, 3) := by decide +kernel
theorem dX6_take_50 : decode cX6_take 50 = .ok (.lastore, 1) := by decide +kernel
theorem dX6_take_51 : decode cX6_take 51 = .ok (.iload_n 3, 1) := by decide +kernel
theorem dX6_take_52 : decode cX6_take 52 = .ok (.ireturn, 1) := by decide +kernel
theorem dX6_group_0 : decode cX6_group 0 = .ok (.aload_n 0, 1) := by decide +kernel
theorem dX6_group_1 : decode cX6_group 1 = .ok (.aload_n 0, 1) := by decide +kernel
theorem dX6_group_2 : decode cX6_group 2 = .ok (.getfield 91, 3) := by decide +kernel
theorem dX6_group_5 : decode cX6_group 5 = .ok (.bipush 20, 2) := by decide +kernel
theorem dX6_group_7 : decode cX6_group 7 = .ok (.if_icmp .ne 7, 3) := by decide +kernel
theorem dX6_group_10 : decode cX6_group 10 = .ok (.iconst 1, 1) := by decide +kernel
theorem dX6_group_11 : decode cX6_group 11 = .ok (.goto 4, 3) := by decide +kernel
theorem dX6_group_14 : decode cX6_group 14 = .ok (.iconst 0, 1) := by decide +kernel
theorem dX6_group_15 : decode cX6_group 15 = .ok (.putfield 61, 3) := by decide +kernel
theorem dX6_group_18 : decode cX6_group 18 = .ok (.aload_n 0, 1) := by decide +kernel
theorem dX6_group_19 : decode cX6_group 19 = .ok (.getfield 61, 3) := by decide +kernel
theorem dX6_group_22 : decode cX6_group 22 = .ok (.ifCond .le 5, 3) := by decide +kernel
theorem dX6_group_25 : decode cX6_group 25 = .ok (.iconst 0, 1) := by decide +kernel
theorem dX6_group_26 : decode cX6_group 26 = .ok (.ireturn, 1) := by decide +kernel
theorem dX6_group_27 : decode cX6_group 27 = .ok (.aload_n 0, 1) := by decide +kernel
theorem dX6_group_28 : decode cX6_group 28 = .ok (.dup, 1) := by decide +kernel
theorem dX6_group_29 : decode cX6_group 29 = .ok (.getfield 91, 3) := by decide +kernel
theorem dX6_group_32 : decode cX6_group 32 = .ok (.iconst 1, 1) := by decide +kernel
theorem dX6_group_33 : decode cX6_group 33 = .ok (.iadd, 1) := by decide +kernel
theorem dX6_group_34 : decode cX6_group 34 = .ok (.putfield 91, 3) := by decide +kernel
theorem dX6_group_37 : decode cX6_group 37 = .ok (.aload_n 0, 1) := by decide +kernel
theorem dX6_group_38 : decode cX6_group 38 = .ok (.getfield 91, 3) := by decide +kernel
theorem dX6_group_41 : decode cX6_group 41 = .ok (.ireturn, 1) := by decide +kernel
theorem dX6_after_0 : decode cX6_after 0 = .ok (.aload_n 0, 1) := by decide +kernel
theorem dX6_after_1 : decode cX6_after 1 = .ok (.iload_n 1, 1) := by decide +kernel
theorem dX6_after_2 : decode cX6_after 2 = .ok (.i2l, 1) := by decide +kernel
theorem dX6_after_3 : decode cX6_after 3 = .ok (.lconst 0, 1) := by decide +kernel
theorem dX6_after_4 : decode cX6_after 4 = .ok (.ldc2_w 77, 3) := by decide +kernel
theorem dX6_after_7 : decode cX6_after 7 = .ok (.invokestatic 67, 3) := by decide +kernel
theorem dX6_after_10 : decode cX6_after 10 = .ok (.ifCond .ne 7, 3) := by decide +kernel
theorem dX6_after_13 : decode cX6_after 13 = .ok (.iconst 1, 1) := by decide +kernel
theorem dX6_after_14 : decode cX6_after 14 = .ok (.goto 28, 3) := by decide +kernel
theorem dX6_after_17 : decode cX6_after 17 = .ok (.aload_n 0, 1) := by decide +kernel
theorem dX6_after_18 : decode cX6_after 18 = .ok (.getfield 91, 3) := by decide +kernel
theorem dX6_after_21 : decode cX6_after 21 = .ok (.ifCond .ne 7, 3) := by decide +kernel
theorem dX6_after_24 : decode cX6_after 24 = .ok (.iconst 2, 1) := by decide +kernel
theorem dX6_after_25 : decode cX6_after 25 = .ok (.goto 17, 3) := by decide +kernel
theorem dX6_after_28 : decode cX6_after 28 = .ok (.aload_n 0, 1) := by decide +kernel
theorem dX6_after_29 : decode cX6_after 29 = .ok (.getfield 138, 3) := by decide +kernel
theorem dX6_after_32 : decode cX6_after 32 = .ok (.bipush 60, 2) := by decide +kernel
theorem dX6_after_34 : decode cX6_after 34 = .ok (.if_icmp .ne 7, 3) := by decide +kernel
theorem dX6_after_37 : decode cX6_after 37 = .ok (.iconst 3, 1) := by decide +kernel
theorem dX6_after_38 : decode cX6_after 38 = .ok (.goto 4, 3) := by decide +kernel
theorem dX6_after_41 : decode cX6_after 41 = .ok (.iconst 0, 1) := by decide +kernel
theorem dX6_after_42 : decode cX6_after 42 = .ok (.putfield 61, 3) := by decide +kernel
theorem dX6_after_45 : decode cX6_after 45 = .ok (.aload_n 0, 1) := by decide +kernel
theorem dX6_after_46 : decode cX6_after 46 = .ok (.getfield 61, 3) := by decide +kernel
theorem dX6_after_49 : decode cX6_after 49 = .ok (.ifCond .le 5, 3) := by decide +kernel
theorem dX6_after_52 : decode cX6_after 52 = .ok (.iconst 0, 1) := by decide +kernel
theorem dX6_after_53 : decode cX6_after 53 = .ok (.ireturn, 1) := by decide +kernel
theorem dX6_after_54 : decode cX6_after 54 = .ok (.aload_n 0, 1) := by decide +kernel
theorem dX6_after_55 : decode cX6_after 55 = .ok (.getfield 38, 3) := by decide +kernel
theorem dX6_after_58 : decode cX6_after 58 = .ok (.aload_n 0, 1) := by decide +kernel
theorem dX6_after_59 : decode cX6_after 59 = .ok (.getfield 138, 3) := by decide +kernel
theorem dX6_after_62 : decode cX6_after 62 = .ok (.iload_n 1, 1) := by decide +kernel
theorem dX6_after_63 : decode cX6_after 63 = .ok (.iastore, 1) := by decide +kernel
theorem dX6_after_64 : decode cX6_after 64 = .ok (.aload_n 0, 1) := by decide +kernel
theorem dX6_after_65 : decode cX6_after 65 = .ok (.getfield 41, 3) := by decide +kernel
theorem dX6_after_68 : decode cX6_after 68 = .ok (.aload_n 0, 1) := by decide +kernel
theorem dX6_after_69 : decode cX6_after 69 = .ok (.getfield 138, 3) := by decide +kernel
theorem dX6_after_72 : decode cX6_after 72 = .ok (.aload_n 0, 1) := by decide +kernel
theorem dX6_after_73 : decode cX6_after 73 = .ok (.getfield 91, 3) := by decide +kernel
theorem dX6_after_76 : decode cX6_after 76 = .ok (.iastore, 1) := by decide +kernel
theorem dX6_after_77 : decode cX6_after 77 = .ok (.aload_n 0, 1) := by decide +kernel
theorem dX6_after_78 : decode cX6_after 78 = .ok (.dup, 1) := by decide +kernel
theorem dX6_after_79 : decode cX6_after 79 = .ok (.getfield 138, 3) := by decide +kernel
theorem dX6_after_82 : decode cX6_after 82 = .ok (.iconst 1, 1) := by decide +kernel
theorem dX6_after_83 : decode cX6_after 83 = .ok (.iadd, 1) := by decide +kernel
theorem dX6_after_84 : decode cX6_after 84 = .ok (.putfield 138, 3) := by decide +kernel
theorem dX6_after_87 : decode cX6_after 87 = .ok (.iconst 0, 1) := by decide +kernel
theorem dX6_after_88 : decode cX6_after 88 = .ok (.istore_n 2, 1) := by decide +kernel
theorem dX6_after_89 : decode cX6_after 89 = .ok (.iconst 0, 1) := by decide +kernel
theorem dX6_after_90 : decode cX6_after 90 = .ok (.istore_n 3, 1) := by decide +kernel
theorem dX6_after_91 : decode cX6_after 91 = .ok (.iload_n 3, 1) := by decide +kernel
theorem dX6_after_92 : decode cX6_after 92 = .ok (.aload_n 0, 1) := by decide +kernel
theorem dX6_after_93 : decode cX6_after 93 = .ok (.getfield 138, 3) := by decide +kernel
theorem dX6_after_96 : decode cX6_after 96 = .ok (.if_icmp .ge 30, 3) := by decide +kernel
theorem dX6_after_99 : decode cX6_after 99 = .ok (.aload_n 0, 1) := by decide +kernel
theorem dX6_after_100 : decode cX6_after 100 = .ok (.getfield 41, 3) := by decide +kernel
theorem dX6_after_103 : decode cX6_after 103 = .ok (.iload_n 3, 1) := by decide +kernel
theorem dX6_after_104 : decode cX6_after 104 = .ok (.iaload, 1) := by decide +kernel
theorem dX6_after_105 : decode cX6_after 105 = .ok (.aload_n 0, 1) := by decide +kernel
theorem dX6_after_106 : decode cX6_after 106 = .ok (.getfield 91, 3) := by decide +kernel
theorem dX6_after_109 : decode cX6_after 109 = .ok (.if_icmp .ne 9, 3) := by decide +kernel
theorem dX6_after_112 : decode cX6_after 112 = .ok (.iload_n 2, 1) := by decide +kernel
theorem dX6_after_113 : decode cX6_after 113 = .ok (.iconst 1, 1) := by decide +kernel
theorem dX6_after_114 : decode cX6_after 114 = .ok (.iadd, 1) := by decide +kernel
theorem dX6_after_115 : decode cX6_after 115 = .ok (.goto 4, 3) := by decide +kernel
theorem dX6_after_118 : decode cX6_after 118 = .ok (.iload_n 2, 1) := by decide +kernel
theorem dX6_after_119 : decode cX6_after 119 = .ok (.istore_n 2, 1) := by decide +kernel
theorem dX6_after_120 : decode cX6_after 120 = .ok (.iinc 3 1, 3) := by decide +kernel
theorem dX6_after_123 : decode cX6_after 123 = .ok (.goto (-32), 3) := by decide +kernel
theorem dX6_after_126 : decode cX6_after 126 = .ok (.iload_n 2, 1) := by decide +kernel
theorem dX6_after_127 : decode cX6_after 127 = .ok (.ireturn, 1) := by decide +kernel
theorem dX6_end_0 : decode cX6_end 0 = .ok (.aload_n 0, 1) := by decide +kernel
theorem dX6_end_1 : decode cX6_end 1 = .ok (.aload_n 0, 1) := by decide +kernel
theorem dX6_end_2 : decode cX6_end 2 = .ok (.getfield 91, 3) := by decide +kernel
theorem dX6_end_5 : decode cX6_end 5 = .ok (.ifCond .ne 7, 3) := by decide +kernel
theorem dX6_end_8 : decode cX6_end 8 = .ok (.iconst 1, 1) := by decide +kernel
theorem dX6_end_9 : decode cX6_end 9 = .ok (.goto 4, 3) := by decide +kernel
theorem dX6_end_12 : decode cX6_end 12 = .ok (.iconst 0, 1) := by decide +kernel
theorem dX6_end_13 : decode cX6_end 13 = .ok (.putfield 61, 3) := by decide +kernel
theorem dX6_end_16 : decode cX6_end 16 = .ok (.aload_n 0, 1) := by decide +kernel
theorem dX6_end_17 : decode cX6_end 17 = .ok (.getfield 61, 3) := by decide +kernel
theorem dX6_end_20 : decode cX6_end 20 = .ok (.ifCond .le 5, 3) := by decide +kernel
theorem dX6_end_23 : decode cX6_end 23 = .ok (.iconst 0, 1) := by decide +kernel
theorem dX6_end_24 : decode cX6_end 24 = .ok (.ireturn, 1) := by decide +kernel
theorem dX6_end_25 : decode cX6_end 25 = .ok (.aload_n 0, 1) := by decide +kernel
theorem dX6_end_26 : decode cX6_end 26 = .ok (.iconst 0, 1) := by decide +kernel
theorem dX6_end_27 : decode cX6_end 27 = .ok (.putfield 141, 3) := by decide +kernel
theorem dX6_end_30 : decode cX6_end 30 = .ok (.iconst 0, 1) := by decide +kernel
theorem dX6_end_31 : decode cX6_end 31 = .ok (.istore_n 1, 1) := by decide +kernel
theorem dX6_end_32 : decode cX6_end 32 = .ok (.aload_n 0, 1) := by decide +kernel
theorem dX6_end_33 : decode cX6_end 33 = .ok (.getfield 94, 3) := by decide +kernel
theorem dX6_end_36 : decode cX6_end 36 = .ok (.ifCond .le 175, 3) := by decide +kernel
theorem dX6_end_39 : decode cX6_end 39 = .ok (.aload_n 0, 1) := by decide +kernel
theorem dX6_end_40 : decode cX6_end 40 = .ok (.getfield 26, 3) := by decide +kernel
theorem dX6_end_43 : decode cX6_end 43 = .ok (.aload_n 0, 1) := by decide +kernel
theorem dX6_end_44 : decode cX6_end 44 = .ok (.getfield 94, 3) := by decide +kernel
theorem dX6_end_47 : decode cX6_end 47 = .ok (.iconst 1, 1) := by decide +kernel
theorem dX6_end_48 : decode cX6_end 48 = .ok (.isub, 1) := by decide +kernel
theorem dX6_end_49 : decode cX6_end 49 = .ok (.iaload, 1) := by decide +kernel
theorem dX6_end_50 : decode cX6_end 50 = .ok (.aload_n 0, 1) := by decide +kernel
theorem dX6_end_51 : decode cX6_end 51 = .ok (.getfield 91, 3) := by decide +kernel
theorem dX6_end_54 : decode cX6_end 54 = .ok (.if_icmp .ne 157, 3) := by decide +kernel
theorem dX6_end_57 : decode cX6_end 57 = .ok (.aload_n 0, 1) := by decide +kernel
theorem dX6_end_58 : decode cX6_end 58 = .ok (.dup, 1) := by decide +kernel
theorem dX6_end_59 : decode cX6_end 59 = .ok (.getfield 94, 3) := by decide +kernel
theorem dX6_end_62 : decode cX6_end 62 = .ok (.iconst 1, 1) := by decide +kernel
theorem dX6_end_63 : decode cX6_end 63 = .ok (.isub, 1) := by decide +kernel
theorem dX6_end_64 : decode cX6_end 64 = .ok (.putfield 94, 3) := by decide +kernel
theorem dX6_end_67 : decode cX6_end 67 = .ok (.aload_n 0, 1) := by decide +kernel
theorem dX6_end_68 : decode cX6_end 68 = .ok (.getfield 20, 3) := by decide +kernel
theorem dX6_end_71 : decode cX6_end 71 = .ok (.aload_n 0, 1) := by decide +kernel
theorem dX6_end_72 : decode cX6_end 72 = .ok (.getfield 94, 3) := by decide +kernel
theorem dX6_end_75 : decode cX6_end 75 = .ok (.iaload, 1) := by decide +kernel
theorem dX6_end_76 : decode cX6_end 76 = .ok (.istore_n 2, 1) := by decide +kernel
theorem dX6_end_77 : decode cX6_end 77 = .ok (.aload_n 0, 1) := by decide +kernel
theorem dX6_end_78 : decode cX6_end 78 = .ok (.getfield 44, 3) := by decide +kernel
theorem dX6_end_81 : decode cX6_end 81 = .ok (.aload_n 0, 1) := by decide +kernel
theorem dX6_end_82 : decode cX6_end 82 = .ok (.getfield 141, 3) := by decide +kernel
theorem dX6_end_85 : decode cX6_end 85 = .ok (.iload_n 2, 1) := by decide +kernel
theorem dX6_end_86 : decode cX6_end 86 = .ok (.iastore, 1) := by decide +kernel
theorem dX6_end_87 : decode cX6_end 87 = .ok (.aload_n 0, 1) := by decide +kernel
theorem dX6_end_88 : decode cX6_end 88 = .ok (.getfield 47, 3) := by decide +kernel
theorem dX6_end_91 : decode cX6_end 91 = .ok (.aload_n 0, 1) := by decide +kernel
theorem dX6_end_92 : decode cX6_end 92 = .ok (.getfield 141, 3) := by decide +kernel
theorem dX6_end_95 : decode cX6_end 95 = .ok (.aload_n 0, 1) := by decide +kernel
theorem dX6_end_96 : decode cX6_end 96 = .ok (.getfield 13, 3) := by decide +kernel
theorem dX6_end_99 : decode cX6_end 99 = .ok (.iload_n 2, 1) := by decide +kernel
theorem dX6_end_100 : decode cX6_end 100 = .ok (.iaload, 1) := by decide +kernel
theorem dX6_end_101 : decode cX6_end 101 = .ok (.ifCond .ne 7, 3) := by decide +kernel
theorem dX6_end_104 : decode cX6_end 104 = .ok (.iconst 0, 1) := by decide +kernel
theorem dX6_end_105 : decode cX6_end 105 = .ok (.goto 4, 3) := by decide +kernel
theorem dX6_end_108 : decode cX6_end 108 = .ok (.iconst 1, 1) := by decide +kernel
theorem dX6_end_109 : decode cX6_end 109 = .ok (.iastore, 1) := by decide +kernel
theorem dX6_end_110 : decode cX6_end 110 = .ok (.iload_n 1, 1) := by decide +kernel
theorem dX6_end_111 : decode cX6_end 111 = .ok (.aload_n 0, 1) := by decide +kernel
theorem dX6_end_112 : decode cX6_end 112 = .ok (.getfield 47, 3) := by decide +kernel
theorem dX6_end_115 : decode cX6_end 115 = .ok (.aload_n 0, 1) := by decide +kernel
theorem dX6_end_116 : decode cX6_end 116 = .ok (.getfield 141, 3) := by decide +kernel
theorem dX6_end_119 : decode cX6_end 119 = .ok (.iaload, 1) := by decide +kernel
theorem dX6_end_120 : decode cX6_end 120 = .ok (.iadd, 1) := by decide +kernel
theorem dX6_end_121 : decode cX6_end 121 = .ok (.istore_n 1, 1) := by decide +kernel
theorem dX6_end_122 : decode cX6_end 122 = .ok (.iconst 0, 1) := by decide +kernel
theorem dX6_end_123 : decode cX6_end 123 = .ok (.istore_n 3, 1) := by decide +kernel
theorem dX6_end_124 : decode cX6_end 124 = .ok (.iload_n 3, 1) := by decide +kernel
theorem dX6_end_125 : decode cX6_end 125 = .ok (.bipush 21, 2) := by decide +kernel
theorem dX6_end_127 : decode cX6_end 127 = .ok (.if_icmp .ge 43, 3) := by decide +kernel
theorem dX6_end_130 : decode cX6_end 130 = .ok (.aload_n 0, 1) := by decide +kernel
theorem dX6_end_131 : decode cX6_end 131 = .ok (.getfield 13, 3) := by decide +kernel
theorem dX6_end_134 : decode cX6_end 134 = .ok (.iload_n 2, 1) := by decide +kernel
theorem dX6_end_135 : decode cX6_end 135 = .ok (.iaload, 1) := by decide +kernel
theorem dX6_end_136 : decode cX6_end 136 = .ok (.ifCond .eq 34, 3) := by decide +kernel
theorem dX6_end_139 : decode cX6_end 139 = .ok (.aload_n 0, 1) := by decide +kernel
theorem dX6_end_140 : decode cX6_end 140 = .ok (.getfield 7, 3) := by decide +kernel
theorem dX6_end_143 : decode cX6_end 143 = .ok (.bipush 21, 2) := by decide +kernel
theorem dX6_end_145 : decode cX6_end 145 = .ok (.iload_n 2, 1) := by decide +kernel
theorem dX6_end_146 : decode cX6_end 146 = .ok (.imul, 1) := by decide +kernel
theorem dX6_end_147 : decode cX6_end 147 = .ok (.iload_n 3, 1) := by decide +kernel
theorem dX6_end_148 : decode cX6_end 148 = .ok (.iadd, 1) := by decide +kernel
theorem dX6_end_149 : decode cX6_end 149 = .ok (.aload_n 0, 1) := by decide +kernel
theorem dX6_end_150 : decode cX6_end 150 = .ok (.getfield 17, 3) := by decide +kernel
theorem dX6_end_153 : decode cX6_end 153 = .ok (.bipush 21, 2) := by decide +kernel
theorem dX6_end_155 : decode cX6_end 155 = .ok (.aload_n 0, 1) := by decide +kernel
theorem dX6_end_156 : decode cX6_end 156 = .ok (.getfield 94, 3) := by decide +kernel
theorem dX6_end_159 : decode cX6_end 159 = .ok (.imul, 1) := by decide +kernel
theorem dX6_end_160 : decode cX6_end 160 = .ok (.iload_n 3, 1) := by decide +kernel
theorem dX6_end_161 : decode cX6_end 161 = .ok (.iadd, 1) := by decide +kernel
theorem dX6_end_162 : decode cX6_end 162 = .ok (.laload, 1) := by decide +kernel
theorem dX6_end_163 : decode cX6_end 163 = .ok (.lastore, 1) := by decide +kernel
theorem dX6_end_164 : decode cX6_end 164 = .ok (.iinc 3 1, 3) := by decide +kernel
theorem dX6_end_167 : decode cX6_end 167 = .ok (.goto (-43), 3) := by decide +kernel
theorem dX6_end_170 : decode cX6_end 170 = .ok (.aload_n 0, 1) := by decide +kernel
theorem dX6_end_171 : decode cX6_end 171 = .ok (.getfield 13, 3) := by decide +kernel
theorem dX6_end_174 : decode cX6_end 174 = .ok (.iload_n 2, 1) := by decide +kernel
theorem dX6_end_175 : decode cX6_end 175 = .ok (.aload_n 0, 1) := by decide +kernel
theorem dX6_end_176 : decode cX6_end 176 = .ok (.getfield 13, 3) := by decide +kernel
theorem dX6_end_179 : decode cX6_end 179 = .ok (.iload_n 2, 1) := by decide +kernel
theorem dX6_end_180 : decode cX6_end 180 = .ok (.iaload, 1) := by decide +kernel
theorem dX6_end_181 : decode cX6_end 181 = .ok (.ifCond .ne 7, 3) := by decide +kernel
theorem dX6_end_184 : decode cX6_end 184 = .ok (.iconst 0, 1) := by decide +kernel
theorem dX6_end_185 : decode cX6_end 185 = .ok (.goto 12, 3) := by decide +kernel
theorem dX6_end_188 : decode cX6_end 188 = .ok (.aload_n 0, 1) := by decide +kernel
theorem dX6_end_189 : decode cX6_end 189 = .ok (.getfield 23, 3) := by decide +kernel
theorem dX6_end_192 : decode cX6_end 192 = .ok (.aload_n 0, 1) := by decide +kernel
theorem dX6_end_193 : decode cX6_end 193 = .ok (.getfield 94, 3) := by decide +kernel
theorem dX6_end_196 : decode cX6_end 196 = .ok (.iaload, 1) := by decide +kernel
theorem dX6_end_197 : decode cX6_end 197 = .ok (.iastore, 1) := by decide +kernel
theorem dX6_end_198 : decode cX6_end 198 = .ok (.aload_n 0, 1) := by decide +kernel
theorem dX6_end_199 : decode cX6_end 199 = .ok (.dup, 1) := by decide +kernel
theorem dX6_end_200 : decode cX6_end 200 = .ok (.getfield 141, 3) := by decide +kernel
theorem dX6_end_203 : decode cX6_end 203 = .ok (.iconst 1, 1) := by decide +kernel
theorem dX6_end_204 : decode cX6_end 204 = .ok (.iadd, 1) := by decide +kernel
theorem dX6_end_205 : decode cX6_end 205 = .ok (.putfield 141, 3) := by decide +kernel
theorem dX6_end_208 : decode cX6_end 208 = .ok (.goto (-176), 3) := by decide +kernel
theorem dX6_end_211 : decode cX6_end 211 = .ok (.aload_n 0, 1) := by decide +kernel
theorem dX6_end_212 : decode cX6_end 212 = .ok (.iconst 0, 1) := by decide +kernel
theorem dX6_end_213 : decode cX6_end 213 = .ok (.putfield 144, 3) := by decide +kernel
theorem dX6_end_216 : decode cX6_end 216 = .ok (.iconst 0, 1) := by decide +kernel
theorem dX6_end_217 : decode cX6_end 217 = .ok (.istore_n 2, 1) := by decide +kernel
theorem dX6_end_218 : decode cX6_end 218 = .ok (.iconst 0, 1) := by decide +kernel
theorem dX6_end_219 : decode cX6_end 219 = .ok (.istore_n 3, 1) := by decide +kernel
theorem dX6_end_220 : decode cX6_end 220 = .ok (.iload_n 3, 1) := by decide +kernel
theorem dX6_end_221 : decode cX6_end 221 = .ok (.aload_n 0, 1) := by decide +kernel
theorem dX6_end_222 : decode cX6_end 222 = .ok (.getfield 138, 3) := by decide +kernel
theorem dX6_end_225 : decode cX6_end 225 = .ok (.if_icmp .ge 53, 3) := by decide +kernel
theorem dX6_end_228 : decode cX6_end 228 = .ok (.aload_n 0, 1) := by decide +kernel
theorem dX6_end_229 : decode cX6_end 229 = .ok (.getfield 41, 3) := by decide +kernel
theorem dX6_end_232 : decode cX6_end 232 = .ok (.iload_n 3, 1) := by decide +kernel
theorem dX6_end_233 : decode cX6_end 233 = .ok (.iaload, 1) := by decide +kernel
theorem dX6_end_234 : decode cX6_end 234 = .ok (.aload_n 0, 1) := by decide +kernel
theorem dX6_end_235 : decode cX6_end 235 = .ok (.getfield 91, 3) := by decide +kernel
theorem dX6_end_238 : decode cX6_end 238 = .ok (.if_icmp .ne 31, 3) := by decide +kernel
theorem dX6_end_241 : decode cX6_end 241 = .ok (.aload_n 0, 1) := by decide +kernel
theorem dX6_end_242 : decode cX6_end 242 = .ok (.getfield 50, 3) := by decide +kernel
theorem dX6_end_245 : decode cX6_end 245 = .ok (.aload_n 0, 1) := by decide +kernel
theorem dX6_end_246 : decode cX6_end 246 = .ok (.getfield 144, 3) := by decide +kernel
theorem dX6_end_249 : decode cX6_end 249 = .ok (.aload_n 0, 1) := by decide +kernel
theorem dX6_end_250 : decode cX6_end 250 = .ok (.getfield 38, 3) := by decide +kernel
theorem dX6_end_253 : decode cX6_end 253 = .ok (.iload_n 3, 1) := by decide +kernel
theorem dX6_end_254 : decode cX6_end 254 = .ok (.iaload, 1) := by decide +kernel
theorem dX6_end_255 : decode cX6_end 255 = .ok (.iastore, 1) := by decide +kernel
theorem dX6_end_256 : decode cX6_end 256 = .ok (.aload_n 0, 1) := by decide +kernel
theorem dX6_end_257 : decode cX6_end 257 = .ok (.dup, 1) := by decide +kernel
theorem dX6_end_258 : decode cX6_end 258 = .ok (.getfield 144, 3) := by decide +kernel
theorem dX6_end_261 : decode cX6_end 261 = .ok (.iconst 1, 1) := by decide +kernel
theorem dX6_end_262 : decode cX6_end 262 = .ok (.iadd, 1) := by decide +kernel
theorem dX6_end_263 : decode cX6_end 263 = .ok (.putfield 144, 3) := by decide +kernel
theorem dX6_end_266 : decode cX6_end 266 = .ok (.goto 6, 3) := by decide +kernel
theorem dX6_end_269 : decode cX6_end 269 = .ok (.iinc 2 1, 3) := by decide +kernel
theorem dX6_end_272 : decode cX6_end 272 = .ok (.iinc 3 1, 3) := by decide +kernel
theorem dX6_end_275 : decode cX6_end 275 = .ok (.goto (-55), 3) := by decide +kernel
theorem dX6_end_278 : decode cX6_end 278 = .ok (.aload_n 0, 1) := by decide +kernel
theorem dX6_end_279 : decode cX6_end 279 = .ok (.iload_n 2, 1) := by decide +kernel
theorem dX6_end_280 : decode cX6_end 280 = .ok (.putfield 138, 3) := by decide +kernel
theorem dX6_end_283 : decode cX6_end 283 = .ok (.aload_n 0, 1) := by decide +kernel
theorem dX6_end_284 : decode cX6_end 284 = .ok (.dup, 1) := by decide +kernel
theorem dX6_end_285 : decode cX6_end 285 = .ok (.getfield 91, 3) := by decide +kernel
theorem dX6_end_288 : decode cX6_end 288 = .ok (.iconst 1, 1) := by decide +kernel
theorem dX6_end_289 : decode cX6_end 289 = .ok (.isub, 1) := by decide +kernel
theorem dX6_end_290 : decode cX6_end 290 = .ok (.putfield 91, 3) := by decide +kernel
theorem dX6_end_293 : decode cX6_end 293 = .ok (.iload_n 1, 1) := by decide +kernel
theorem dX6_end_294 : decode cX6_end 294 = .ok (.ireturn, 1) := by decide +kernel
theorem dX6_restored_0 : decode cX6_restored 0 = .ok (.aload_n 0, 1) := by decide +kernel
theorem dX6_restored_1 : decode cX6_restored 1 = .ok (.iload_n 1, 1) := by decide +kernel
theorem dX6_restored_2 : decode cX6_restored 2 = .ok (.i2l, 1) := by decide +kernel
theorem dX6_restored_3 : decode cX6_restored 3 = .ok (.lconst 0, 1) := by decide +kernel
theorem dX6_restored_4 : decode cX6_restored 4 = .ok (.aload_n 0, 1) := by decide +kernel
theorem dX6_restored_5 : decode cX6_restored 5 = .ok (.getfield 141, 3) := by decide +kernel
theorem dX6_restored_8 : decode cX6_restored 8 = .ok (.i2l, 1) := by decide +kernel
theorem dX6_restored_9 : decode cX6_restored 9 = .ok (.lconst 1, 1) := by decide +kernel
theorem dX6_restored_10 : decode cX6_restored 10 = .ok (.lsub, 1) := by decide +kernel
theorem dX6_restored_11 : decode cX6_restored 11 = .ok (.invokestatic 67, 3) := by decide +kernel
theorem dX6_restored_14 : decode cX6_restored 14 = .ok (.ifCond .eq 19, 3) := by decide +kernel
theorem dX6_restored_17 : decode cX6_restored 17 = .ok (.iload_n 2, 1) := by decide +kernel
theorem dX6_restored_18 : decode cX6_restored 18 = .ok (.i2l, 1) := by decide +kernel
theorem dX6_restored_19 : decode cX6_restored 19 = .ok (.lconst 0, 1) := by decide +kernel
theorem dX6_restored_20 : decode cX6_restored 20 = .ok (.ldc2_w 121, 3) := by decide +kernel
theorem dX6_restored_23 : decode cX6_restored 23 = .ok (.invokestatic 67, 3) := by decide +kernel
theorem dX6_restored_26 : decode cX6_restored 26 = .ok (.ifCond .eq 7, 3) := by decide +kernel
theorem dX6_restored_29 : decode cX6_restored 29 = .ok (.iconst 0, 1) := by decide +kernel
theorem dX6_restored_30 : decode cX6_restored 30 = .ok (.goto 4, 3) := by decide +kernel
theorem dX6_restored_33 : decode cX6_restored 33 = .ok (.iconst 1, 1) := by decide +kernel
theorem dX6_restored_34 : decode cX6_restored 34 = .ok (.putfield 61, 3) := by decide +kernel
theorem dX6_restored_37 : decode cX6_restored 37 = .ok (.aload_n 0, 1) := by decide +kernel
theorem dX6_restored_38 : decode cX6_restored 38 = .ok (.getfield 61, 3) := by decide +kernel
theorem dX6_restored_41 : decode cX6_restored 41 = .ok (.ifCond .le 5, 3) := by decide +kernel
theorem dX6_restored_44 : decode cX6_restored 44 = .ok (.iconst 0, 1) := by decide +kernel
theorem dX6_restored_45 : decode cX6_restored 45 = .ok (.ireturn, 1) := by decide +kernel
theorem dX6_restored_46 : decode cX6_restored 46 = .ok (.iload_n 2, 1) := by decide +kernel
theorem dX6_restored_47 : decode cX6_restored 47 = .ok (.ifCond .ne 15, 3) := by decide +kernel
theorem dX6_restored_50 : decode cX6_restored 50 = .ok (.aload_n 0, 1) := by decide +kernel
theorem dX6_restored_51 : decode cX6_restored 51 = .ok (.getfield 44, 3) := by decide +kernel
theorem dX6_restored_54 : decode cX6_restored 54 = .ok (.iload_n 1, 1) := by decide +kernel
theorem dX6_restored_55 : decode cX6_restored 55 = .ok (.iaload, 1) := by decide +kernel
theorem dX6_restored_56 : decode cX6_restored 56 = .ok (.bipush 32, 2) := by decide +kernel
theorem dX6_restored_58 : decode cX6_restored 58 = .ok (.idiv, 1) := by decide +kernel
theorem dX6_restored_59 : decode cX6_restored 59 = .ok (.goto 26, 3) := by decide +kernel
theorem dX6_restored_62 : decode cX6_restored 62 = .ok (.iload_n 2, 1) := by decide +kernel
theorem dX6_restored_63 : decode cX6_restored 63 = .ok (.iconst 1, 1) := by decide +kernel
theorem dX6_restored_64 : decode cX6_restored 64 = .ok (.if_icmp .ne 15, 3) := by decide +kernel
theorem dX6_restored_67 : decode cX6_restored 67 = .ok (.aload_n 0, 1) := by decide +kernel
theorem dX6_restored_68 : decode cX6_restored 68 = .ok (.getfield 44, 3) := by decide +kernel
theorem dX6_restored_71 : decode cX6_restored 71 = .ok (.iload_n 1, 1) := by decide +kernel
theorem dX6_restored_72 : decode cX6_restored 72 = .ok (.iaload, 1) := by decide +kernel
theorem dX6_restored_73 : decode cX6_restored 73 = .ok (.bipush 32, 2) := by decide +kernel
theorem dX6_restored_75 : decode cX6_restored 75 = .ok (.irem, 1) := by decide +kernel
theorem dX6_restored_76 : decode cX6_restored 76 = .ok (.goto 9, 3) := by decide +kernel
theorem dX6_restored_79 : decode cX6_restored 79 = .ok (.aload_n 0, 1) := by decide +kernel
theorem dX6_restored_80 : decode cX6_restored 80 = .ok (.getfield 47, 3) := by decide +kernel
theorem dX6_restored_83 : decode cX6_restored 83 = .ok (.iload_n 1, 1) := by decide +kernel
theorem dX6_restored_84 : decode cX6_restored 84 = .ok (.iaload, 1) := by decide +kernel
theorem dX6_restored_85 : decode cX6_restored 85 = .ok (.ireturn, 1) := by decide +kernel
theorem dX6_behind_0 : decode cX6_behind 0 = .ok (.aload_n 0, 1) := by decide +kernel
theorem dX6_behind_1 : decode cX6_behind 1 = .ok (.iconst 0, 1) := by decide +kernel
theorem dX6_behind_2 : decode cX6_behind 2 = .ok (.putfield 61, 3) := by decide +kernel
theorem dX6_behind_5 : decode cX6_behind 5 = .ok (.iload_n 1, 1) := by decide +kernel
theorem dX6_behind_6 : decode cX6_behind 6 = .ok (.ifCond .lt 20, 3) := by decide +kernel
theorem dX6_behind_9 : decode cX6_behind 9 = .ok (.iload_n 1, 1) := by decide +kernel
theorem dX6_behind_10 : decode cX6_behind 10 = .ok (.aload_n 0, 1) := by decide +kernel
theorem dX6_behind_11 : decode cX6_behind 11 = .ok (.getfield 144, 3) := by decide +kernel
theorem dX6_behind_14 : decode cX6_behind 14 = .ok (.if_icmp .ge 12, 3) := by decide +kernel
theorem dX6_behind_17 : decode cX6_behind 17 = .ok (.aload_n 0, 1) := by decide +kernel
theorem dX6_behind_18 : decode cX6_behind 18 = .ok (.getfield 50, 3) := by decide +kernel
theorem dX6_behind_21 : decode cX6_behind 21 = .ok (.iload_n 1, 1) := by decide +kernel
theorem dX6_behind_22 : decode cX6_behind 22 = .ok (.iaload, 1) := by decide +kernel
theorem dX6_behind_23 : decode cX6_behind 23 = .ok (.goto 4, 3) := by decide +kernel
theorem dX6_behind_26 : decode cX6_behind 26 = .ok (.iconst (-1), 1) := by decide +kernel
theorem dX6_behind_27 : decode cX6_behind 27 = .ok (.ireturn, 1) := by decide +kernel
theorem dX6_get_0 : decode cX6_get 0 = .ok (.aload_n 0, 1) := by decide +kernel
theorem dX6_get_1 : decode cX6_get 1 = .ok (.iload_n 1, 1) := by decide +kernel
theorem dX6_get_2 : decode cX6_get 2 = .ok (.invokestatic 109, 3) := by decide +kernel
theorem dX6_get_5 : decode cX6_get 5 = .ok (.ifCond .ne 7, 3) := by decide +kernel
theorem dX6_get_8 : decode cX6_get 8 = .ok (.iconst 1, 1) := by decide +kernel
theorem dX6_get_9 : decode cX6_get 9 = .ok (.goto 15, 3) := by decide +kernel
theorem dX6_get_12 : decode cX6_get 12 = .ok (.iload_n 2, 1) := by decide +kernel
theorem dX6_get_13 : decode cX6_get 13 = .ok (.invokestatic 114, 3) := by decide +kernel
theorem dX6_get_16 : decode cX6_get 16 = .ok (.ifCond .ne 7, 3) := by decide +kernel
theorem dX6_get_19 : decode cX6_get 19 = .ok (.iconst 2, 1) := by decide +kernel
theorem dX6_get_20 : decode cX6_get 20 = .ok (.goto 4, 3) := by decide +kernel
theorem dX6_get_23 : decode cX6_get 23 = .ok (.iconst 0, 1) := by decide +kernel
theorem dX6_get_24 : decode cX6_get 24 = .ok (.putfield 61, 3) := by decide +kernel
theorem dX6_get_27 : decode cX6_get 27 = .ok (.aload_n 0, 1) := by decide +kernel
theorem dX6_get_28 : decode cX6_get 28 = .ok (.getfield 61, 3) := by decide +kernel
theorem dX6_get_31 : decode cX6_get 31 = .ok (.ifCond .le 7, 3) := by decide +kernel
theorem dX6_get_34 : decode cX6_get 34 = .ok (.lconst 0, 1) := by decide +kernel
theorem dX6_get_35 : decode cX6_get 35 = .ok (.goto 17, 3) := by decide +kernel
theorem dX6_get_38 : decode cX6_get 38 = .ok (.aload_n 0, 1) := by decide +kernel
theorem dX6_get_39 : decode cX6_get 39 = .ok (.getfield 7, 3) := by decide +kernel
theorem dX6_get_42 : decode cX6_get 42 = .ok (.bipush 21, 2) := by decide +kernel
theorem dX6_get_44 : decode cX6_get 44 = .ok (.bipush 32, 2) := by decide +kernel
theorem dX6_get_46 : decode cX6_get 46 = .ok (.iload_n 1, 1) := by decide +kernel
theorem dX6_get_47 : decode cX6_get 47 = .ok (.imul, 1) := by decide +kernel
theorem dX6_get_48 : decode cX6_get 48 = .ok (.iload_n 2, 1) := by decide +kernel
theorem dX6_get_49 : decode cX6_get 49 = .ok (.iadd, 1) := by decide +kernel
theorem dX6_get_50 : decode cX6_get 50 = .ok (.imul, 1) := by decide +kernel
theorem dX6_get_51 : decode cX6_get 51 = .ok (.laload, 1) := by decide +kernel
theorem dX6_get_52 : decode cX6_get 52 = .ok (.lreturn, 1) := by decide +kernel
theorem dX6_part_0 : decode cX6_part 0 = .ok (.aload_n 0, 1) := by decide +kernel
theorem dX6_part_1 : decode cX6_part 1 = .ok (.iload_n 1, 1) := by decide +kernel
theorem dX6_part_2 : decode cX6_part 2 = .ok (.invokestatic 114, 3) := by decide +kernel
theorem dX6_part_5 : decode cX6_part 5 = .ok (.ifCond .eq 19, 3) := by decide +kernel
theorem dX6_part_8 : decode cX6_part 8 = .ok (.iload_n 2, 1) := by decide +kernel
theorem dX6_part_9 : decode cX6_part 9 = .ok (.i2l, 1) := by decide +kernel
theorem dX6_part_10 : decode cX6_part 10 = .ok (.lconst 0, 1) := by decide +kernel
theorem dX6_part_11 : decode cX6_part 11 = .ok (.ldc2_w 65, 3) := by decide +kernel
theorem dX6_part_14 : decode cX6_part 14 = .ok (.invokestatic 67, 3) := by decide +kernel
theorem dX6_part_17 : decode cX6_part 17 = .ok (.ifCond .eq 7, 3) := by decide +kernel
theorem dX6_part_20 : decode cX6_part 20 = .ok (.iconst 0, 1) := by decide +kernel
theorem dX6_part_21 : decode cX6_part 21 = .ok (.goto 4, 3) := by decide +kernel
theorem dX6_part_24 : decode cX6_part 24 = .ok (.iconst 1, 1) := by decide +kernel
theorem dX6_part_25 : decode cX6_part 25 = .ok (.putfield 61, 3) := by decide +kernel
theorem dX6_part_28 : decode cX6_part 28 = .ok (.aload_n 0, 1) := by decide +kernel
theorem dX6_part_29 : decode cX6_part 29 = .ok (.getfield 61, 3) := by decide +kernel
theorem dX6_part_32 : decode cX6_part 32 = .ok (.ifCond .le 7, 3) := by decide +kernel
theorem dX6_part_35 : decode cX6_part 35 = .ok (.lconst 0, 1) := by decide +kernel
theorem dX6_part_36 : decode cX6_part 36 = .ok (.goto 17, 3) := by decide +kernel
theorem dX6_part_39 : decode cX6_part 39 = .ok (.aload_n 0, 1) := by decide +kernel
theorem dX6_part_40 : decode cX6_part 40 = .ok (.getfield 7, 3) := by decide +kernel
theorem dX6_part_43 : decode cX6_part 43 = .ok (.bipush 21, 2) := by decide +kernel
theorem dX6_part_45 : decode cX6_part 45 = .ok (.bipush 64, 2) := by decide +kernel
theorem dX6_part_47 : decode cX6_part 47 = .ok (.iload_n 1, 1) := by decide +kernel
theorem dX6_part_48 : decode cX6_part 48 = .ok (.iadd, 1) := by decide +kernel
theorem dX6_part_49 : decode cX6_part 49 = .ok (.imul, 1) := by decide +kernel
theorem dX6_part_50 : decode cX6_part 50 = .ok (.iload_n 2, 1) := by decide +kernel
theorem dX6_part_51 : decode cX6_part 51 = .ok (.iadd, 1) := by decide +kernel
theorem dX6_part_52 : decode cX6_part 52 = .ok (.laload, 1) := by decide +kernel
theorem dX6_part_53 : decode cX6_part 53 = .ok (.lreturn, 1) := by decide +kernel
theorem dX6_at_0 : decode cX6_at 0 = .ok (.iload_n 1, 1) := by decide +kernel
theorem dX6_at_1 : decode cX6_at 1 = .ok (.invokestatic 114, 3) := by decide +kernel
theorem dX6_at_4 : decode cX6_at 4 = .ok (.ifCond .eq 11, 3) := by decide +kernel
theorem dX6_at_7 : decode cX6_at 7 = .ok (.iload_n 2, 1) := by decide +kernel
theorem dX6_at_8 : decode cX6_at 8 = .ok (.ifCond .lt 7, 3) := by decide +kernel
theorem dX6_at_11 : decode cX6_at 11 = .ok (.iconst 1, 1) := by decide +kernel
theorem dX6_at_12 : decode cX6_at 12 = .ok (.goto 4, 3) := by decide +kernel
theorem dX6_at_15 : decode cX6_at 15 = .ok (.iconst 0, 1) := by decide +kernel
theorem dX6_at_16 : decode cX6_at 16 = .ok (.istore_n 3, 1) := by decide +kernel
theorem dX6_at_17 : decode cX6_at 17 = .ok (.aload_n 0, 1) := by decide +kernel
theorem dX6_at_18 : decode cX6_at 18 = .ok (.iload_n 3, 1) := by decide +kernel
theorem dX6_at_19 : decode cX6_at 19 = .ok (.ifCond .eq 25, 3) := by decide +kernel
theorem dX6_at_22 : decode cX6_at 22 = .ok (.iload_n 2, 1) := by decide +kernel
theorem dX6_at_23 : decode cX6_at 23 = .ok (.i2l, 1) := by decide +kernel
theorem dX6_at_24 : decode cX6_at 24 = .ok (.aload_n 0, 1) := by decide +kernel
theorem dX6_at_25 : decode cX6_at 25 = .ok (.getfield 7, 3) := by decide +kernel
theorem dX6_at_28 : decode cX6_at 28 = .ok (.bipush 21, 2) := by decide +kernel
theorem dX6_at_30 : decode cX6_at 30 = .ok (.bipush 96, 2) := by decide +kernel
theorem dX6_at_32 : decode cX6_at 32 = .ok (.iload_n 1, 1) := by decide +kernel
theorem dX6_at_33 : decode cX6_at 33 = .ok (.iadd, 1) := by decide +kernel
theorem dX6_at_34 : decode cX6_at 34 = .ok (.imul, 1) := by decide +kernel
theorem dX6_at_35 : decode cX6_at 35 = .ok (.laload, 1) := by decide +kernel
theorem dX6_at_36 : decode cX6_at 36 = .ok (.lcmp, 1) := by decide +kernel
theorem dX6_at_37 : decode cX6_at 37 = .ok (.ifCond .ge 7, 3) := by decide +kernel
theorem dX6_at_40 : decode cX6_at 40 = .ok (.iconst 0, 1) := by decide +kernel
theorem dX6_at_41 : decode cX6_at 41 = .ok (.goto 4, 3) := by decide +kernel
theorem dX6_at_44 : decode cX6_at 44 = .ok (.iconst 1, 1) := by decide +kernel
theorem dX6_at_45 : decode cX6_at 45 = .ok (.putfield 61, 3) := by decide +kernel
theorem dX6_at_48 : decode cX6_at 48 = .ok (.aload_n 0, 1) := by decide +kernel
theorem dX6_at_49 : decode cX6_at 49 = .ok (.getfield 61, 3) := by decide +kernel
theorem dX6_at_52 : decode cX6_at 52 = .ok (.ifCond .le 7, 3) := by decide +kernel
theorem dX6_at_55 : decode cX6_at 55 = .ok (.iconst 0, 1) := by decide +kernel
theorem dX6_at_56 : decode cX6_at 56 = .ok (.goto 20, 3) := by decide +kernel
theorem dX6_at_59 : decode cX6_at 59 = .ok (.aload_n 0, 1) := by decide +kernel
theorem dX6_at_60 : decode cX6_at 60 = .ok (.getfield 7, 3) := by decide +kernel
theorem dX6_at_63 : decode cX6_at 63 = .ok (.bipush 21, 2) := by decide +kernel
theorem dX6_at_65 : decode cX6_at 65 = .ok (.bipush 96, 2) := by decide +kernel
theorem dX6_at_67 : decode cX6_at 67 = .ok (.iload_n 1, 1) := by decide +kernel
theorem dX6_at_68 : decode cX6_at 68 = .ok (.iadd, 1) := by decide +kernel
theorem dX6_at_69 : decode cX6_at 69 = .ok (.imul, 1) := by decide +kernel
theorem dX6_at_70 : decode cX6_at 70 = .ok (.iconst 1, 1) := by decide +kernel
theorem dX6_at_71 : decode cX6_at 71 = .ok (.iadd, 1) := by decide +kernel
theorem dX6_at_72 : decode cX6_at 72 = .ok (.iload_n 2, 1) := by decide +kernel
theorem dX6_at_73 : decode cX6_at 73 = .ok (.iadd, 1) := by decide +kernel
theorem dX6_at_74 : decode cX6_at 74 = .ok (.laload, 1) := by decide +kernel
theorem dX6_at_75 : decode cX6_at 75 = .ok (.l2i, 1) := by decide +kernel
theorem dX6_at_76 : decode cX6_at 76 = .ok (.ireturn, 1) := by decide +kernel
theorem dX6_told_0 : decode cX6_told 0 = .ok (.iload_n 1, 1) := by decide +kernel
theorem dX6_told_1 : decode cX6_told 1 = .ok (.i2l, 1) := by decide +kernel
theorem dX6_told_2 : decode cX6_told 2 = .ok (.ldc2_w 147, 3) := by decide +kernel
theorem dX6_told_5 : decode cX6_told 5 = .ok (.ldc2_w 149, 3) := by decide +kernel
theorem dX6_told_8 : decode cX6_told 8 = .ok (.invokestatic 67, 3) := by decide +kernel
theorem dX6_told_11 : decode cX6_told 11 = .ok (.istore_n 3, 1) := by decide +kernel
theorem dX6_told_12 : decode cX6_told 12 = .ok (.aload_n 0, 1) := by decide +kernel
theorem dX6_told_13 : decode cX6_told 13 = .ok (.iload_n 1, 1) := by decide +kernel
theorem dX6_told_14 : decode cX6_told 14 = .ok (.i2l, 1) := by decide +kernel
theorem dX6_told_15 : decode cX6_told 15 = .ok (.lconst 0, 1) := by decide +kernel
theorem dX6_told_16 : decode cX6_told 16 = .ok (.lconst 1, 1) := by decide +kernel
theorem dX6_told_17 : decode cX6_told 17 = .ok (.invokestatic 67, 3) := by decide +kernel
theorem dX6_told_20 : decode cX6_told 20 = .ok (.ifCond .ne 11, 3) := by decide +kernel
theorem dX6_told_23 : decode cX6_told 23 = .ok (.iload_n 3, 1) := by decide +kernel
theorem dX6_told_24 : decode cX6_told 24 = .ok (.ifCond .ne 7, 3) := by decide +kernel
theorem dX6_told_27 : decode cX6_told 27 = .ok (.iconst 1, 1) := by decide +kernel
theorem dX6_told_28 : decode cX6_told 28 = .ok (.goto 19, 3) := by decide +kernel
theorem dX6_told_31 : decode cX6_told 31 = .ok (.iload_n 3, 1) := by decide +kernel
theorem dX6_told_32 : decode cX6_told 32 = .ok (.ifCond .eq 14, 3) := by decide +kernel
theorem dX6_told_35 : decode cX6_told 35 = .ok (.iload_n 2, 1) := by decide +kernel
theorem dX6_told_36 : decode cX6_told 36 = .ok (.invokestatic 114, 3) := by decide +kernel
theorem dX6_told_39 : decode cX6_told 39 = .ok (.ifCond .ne 7, 3) := by decide +kernel
theorem dX6_told_42 : decode cX6_told 42 = .ok (.iconst 2, 1) := by decide +kernel
theorem dX6_told_43 : decode cX6_told 43 = .ok (.goto 4, 3) := by decide +kernel
theorem dX6_told_46 : decode cX6_told 46 = .ok (.iconst 0, 1) := by decide +kernel
theorem dX6_told_47 : decode cX6_told 47 = .ok (.putfield 61, 3) := by decide +kernel
theorem dX6_told_50 : decode cX6_told 50 = .ok (.aload_n 0, 1) := by decide +kernel
theorem dX6_told_51 : decode cX6_told 51 = .ok (.getfield 61, 3) := by decide +kernel
theorem dX6_told_54 : decode cX6_told 54 = .ok (.ifCond .le 5, 3) := by decide +kernel
theorem dX6_told_57 : decode cX6_told 57 = .ok (.iconst 0, 1) := by decide +kernel
theorem dX6_told_58 : decode cX6_told 58 = .ok (.ireturn, 1) := by decide +kernel
theorem dX6_told_59 : decode cX6_told 59 = .ok (.iload_n 3, 1) := by decide +kernel
theorem dX6_told_60 : decode cX6_told 60 = .ok (.ifCond .eq 20, 3) := by decide +kernel
theorem dX6_told_63 : decode cX6_told 63 = .ok (.aload_n 0, 1) := by decide +kernel
theorem dX6_told_64 : decode cX6_told 64 = .ok (.getfield 13, 3) := by decide +kernel
theorem dX6_told_67 : decode cX6_told 67 = .ok (.bipush 32, 2) := by decide +kernel
theorem dX6_told_69 : decode cX6_told 69 = .ok (.iload_n 1, 1) := by decide +kernel
theorem dX6_told_70 : decode cX6_told 70 = .ok (.bipush 10, 2) := by decide +kernel
theorem dX6_told_72 : decode cX6_told 72 = .ok (.isub, 1) := by decide +kernel
theorem dX6_told_73 : decode cX6_told 73 = .ok (.imul, 1) := by decide +kernel
theorem dX6_told_74 : decode cX6_told 74 = .ok (.iload_n 2, 1) := by decide +kernel
theorem dX6_told_75 : decode cX6_told 75 = .ok (.iadd, 1) := by decide +kernel
theorem dX6_told_76 : decode cX6_told 76 = .ok (.iaload, 1) := by decide +kernel
theorem dX6_told_77 : decode cX6_told 77 = .ok (.goto 18, 3) := by decide +kernel
theorem dX6_told_80 : decode cX6_told 80 = .ok (.iload_n 1, 1) := by decide +kernel
theorem dX6_told_81 : decode cX6_told 81 = .ok (.ifCond .ne 10, 3) := by decide +kernel
theorem dX6_told_84 : decode cX6_told 84 = .ok (.aload_n 0, 1) := by decide +kernel
theorem dX6_told_85 : decode cX6_told 85 = .ok (.getfield 91, 3) := by decide +kernel
theorem dX6_told_88 : decode cX6_told 88 = .ok (.goto 7, 3) := by decide +kernel
theorem dX6_told_91 : decode cX6_told 91 = .ok (.aload_n 0, 1) := by decide +kernel
theorem dX6_told_92 : decode cX6_told 92 = .ok (.getfield 94, 3) := by decide +kernel
theorem dX6_told_95 : decode cX6_told 95 = .ok (.ireturn, 1) := by decide +kernel
theorem dX6_upOf_0 : decode cX6_upOf 0 = .ok (.iload_n 0, 1) := by decide +kernel
theorem dX6_upOf_1 : decode cX6_upOf 1 = .ok (.ifCond .ne 5, 3) := by decide +kernel
theorem dX6_upOf_4 : decode cX6_upOf 4 = .ok (.lconst 1, 1) := by decide +kernel
theorem dX6_upOf_5 : decode cX6_upOf 5 = .ok (.lreturn, 1) := by decide +kernel
theorem dX6_upOf_6 : decode cX6_upOf 6 = .ok (.iload_n 0, 1) := by decide +kernel
theorem dX6_upOf_7 : decode cX6_upOf 7 = .ok (.iconst 2, 1) := by decide +kernel
theorem dX6_upOf_8 : decode cX6_upOf 8 = .ok (.if_icmp .ne 7, 3) := by decide +kernel
theorem dX6_upOf_11 : decode cX6_upOf 11 = .ok (.ldc2_w 151, 3) := by decide +kernel
theorem dX6_upOf_14 : decode cX6_upOf 14 = .ok (.lreturn, 1) := by decide +kernel
theorem dX6_upOf_15 : decode cX6_upOf 15 = .ok (.iload_n 0, 1) := by decide +kernel
theorem dX6_upOf_16 : decode cX6_upOf 16 = .ok (.bipush 6, 2) := by decide +kernel
theorem dX6_upOf_18 : decode cX6_upOf 18 = .ok (.if_icmp .ne 9, 3) := by decide +kernel
theorem dX6_upOf_21 : decode cX6_upOf 21 = .ok (.ldc2_w 153, 3) := by decide +kernel
theorem dX6_upOf_24 : decode cX6_upOf 24 = .ok (.goto 18, 3) := by decide +kernel
theorem dX6_upOf_27 : decode cX6_upOf 27 = .ok (.iload_n 0, 1) := by decide +kernel
theorem dX6_upOf_28 : decode cX6_upOf 28 = .ok (.bipush 7, 2) := by decide +kernel
theorem dX6_upOf_30 : decode cX6_upOf 30 = .ok (.if_icmp .ne 9, 3) := by decide +kernel
theorem dX6_upOf_33 : decode cX6_upOf 33 = .ok (.ldc2_w 155, 3) := by decide +kernel
theorem dX6_upOf_36 : decode cX6_upOf 36 = .ok (.goto 6, 3) := by decide +kernel
theorem dX6_upOf_39 : decode cX6_upOf 39 = .ok (.ldc2_w 157, 3) := by decide +kernel
theorem dX6_upOf_42 : decode cX6_upOf 42 = .ok (.lreturn, 1) := by decide +kernel
theorem dX6_lowOf_0 : decode cX6_lowOf 0 = .ok (.iload_n 0, 1) := by decide +kernel
theorem dX6_lowOf_1 : decode cX6_lowOf 1 = .ok (.ifCond .eq 8, 3) := by decide +kernel
theorem dX6_lowOf_4 : decode cX6_lowOf 4 = .ok (.iload_n 0, 1) := by decide +kernel
theorem dX6_lowOf_5 : decode cX6_lowOf 5 = .ok (.iconst 2, 1) := by decide +kernel
theorem dX6_lowOf_6 : decode cX6_lowOf 6 = .ok (.if_icmp .ne 5, 3) := by decide +kernel
theorem dX6_lowOf_9 : decode cX6_lowOf 9 = .ok (.lconst 1, 1) := by decide +kernel
theorem dX6_lowOf_10 : decode cX6_lowOf 10 = .ok (.lreturn, 1) := by decide +kernel
theorem dX6_lowOf_11 : decode cX6_lowOf 11 = .ok (.iload_n 0, 1) := by decide +kernel
theorem dX6_lowOf_12 : decode cX6_lowOf 12 = .ok (.iconst 1, 1) := by decide +kernel
theorem dX6_lowOf_13 : decode cX6_lowOf 13 = .ok (.if_icmp .ne 7, 3) := by decide +kernel
theorem dX6_lowOf_16 : decode cX6_lowOf 16 = .ok (.ldc2_w 159, 3) := by decide +kernel
theorem dX6_lowOf_19 : decode cX6_lowOf 19 = .ok (.lreturn, 1) := by decide +kernel
theorem dX6_lowOf_20 : decode cX6_lowOf 20 = .ok (.iload_n 0, 1) := by decide +kernel
theorem dX6_lowOf_21 : decode cX6_lowOf 21 = .ok (.iconst 3, 1) := by decide +kernel
theorem dX6_lowOf_22 : decode cX6_lowOf 22 = .ok (.if_icmp .ne 9, 3) := by decide +kernel
theorem dX6_lowOf_25 : decode cX6_lowOf 25 = .ok (.ldc2_w 161, 3) := by decide +kernel
theorem dX6_lowOf_28 : decode cX6_lowOf 28 = .ok (.goto 28, 3) := by decide +kernel
theorem dX6_lowOf_31 : decode cX6_lowOf 31 = .ok (.iload_n 0, 1) := by decide +kernel
theorem dX6_lowOf_32 : decode cX6_lowOf 32 = .ok (.iconst 4, 1) := by decide +kernel
theorem dX6_lowOf_33 : decode cX6_lowOf 33 = .ok (.if_icmp .ne 9, 3) := by decide +kernel
theorem dX6_lowOf_36 : decode cX6_lowOf 36 = .ok (.ldc2_w 163, 3) := by decide +kernel
theorem dX6_lowOf_39 : decode cX6_lowOf 39 = .ok (.goto 17, 3) := by decide +kernel
theorem dX6_lowOf_42 : decode cX6_lowOf 42 = .ok (.iload_n 0, 1) := by decide +kernel
theorem dX6_lowOf_43 : decode cX6_lowOf 43 = .ok (.iconst 5, 1) := by decide +kernel
theorem dX6_lowOf_44 : decode cX6_lowOf 44 = .ok (.if_icmp .ne 9, 3) := by decide +kernel
theorem dX6_lowOf_47 : decode cX6_lowOf 47 = .ok (.ldc2_w 165, 3) := by decide +kernel
theorem dX6_lowOf_50 : decode cX6_lowOf 50 = .ok (.goto 6, 3) := by decide +kernel
theorem dX6_lowOf_53 : decode cX6_lowOf 53 = .ok (.ldc2_w 167, 3) := by decide +kernel
theorem dX6_lowOf_56 : decode cX6_lowOf 56 = .ok (.lreturn, 1) := by decide +kernel
theorem dX6_scaled_0 : decode cX6_scaled 0 = .ok (.aload_n 0, 1) := by decide +kernel
theorem dX6_scaled_1 : decode cX6_scaled 1 = .ok (.iload_n 1, 1) := by decide +kernel
theorem dX6_scaled_2 : decode cX6_scaled 2 = .ok (.i2l, 1) := by decide +kernel
theorem dX6_scaled_3 : decode cX6_scaled 3 = .ok (.lconst 0, 1) := by decide +kernel
theorem dX6_scaled_4 : decode cX6_scaled 4 = .ok (.ldc2_w 75, 3) := by decide +kernel
theorem dX6_scaled_7 : decode cX6_scaled 7 = .ok (.invokestatic 67, 3) := by decide +kernel
theorem dX6_scaled_10 : decode cX6_scaled 10 = .ok (.ifCond .eq 31, 3) := by decide +kernel
theorem dX6_scaled_13 : decode cX6_scaled 13 = .ok (.iload_n 2, 1) := by decide +kernel
theorem dX6_scaled_14 : decode cX6_scaled 14 = .ok (.i2l, 1) := by decide +kernel
theorem dX6_scaled_15 : decode cX6_scaled 15 = .ok (.lconst 0, 1) := by decide +kernel
theorem dX6_scaled_16 : decode cX6_scaled 16 = .ok (.ldc2_w 169, 3) := by decide +kernel
theorem dX6_scaled_19 : decode cX6_scaled 19 = .ok (.invokestatic 67, 3) := by decide +kernel
theorem dX6_scaled_22 : decode cX6_scaled 22 = .ok (.ifCond .eq 19, 3) := by decide +kernel
theorem dX6_scaled_25 : decode cX6_scaled 25 = .ok (.iload_n 3, 1) := by decide +kernel
theorem dX6_scaled_26 : decode cX6_scaled 26 = .ok (.i2l, 1) := by decide +kernel
theorem dX6_scaled_27 : decode cX6_scaled 27 = .ok (.lconst 0, 1) := by decide +kernel
theorem dX6_scaled_28 : decode cX6_scaled 28 = .ok (.ldc2_w 171, 3) := by decide +kernel
theorem dX6_scaled_31 : decode cX6_scaled 31 = .ok (.invokestatic 67, 3) := by decide +kernel
theorem dX6_scaled_34 : decode cX6_scaled 34 = .ok (.ifCond .eq 7, 3) := by decide +kernel
theorem dX6_scaled_37 : decode cX6_scaled 37 = .ok (.iconst 0, 1) := by decide +kernel
theorem dX6_scaled_38 : decode cX6_scaled 38 = .ok (.goto 4, 3) := by decide +kernel
theorem dX6_scaled_41 : decode cX6_scaled 41 = .ok (.iconst 1, 1) := by decide +kernel
theorem dX6_scaled_42 : decode cX6_scaled 42 = .ok (.putfield 61, 3) := by decide +kernel
theorem dX6_scaled_45 : decode cX6_scaled 45 = .ok (.aload_n 0, 1) := by decide +kernel
theorem dX6_scaled_46 : decode cX6_scaled 46 = .ok (.getfield 61, 3) := by decide +kernel
theorem dX6_scaled_49 : decode cX6_scaled 49 = .ok (.ifCond .le 5, 3) := by decide +kernel
theorem dX6_scaled_52 : decode cX6_scaled 52 = .ok (.lconst 0, 1) := by decide +kernel
theorem dX6_scaled_53 : decode cX6_scaled 53 = .ok (.lreturn, 1) := by decide +kernel
theorem dX6_scaled_54 : decode cX6_scaled 54 = .ok (.iload_n 1, 1) := by decide +kernel
theorem dX6_scaled_55 : decode cX6_scaled 55 = .ok (.i2l, 1) := by decide +kernel
theorem dX6_scaled_56 : decode cX6_scaled 56 = .ok (.lstore 4, 2) := by decide +kernel
theorem dX6_scaled_58 : decode cX6_scaled 58 = .ok (.iload_n 3, 1) := by decide +kernel
theorem dX6_scaled_59 : decode cX6_scaled 59 = .ok (.bipush 8, 2) := by decide +kernel
theorem dX6_scaled_61 : decode cX6_scaled 61 = .ok (.if_icmp .ge 54, 3) := by decide +kernel
theorem dX6_scaled_64 : decode cX6_scaled 64 = .ok (.iload_n 1, 1) := by decide +kernel
theorem dX6_scaled_65 : decode cX6_scaled 65 = .ok (.i2l, 1) := by decide +kernel
theorem dX6_scaled_66 : decode cX6_scaled 66 = .ok (.iload_n 3, 1) := by decide +kernel
theorem dX6_scaled_67 : decode cX6_scaled 67 = .ok (.invokestatic 173, 3) := by decide +kernel
theorem dX6_scaled_70 : decode cX6_scaled 70 = .ok (.lmul, 1) := by decide +kernel
theorem dX6_scaled_71 : decode cX6_scaled 71 = .ok (.lstore 6, 2) := by decide +kernel
theorem dX6_scaled_73 : decode cX6_scaled 73 = .ok (.iload_n 3, 1) := by decide +kernel
theorem dX6_scaled_74 : decode cX6_scaled 74 = .ok (.invokestatic 173, 3) := by decide +kernel
theorem dX6_scaled_77 : decode cX6_scaled 77 = .ok (.iload_n 2, 1) := by decide +kernel
theorem dX6_scaled_78 : decode cX6_scaled 78 = .ok (.i2l, 1) := by decide +kernel
theorem dX6_scaled_79 : decode cX6_scaled 79 = .ok (.lmul, 1) := by decide +kernel
theorem dX6_scaled_80 : decode cX6_scaled 80 = .ok (.ldc2_w 177, 3) := by decide +kernel
theorem dX6_scaled_83 : decode cX6_scaled 83 = .ok (.lload 6, 2) := by decide +kernel
theorem dX6_scaled_85 : decode cX6_scaled 85 = .ok (.iload_n 3, 1) := by decide +kernel
theorem dX6_scaled_86 : decode cX6_scaled 86 = .ok (.invokestatic 179, 3) := by decide +kernel
theorem dX6_scaled_89 : decode cX6_scaled 89 = .ok (.lrem, 1) := by decide +kernel
theorem dX6_scaled_90 : decode cX6_scaled 90 = .ok (.lmul, 1) := by decide +kernel
theorem dX6_scaled_91 : decode cX6_scaled 91 = .ok (.ladd, 1) := by decide +kernel
theorem dX6_scaled_92 : decode cX6_scaled 92 = .ok (.iload_n 3, 1) := by decide +kernel
theorem dX6_scaled_93 : decode cX6_scaled 93 = .ok (.invokestatic 179, 3) := by decide +kernel
theorem dX6_scaled_96 : decode cX6_scaled 96 = .ok (.ldiv, 1) := by decide +kernel
theorem dX6_scaled_97 : decode cX6_scaled 97 = .ok (.lstore 8, 2) := by decide +kernel
theorem dX6_scaled_99 : decode cX6_scaled 99 = .ok (.ldc2_w 177, 3) := by decide +kernel
theorem dX6_scaled_102 : decode cX6_scaled 102 = .ok (.lload 6, 2) := by decide +kernel
theorem dX6_scaled_104 : decode cX6_scaled 104 = .ok (.iload_n 3, 1) := by decide +kernel
theorem dX6_scaled_105 : decode cX6_scaled 105 = .ok (.invokestatic 179, 3) := by decide +kernel
theorem dX6_scaled_108 : decode cX6_scaled 108 = .ok (.ldiv, 1) := by decide +kernel
theorem dX6_scaled_109 : decode cX6_scaled 109 = .ok (.lmul, 1) := by decide +kernel
theorem dX6_scaled_110 : decode cX6_scaled 110 = .ok (.lload 8, 2) := by decide +kernel
theorem dX6_scaled_112 : decode cX6_scaled 112 = .ok (.ladd, 1) := by decide +kernel
theorem dX6_scaled_113 : decode cX6_scaled 113 = .ok (.lstore 4, 2) := by decide +kernel
theorem dX6_scaled_115 : decode cX6_scaled 115 = .ok (.lload 4, 2) := by decide +kernel
theorem dX6_scaled_117 : decode cX6_scaled 117 = .ok (.ldc2_w 75, 3) := by decide +kernel
theorem dX6_scaled_120 : decode cX6_scaled 120 = .ok (.lcmp, 1) := by decide +kernel
theorem dX6_scaled_121 : decode cX6_scaled 121 = .ok (.ifCond .le 9, 3) := by decide +kernel
theorem dX6_scaled_124 : decode cX6_scaled 124 = .ok (.ldc2_w 59, 3) := by decide +kernel
theorem dX6_scaled_127 : decode cX6_scaled 127 = .ok (.goto 5, 3) := by decide +kernel
theorem dX6_scaled_130 : decode cX6_scaled 130 = .ok (.lload 4, 2) := by decide +kernel
theorem dX6_scaled_132 : decode cX6_scaled 132 = .ok (.lreturn, 1) := by decide +kernel
theorem dX6_fraction_0 : decode cX6_fraction 0 = .ok (.iload_n 2, 1) := by decide +kernel
theorem dX6_fraction_1 : decode cX6_fraction 1 = .ok (.i2l, 1) := by decide +kernel
theorem dX6_fraction_2 : decode cX6_fraction 2 = .ok (.lconst 1, 1) := by decide +kernel
theorem dX6_fraction_3 : decode cX6_fraction 3 = .ok (.ldc2_w 182, 3) := by decide +kernel
theorem dX6_fraction_6 : decode cX6_fraction 6 = .ok (.invokestatic 67, 3) := by decide +kernel
theorem dX6_fraction_9 : decode cX6_fraction 9 = .ok (.ifCond .eq 11, 3) := by decide +kernel
theorem dX6_fraction_12 : decode cX6_fraction 12 = .ok (.iload_n 1, 1) := by decide +kernel
theorem dX6_fraction_13 : decode cX6_fraction 13 = .ok (.ifCond .lt 7, 3) := by decide +kernel
theorem dX6_fraction_16 : decode cX6_fraction 16 = .ok (.iconst 1, 1) := by decide +kernel
theorem dX6_fraction_17 : decode cX6_fraction 17 = .ok (.goto 4, 3) := by decide +kernel
theorem dX6_fraction_20 : decode cX6_fraction 20 = .ok (.iconst 0, 1) := by decide +kernel
theorem dX6_fraction_21 : decode cX6_fraction 21 = .ok (.istore_n 3, 1) := by decide +kernel
theorem dX6_fraction_22 : decode cX6_fraction 22 = .ok (.lconst 1, 1) := by decide +kernel
theorem dX6_fraction_23 : decode cX6_fraction 23 = .ok (.lstore 4, 2) := by decide +kernel
theorem dX6_fraction_25 : decode cX6_fraction 25 = .ok (.iconst 0, 1) := by decide +kernel
theorem dX6_fraction_26 : decode cX6_fraction 26 = .ok (.istore 6, 2) := by decide +kernel
theorem dX6_fraction_28 : decode cX6_fraction 28 = .ok (.iload 6, 2) := by decide +kernel
theorem dX6_fraction_30 : decode cX6_fraction 30 = .ok (.iload_n 2, 1) := by decide +kernel
theorem dX6_fraction_31 : decode cX6_fraction 31 = .ok (.if_icmp .ge 21, 3) := by decide +kernel
theorem dX6_fraction_34 : decode cX6_fraction 34 = .ok (.iload_n 3, 1) := by decide +kernel
theorem dX6_fraction_35 : decode cX6_fraction 35 = .ok (.ifCond .eq 17, 3) := by decide +kernel
theorem dX6_fraction_38 : decode cX6_fraction 38 = .ok (.ldc2_w 147, 3) := by decide +kernel
theorem dX6_fraction_41 : decode cX6_fraction 41 = .ok (.lload 4, 2) := by decide +kernel
theorem dX6_fraction_43 : decode cX6_fraction 43 = .ok (.lmul, 1) := by decide +kernel
theorem dX6_fraction_44 : decode cX6_fraction 44 = .ok (.lstore 4, 2) := by decide +kernel
theorem dX6_fraction_46 : decode cX6_fraction 46 = .ok (.iinc 6 1, 3) := by decide +kernel
theorem dX6_fraction_49 : decode cX6_fraction 49 = .ok (.goto (-21), 3) := by decide +kernel
theorem dX6_fraction_52 : decode cX6_fraction 52 = .ok (.aload_n 0, 1) := by decide +kernel
theorem dX6_fraction_53 : decode cX6_fraction 53 = .ok (.iload_n 3, 1) := by decide +kernel
theorem dX6_fraction_54 : decode cX6_fraction 54 = .ok (.ifCond .eq 15, 3) := by decide +kernel
theorem dX6_fraction_57 : decode cX6_fraction 57 = .ok (.iload_n 1, 1) := by decide +kernel
theorem dX6_fraction_58 : decode cX6_fraction 58 = .ok (.i2l, 1) := by decide +kernel
theorem dX6_fraction_59 : decode cX6_fraction 59 = .ok (.lload 4, 2) := by decide +kernel
theorem dX6_fraction_61 : decode cX6_fraction 61 = .ok (.lcmp, 1) := by decide +kernel
theorem dX6_fraction_62 : decode cX6_fraction 62 = .ok (.ifCond .ge 7, 3) := by decide +kernel
theorem dX6_fraction_65 : decode cX6_fraction 65 = .ok (.iconst 0, 1) := by decide +kernel
theorem dX6_fraction_66 : decode cX6_fraction 66 = .ok (.goto 4, 3) := by decide +kernel
theorem dX6_fraction_69 : decode cX6_fraction 69 = .ok (.iconst 1, 1) := by decide +kernel
theorem dX6_fraction_70 : decode cX6_fraction 70 = .ok (.putfield 61, 3) := by decide +kernel
theorem dX6_fraction_73 : decode cX6_fraction 73 = .ok (.aload_n 0, 1) := by decide +kernel
theorem dX6_fraction_74 : decode cX6_fraction 74 = .ok (.getfield 61, 3) := by decide +kernel
theorem dX6_fraction_77 : decode cX6_fraction 77 = .ok (.ifCond .le 5, 3) := by decide +kernel
theorem dX6_fraction_80 : decode cX6_fraction 80 = .ok (.iconst 0, 1) := by decide +kernel
theorem dX6_fraction_81 : decode cX6_fraction 81 = .ok (.ireturn, 1) := by decide +kernel
theorem dX6_fraction_82 : decode cX6_fraction 82 = .ok (.iload_n 1, 1) := by decide +kernel
theorem dX6_fraction_83 : decode cX6_fraction 83 = .ok (.istore 6, 2) := by decide +kernel
theorem dX6_fraction_85 : decode cX6_fraction 85 = .ok (.lconst 0, 1) := by decide +kernel
theorem dX6_fraction_86 : decode cX6_fraction 86 = .ok (.lstore 7, 2) := by decide +kernel
theorem dX6_fraction_88 : decode cX6_fraction 88 = .ok (.iconst 0, 1) := by decide +kernel
theorem dX6_fraction_89 : decode cX6_fraction 89 = .ok (.istore 9, 2) := by decide +kernel
theorem dX6_fraction_91 : decode cX6_fraction 91 = .ok (.iload 9, 2) := by decide +kernel
theorem dX6_fraction_93 : decode cX6_fraction 93 = .ok (.iload_n 2, 1) := by decide +kernel
theorem dX6_fraction_94 : decode cX6_fraction 94 = .ok (.if_icmp .ge 35, 3) := by decide +kernel
theorem dX6_fraction_97 : decode cX6_fraction 97 = .ok (.lload 7, 2) := by decide +kernel
theorem dX6_fraction_99 : decode cX6_fraction 99 = .ok (.ldc2_w 184, 3) := by decide +kernel
theorem dX6_fraction_102 : decode cX6_fraction 102 = .ok (.iload 6, 2) := by decide +kernel
theorem dX6_fraction_104 : decode cX6_fraction 104 = .ok (.bipush 10, 2) := by decide +kernel
theorem dX6_fraction_106 : decode cX6_fraction 106 = .ok (.irem, 1) := by decide +kernel
theorem dX6_fraction_107 : decode cX6_fraction 107 = .ok (.i2l, 1) := by decide +kernel
theorem dX6_fraction_108 : decode cX6_fraction 108 = .ok (.lmul, 1) := by decide +kernel
theorem dX6_fraction_109 : decode cX6_fraction 109 = .ok (.ladd, 1) := by decide +kernel
theorem dX6_fraction_110 : decode cX6_fraction 110 = .ok (.ldc2_w 147, 3) := by decide +kernel
theorem dX6_fraction_113 : decode cX6_fraction 113 = .ok (.ldiv, 1) := by decide +kernel
theorem dX6_fraction_114 : decode cX6_fraction 114 = .ok (.lstore 7, 2) := by decide +kernel
theorem dX6_fraction_116 : decode cX6_fraction 116 = .ok (.iload 6, 2) := by decide +kernel
theorem dX6_fraction_118 : decode cX6_fraction 118 = .ok (.bipush 10, 2) := by decide +kernel
theorem dX6_fraction_120 : decode cX6_fraction 120 = .ok (.idiv, 1) := by decide +kernel
theorem dX6_fraction_121 : decode cX6_fraction 121 = .ok (.istore 6, 2) := by decide +kernel
theorem dX6_fraction_123 : decode cX6_fraction 123 = .ok (.iinc 9 1, 3) := by decide +kernel
theorem dX6_fraction_126 : decode cX6_fraction 126 = .ok (.goto (-35), 3) := by decide +kernel
theorem dX6_fraction_129 : decode cX6_fraction 129 = .ok (.lload 7, 2) := by decide +kernel
theorem dX6_fraction_131 : decode cX6_fraction 131 = .ok (.lconst 1, 1) := by decide +kernel
theorem dX6_fraction_132 : decode cX6_fraction 132 = .ok (.ladd, 1) := by decide +kernel
theorem dX6_fraction_133 : decode cX6_fraction 133 = .ok (.ldc2_w 121, 3) := by decide +kernel
theorem dX6_fraction_136 : decode cX6_fraction 136 = .ok (.ldiv, 1) := by decide +kernel
theorem dX6_fraction_137 : decode cX6_fraction 137 = .ok (.l2i, 1) := by decide +kernel
theorem dX6_fraction_138 : decode cX6_fraction 138 = .ok (.ireturn, 1) := by decide +kernel
theorem dX6_say_0 : decode cX6_say 0 = .ok (.aload_n 0, 1) := by decide +kernel
theorem dX6_say_1 : decode cX6_say 1 = .ok (.getfield 53, 3) := by decide +kernel
theorem dX6_say_4 : decode cX6_say 4 = .ok (.aload_n 0, 1) := by decide +kernel
theorem dX6_say_5 : decode cX6_say 5 = .ok (.getfield 186, 3) := by decide +kernel
theorem dX6_say_8 : decode cX6_say 8 = .ok (.iload_n 1, 1) := by decide +kernel
theorem dX6_say_9 : decode cX6_say 9 = .ok (.iastore, 1) := by decide +kernel
theorem dX6_say_10 : decode cX6_say 10 = .ok (.aload_n 0, 1) := by decide +kernel
theorem dX6_say_11 : decode cX6_say 11 = .ok (.dup, 1) := by decide +kernel
theorem dX6_say_12 : decode cX6_say 12 = .ok (.getfield 186, 3) := by decide +kernel
theorem dX6_say_15 : decode cX6_say 15 = .ok (.iconst 1, 1) := by decide +kernel
theorem dX6_say_16 : decode cX6_say 16 = .ok (.iadd, 1) := by decide +kernel
theorem dX6_say_17 : decode cX6_say 17 = .ok (.putfield 186, 3) := by decide +kernel
theorem dX6_say_20 : decode cX6_say 20 = .ok (.return_, 1) := by decide +kernel
theorem dX6_sayNumber_0 : decode cX6_sayNumber 0 = .ok (.lload_n 1, 1) := by decide +kernel
theorem dX6_sayNumber_1 : decode cX6_sayNumber 1 = .ok (.lconst 0, 1) := by decide +kernel
theorem dX6_sayNumber_2 : decode cX6_sayNumber 2 = .ok (.lcmp, 1) := by decide +kernel
theorem dX6_sayNumber_3 : decode cX6_sayNumber 3 = .ok (.ifCond .ge 9, 3) := by decide +kernel
theorem dX6_sayNumber_6 : decode cX6_sayNumber 6 = .ok (.aload_n 0, 1) := by decide +kernel
theorem dX6_sayNumber_7 : decode cX6_sayNumber 7 = .ok (.bipush 45, 2) := by decide +kernel
theorem dX6_sayNumber_9 : decode cX6_sayNumber 9 = .ok (.invokevirtual 189, 3) := by decide +kernel
theorem dX6_sayNumber_12 : decode cX6_sayNumber 12 = .ok (.aload_n 0, 1) := by decide +kernel
theorem dX6_sayNumber_13 : decode cX6_sayNumber 13 = .ok (.iconst 0, 1) := by decide +kernel
theorem dX6_sayNumber_14 : decode cX6_sayNumber 14 = .ok (.putfield 193, 3) := by decide +kernel
theorem dX6_sayNumber_17 : decode cX6_sayNumber 17 = .ok (.lload_n 1, 1) := by decide +kernel
theorem dX6_sayNumber_18 : decode cX6_sayNumber 18 = .ok (.lconst 0, 1) := by decide +kernel
theorem dX6_sayNumber_19 : decode cX6_sayNumber 19 = .ok (.lcmp, 1) := by decide +kernel
theorem dX6_sayNumber_20 : decode cX6_sayNumber 20 = .ok (.ifCond .ge 8, 3) := by decide +kernel
theorem dX6_sayNumber_23 : decode cX6_sayNumber 23 = .ok (.lload_n 1, 1) := by decide +kernel
theorem dX6_sayNumber_24 : decode cX6_sayNumber 24 = .ok (.lneg, 1) := by decide +kernel
theorem dX6_sayNumber_25 : decode cX6_sayNumber 25 = .ok (.goto 4, 3) := by decide +kernel
theorem dX6_sayNumber_28 : decode cX6_sayNumber 28 = .ok (.lload_n 1, 1) := by decide +kernel
theorem dX6_sayNumber_29 : decode cX6_sayNumber 29 = .ok (.lstore_n 3, 1) := by decide +kernel
theorem dX6_sayNumber_30 : decode cX6_sayNumber 30 = .ok (.lload_n 3, 1) := by decide +kernel
theorem dX6_sayNumber_31 : decode cX6_sayNumber 31 = .ok (.lconst 0, 1) := by decide +kernel
theorem dX6_sayNumber_32 : decode cX6_sayNumber 32 = .ok (.lcmp, 1) := by decide +kernel
theorem dX6_sayNumber_33 : decode cX6_sayNumber 33 = .ok (.ifCond .gt 10, 3) := by decide +kernel
theorem dX6_sayNumber_36 : decode cX6_sayNumber 36 = .ok (.aload_n 0, 1) := by decide +kernel
theorem dX6_sayNumber_37 : decode cX6_sayNumber 37 = .ok (.getfield 193, 3) := by decide +kernel
theorem dX6_sayNumber_40 : decode cX6_sayNumber 40 = .ok (.ifCond .ne 41, 3) := by decide +kernel
theorem dX6_sayNumber_43 : decode cX6_sayNumber 43 = .ok (.aload_n 0, 1) := by decide +kernel
theorem dX6_sayNumber_44 : decode cX6_sayNumber 44 = .ok (.getfield 56, 3) := by decide +kernel
theorem dX6_sayNumber_47 : decode cX6_sayNumber 47 = .ok (.aload_n 0, 1) := by decide +kernel
theorem dX6_sayNumber_48 : decode cX6_sayNumber 48 = .ok (.getfield 193, 3) := by decide +kernel
theorem dX6_sayNumber_51 : decode cX6_sayNumber 51 = .ok (.ldc2_w 196, 3) := by decide +kernel
theorem dX6_sayNumber_54 : decode cX6_sayNumber 54 = .ok (.lload_n 3, 1) := by decide +kernel
theorem dX6_sayNumber_55 : decode cX6_sayNumber 55 = .ok (.ldc2_w 147, 3) := by decide +kernel
theorem dX6_sayNumber_58 : decode cX6_sayNumber 58 = .ok (.lrem, 1) := by decide +kernel
theorem dX6_sayNumber_59 : decode cX6_sayNumber 59 = .ok (.ladd, 1) := by decide +kernel
theorem dX6_sayNumber_60 : decode cX6_sayNumber 60 = .ok (.l2i, 1) := by decide +kernel
theorem dX6_sayNumber_61 : decode cX6_sayNumber 61 = .ok (.iastore, 1) := by decide +kernel
theorem dX6_sayNumber_62 : decode cX6_sayNumber 62 = .ok (.aload_n 0, 1) := by decide +kernel
theorem dX6_sayNumber_63 : decode cX6_sayNumber 63 = .ok (.dup, 1) := by decide +kernel
theorem dX6_sayNumber_64 : decode cX6_sayNumber 64 = .ok (.getfield 193, 3) := by decide +kernel
theorem dX6_sayNumber_67 : decode cX6_sayNumber 67 = .ok (.iconst 1, 1) := by decide +kernel
theorem dX6_sayNumber_68 : decode cX6_sayNumber 68 = .ok (.iadd, 1) := by decide +kernel
theorem dX6_sayNumber_69 : decode cX6_sayNumber 69 = .ok (.putfield 193, 3) := by decide +kernel
theorem dX6_sayNumber_72 : decode cX6_sayNumber 72 = .ok (.lload_n 3, 1) := by decide +kernel
theorem dX6_sayNumber_73 : decode cX6_sayNumber 73 = .ok (.ldc2_w 147, 3) := by decide +kernel
theorem dX6_sayNumber_76 : decode cX6_sayNumber 76 = .ok (.ldiv, 1) := by decide +kernel
theorem dX6_sayNumber_77 : decode cX6_sayNumber 77 = .ok (.lstore_n 3, 1) := by decide +kernel
theorem dX6_sayNumber_78 : decode cX6_sayNumber 78 = .ok (.goto (-48), 3) := by decide +kernel
theorem dX6_sayNumber_81 : decode cX6_sayNumber 81 = .ok (.aload_n 0, 1) := by decide +kernel
theorem dX6_sayNumber_82 : decode cX6_sayNumber 82 = .ok (.getfield 193, 3) := by decide +kernel
theorem dX6_sayNumber_85 : decode cX6_sayNumber 85 = .ok (.ifCond .le 29, 3) := by decide +kernel
theorem dX6_sayNumber_88 : decode cX6_sayNumber 88 = .ok (.aload_n 0, 1) := by decide +kernel
theorem dX6_sayNumber_89 : decode cX6_sayNumber 89 = .ok (.dup, 1) := by decide +kernel
theorem dX6_sayNumber_90 : decode cX6_sayNumber 90 = .ok (.getfield 193, 3) := by decide +kernel
theorem dX6_sayNumber_93 : decode cX6_sayNumber 93 = .ok (.iconst 1, 1) := by decide +kernel
theorem dX6_sayNumber_94 : decode cX6_sayNumber 94 = .ok (.isub, 1) := by decide +kernel
theorem dX6_sayNumber_95 : decode cX6_sayNumber 95 = .ok (.putfield 193, 3) := by decide +kernel
theorem dX6_sayNumber_98 : decode cX6_sayNumber 98 = .ok (.aload_n 0, 1) := by decide +kernel
theorem dX6_sayNumber_99 : decode cX6_sayNumber 99 = .ok (.aload_n 0, 1) := by decide +kernel
theorem dX6_sayNumber_100 : decode cX6_sayNumber 100 = .ok (.getfield 56, 3) := by decide +kernel
theorem dX6_sayNumber_103 : decode cX6_sayNumber 103 = .ok (.aload_n 0, 1) := by decide +kernel
theorem dX6_sayNumber_104 : decode cX6_sayNumber 104 = .ok (.getfield 193, 3) := by decide +kernel
theorem dX6_sayNumber_107 : decode cX6_sayNumber 107 = .ok (.iaload, 1) := by decide +kernel
theorem dX6_sayNumber_108 : decode cX6_sayNumber 108 = .ok (.invokevirtual 189, 3) := by decide +kernel
theorem dX6_sayNumber_111 : decode cX6_sayNumber 111 = .ok (.goto (-30), 3) := by decide +kernel
theorem dX6_sayNumber_114 : decode cX6_sayNumber 114 = .ok (.return_, 1) := by decide +kernel
theorem dX6_sayLength_0 : decode cX6_sayLength 0 = .ok (.lload_n 1, 1) := by decide +kernel
theorem dX6_sayLength_1 : decode cX6_sayLength 1 = .ok (.lconst 0, 1) := by decide +kernel
theorem dX6_sayLength_2 : decode cX6_sayLength 2 = .ok (.lcmp, 1) := by decide +kernel
theorem dX6_sayLength_3 : decode cX6_sayLength 3 = .ok (.ifCond .ge 9, 3) := by decide +kernel
theorem dX6_sayLength_6 : decode cX6_sayLength 6 = .ok (.aload_n 0, 1) := by decide +kernel
theorem dX6_sayLength_7 : decode cX6_sayLength 7 = .ok (.bipush 45, 2) := by decide +kernel
theorem dX6_sayLength_9 : decode cX6_sayLength 9 = .ok (.invokevirtual 189, 3) := by decide +kernel
theorem dX6_sayLength_12 : decode cX6_sayLength 12 = .ok (.lload_n 1, 1) := by decide +kernel
theorem dX6_sayLength_13 : decode cX6_sayLength 13 = .ok (.lconst 0, 1) := by decide +kernel
theorem dX6_sayLength_14 : decode cX6_sayLength 14 = .ok (.lcmp, 1) := by decide +kernel
theorem dX6_sayLength_15 : decode cX6_sayLength 15 = .ok (.ifCond .ge 8, 3) := by decide +kernel
theorem dX6_sayLength_18 : decode cX6_sayLength 18 = .ok (.lload_n 1, 1) := by decide +kernel
theorem dX6_sayLength_19 : decode cX6_sayLength 19 = .ok (.lneg, 1) := by decide +kernel
theorem dX6_sayLength_20 : decode cX6_sayLength 20 = .ok (.goto 4, 3) := by decide +kernel
theorem dX6_sayLength_23 : decode cX6_sayLength 23 = .ok (.lload_n 1, 1) := by decide +kernel
theorem dX6_sayLength_24 : decode cX6_sayLength 24 = .ok (.lstore_n 3, 1) := by decide +kernel
theorem dX6_sayLength_25 : decode cX6_sayLength 25 = .ok (.aload_n 0, 1) := by decide +kernel
theorem dX6_sayLength_26 : decode cX6_sayLength 26 = .ok (.lload_n 3, 1) := by decide +kernel
theorem dX6_sayLength_27 : decode cX6_sayLength 27 = .ok (.ldc2_w 177, 3) := by decide +kernel
theorem dX6_sayLength_30 : decode cX6_sayLength 30 = .ok (.ldiv, 1) := by decide +kernel
theorem dX6_sayLength_31 : decode cX6_sayLength 31 = .ok (.invokevirtual 198, 3) := by decide +kernel
theorem dX6_sayLength_34 : decode cX6_sayLength 34 = .ok (.aload_n 0, 1) := by decide +kernel
theorem dX6_sayLength_35 : decode cX6_sayLength 35 = .ok (.bipush 46, 2) := by decide +kernel
theorem dX6_sayLength_37 : decode cX6_sayLength 37 = .ok (.invokevirtual 189, 3) := by decide +kernel
theorem dX6_sayLength_40 : decode cX6_sayLength 40 = .ok (.ldc2_w 147, 3) := by decide +kernel
theorem dX6_sayLength_43 : decode cX6_sayLength 43 = .ok (.lload_n 3, 1) := by decide +kernel
theorem dX6_sayLength_44 : decode cX6_sayLength 44 = .ok (.ldc2_w 177, 3) := by decide +kernel
theorem dX6_sayLength_47 : decode cX6_sayLength 47 = .ok (.lrem, 1) := by decide +kernel
theorem dX6_sayLength_48 : decode cX6_sayLength 48 = .ok (.lmul, 1) := by decide +kernel
theorem dX6_sayLength_49 : decode cX6_sayLength 49 = .ok (.ldc2_w 202, 3) := by decide +kernel
theorem dX6_sayLength_52 : decode cX6_sayLength 52 = .ok (.ladd, 1) := by decide +kernel
theorem dX6_sayLength_53 : decode cX6_sayLength 53 = .ok (.lstore 5, 2) := by decide +kernel
theorem dX6_sayLength_55 : decode cX6_sayLength 55 = .ok (.ldc2_w 147, 3) := by decide +kernel
theorem dX6_sayLength_58 : decode cX6_sayLength 58 = .ok (.lstore 7, 2) := by decide +kernel
theorem dX6_sayLength_60 : decode cX6_sayLength 60 = .ok (.iconst 1, 1) := by decide +kernel
theorem dX6_sayLength_61 : decode cX6_sayLength 61 = .ok (.istore 9, 2) := by decide +kernel
theorem dX6_sayLength_63 : decode cX6_sayLength 63 = .ok (.iload 9, 2) := by decide +kernel
theorem dX6_sayLength_65 : decode cX6_sayLength 65 = .ok (.ifCond .eq 78, 3) := by decide +kernel
theorem dX6_sayLength_68 : decode cX6_sayLength 68 = .ok (.lload 7, 2) := by decide +kernel
theorem dX6_sayLength_70 : decode cX6_sayLength 70 = .ok (.ldc2_w 177, 3) := by decide +kernel
theorem dX6_sayLength_73 : decode cX6_sayLength 73 = .ok (.lcmp, 1) := by decide +kernel
theorem dX6_sayLength_74 : decode cX6_sayLength 74 = .ok (.ifCond .le 12, 3) := by decide +kernel
theorem dX6_sayLength_77 : decode cX6_sayLength 77 = .ok (.lload 5, 2) := by decide +kernel
theorem dX6_sayLength_79 : decode cX6_sayLength 79 = .ok (.ldc2_w 204, 3) := by decide +kernel
theorem dX6_sayLength_82 : decode cX6_sayLength 82 = .ok (.lsub, 1) := by decide +kernel
theorem dX6_sayLength_83 : decode cX6_sayLength 83 = .ok (.goto 5, 3) := by decide +kernel
theorem dX6_sayLength_86 : decode cX6_sayLength 86 = .ok (.lload 5, 2) := by decide +kernel
theorem dX6_sayLength_88 : decode cX6_sayLength 88 = .ok (.lstore 5, 2) := by decide +kernel
theorem dX6_sayLength_90 : decode cX6_sayLength 90 = .ok (.aload_n 0, 1) := by decide +kernel
theorem dX6_sayLength_91 : decode cX6_sayLength 91 = .ok (.ldc2_w 196, 3) := by decide +kernel
theorem dX6_sayLength_94 : decode cX6_sayLength 94 = .ok (.lload 5, 2) := by decide +kernel
theorem dX6_sayLength_96 : decode cX6_sayLength 96 = .ok (.ldc2_w 177, 3) := by decide +kernel
theorem dX6_sayLength_99 : decode cX6_sayLength 99 = .ok (.ldiv, 1) := by decide +kernel
theorem dX6_sayLength_100 : decode cX6_sayLength 100 = .ok (.ladd, 1) := by decide +kernel
theorem dX6_sayLength_101 : decode cX6_sayLength 101 = .ok (.l2i, 1) := by decide +kernel
theorem dX6_sayLength_102 : decode cX6_sayLength 102 = .ok (.invokevirtual 189, 3) := by decide +kernel
theorem dX6_sayLength_105 : decode cX6_sayLength 105 = .ok (.ldc2_w 147, 3) := by decide +kernel
theorem dX6_sayLength_108 : decode cX6_sayLength 108 = .ok (.lload 5, 2) := by decide +kernel
theorem dX6_sayLength_110 : decode cX6_sayLength 110 = .ok (.ldc2_w 177, 3) := by decide +kernel
theorem dX6_sayLength_113 : decode cX6_sayLength 113 = .ok (.lrem, 1) := by decide +kernel
theorem dX6_sayLength_114 : decode cX6_sayLength 114 = .ok (.lmul, 1) := by decide +kernel
theorem dX6_sayLength_115 : decode cX6_sayLength 115 = .ok (.lstore 5, 2) := by decide +kernel
theorem dX6_sayLength_117 : decode cX6_sayLength 117 = .ok (.ldc2_w 147, 3) := by decide +kernel
theorem dX6_sayLength_120 : decode cX6_sayLength 120 = .ok (.lload 7, 2) := by decide +kernel
theorem dX6_sayLength_122 : decode cX6_sayLength 122 = .ok (.lmul, 1) := by decide +kernel
theorem dX6_sayLength_123 : decode cX6_sayLength 123 = .ok (.lstore 7, 2) := by decide +kernel
theorem dX6_sayLength_125 : decode cX6_sayLength 125 = .ok (.lload 5, 2) := by decide +kernel
theorem dX6_sayLength_127 : decode cX6_sayLength 127 = .ok (.lload 7, 2) := by decide +kernel
theorem dX6_sayLength_129 : decode cX6_sayLength 129 = .ok (.lcmp, 1) := by decide +kernel
theorem dX6_sayLength_130 : decode cX6_sayLength 130 = .ok (.ifCond .le 7, 3) := by decide +kernel
theorem dX6_sayLength_133 : decode cX6_sayLength 133 = .ok (.iconst 1, 1) := by decide +kernel
theorem dX6_sayLength_134 : decode cX6_sayLength 134 = .ok (.goto 4, 3) := by decide +kernel
theorem dX6_sayLength_137 : decode cX6_sayLength 137 = .ok (.iconst 0, 1) := by decide +kernel
theorem dX6_sayLength_138 : decode cX6_sayLength 138 = .ok (.istore 9, 2) := by decide +kernel
theorem dX6_sayLength_140 : decode cX6_sayLength 140 = .ok (.goto (-77), 3) := by decide +kernel
theorem dX6_sayLength_143 : decode cX6_sayLength 143 = .ok (.return_, 1) := by decide +kernel
theorem dX6_sayOrder_0 : decode cX6_sayOrder 0 = .ok (.aload_n 0, 1) := by decide +kernel
theorem dX6_sayOrder_1 : decode cX6_sayOrder 1 = .ok (.lload_n 1, 1) := by decide +kernel
theorem dX6_sayOrder_2 : decode cX6_sayOrder 2 = .ok (.lconst 0, 1) := by decide +kernel
theorem dX6_sayOrder_3 : decode cX6_sayOrder 3 = .ok (.lcmp, 1) := by decide +kernel
theorem dX6_sayOrder_4 : decode cX6_sayOrder 4 = .ok (.ifCond .ne 8, 3) := by decide +kernel
theorem dX6_sayOrder_7 : decode cX6_sayOrder 7 = .ok (.bipush 112, 2) := by decide +kernel
theorem dX6_sayOrder_9 : decode cX6_sayOrder 9 = .ok (.goto 5, 3) := by decide +kernel
theorem dX6_sayOrder_12 : decode cX6_sayOrder 12 = .ok (.bipush 102, 2) := by decide +kernel
theorem dX6_sayOrder_14 : decode cX6_sayOrder 14 = .ok (.invokevirtual 189, 3) := by decide +kernel
theorem dX6_sayOrder_17 : decode cX6_sayOrder 17 = .ok (.aload_n 0, 1) := by decide +kernel
theorem dX6_sayOrder_18 : decode cX6_sayOrder 18 = .ok (.lload_n 1, 1) := by decide +kernel
theorem dX6_sayOrder_19 : decode cX6_sayOrder 19 = .ok (.lconst 0, 1) := by decide +kernel
theorem dX6_sayOrder_20 : decode cX6_sayOrder 20 = .ok (.lcmp, 1) := by decide +kernel
theorem dX6_sayOrder_21 : decode cX6_sayOrder 21 = .ok (.ifCond .ne 8, 3) := by decide +kernel
theorem dX6_sayOrder_24 : decode cX6_sayOrder 24 = .ok (.bipush 116, 2) := by decide +kernel
theorem dX6_sayOrder_26 : decode cX6_sayOrder 26 = .ok (.goto 5, 3) := by decide +kernel
theorem dX6_sayOrder_29 : decode cX6_sayOrder 29 = .ok (.bipush 105, 2) := by decide +kernel
theorem dX6_sayOrder_31 : decode cX6_sayOrder 31 = .ok (.invokevirtual 189, 3) := by decide +kernel
theorem dX6_sayOrder_34 : decode cX6_sayOrder 34 = .ok (.iconst 0, 1) := by decide +kernel
theorem dX6_sayOrder_35 : decode cX6_sayOrder 35 = .ok (.istore_n 3, 1) := by decide +kernel
theorem dX6_sayOrder_36 : decode cX6_sayOrder 36 = .ok (.iload_n 3, 1) := by decide +kernel
theorem dX6_sayOrder_37 : decode cX6_sayOrder 37 = .ok (.i2l, 1) := by decide +kernel
theorem dX6_sayOrder_38 : decode cX6_sayOrder 38 = .ok (.lload_n 1, 1) := by decide +kernel
theorem dX6_sayOrder_39 : decode cX6_sayOrder 39 = .ok (.lcmp, 1) := by decide +kernel
theorem dX6_sayOrder_40 : decode cX6_sayOrder 40 = .ok (.ifCond .ge 15, 3) := by decide +kernel
theorem dX6_sayOrder_43 : decode cX6_sayOrder 43 = .ok (.aload_n 0, 1) := by decide +kernel
theorem dX6_sayOrder_44 : decode cX6_sayOrder 44 = .ok (.bipush 108, 2) := by decide +kernel
theorem dX6_sayOrder_46 : decode cX6_sayOrder 46 = .ok (.invokevirtual 189, 3) := by decide +kernel
theorem dX6_sayOrder_49 : decode cX6_sayOrder 49 = .ok (.iinc 3 1, 3) := by decide +kernel
theorem dX6_sayOrder_52 : decode cX6_sayOrder 52 = .ok (.goto (-16), 3) := by decide +kernel
theorem dX6_sayOrder_55 : decode cX6_sayOrder 55 = .ok (.return_, 1) := by decide +kernel
theorem dX6_sayWord_0 : decode cX6_sayWord 0 = .ok (.aload_n 0, 1) := by decide +kernel
theorem dX6_sayWord_1 : decode cX6_sayWord 1 = .ok (.bipush 32, 2) := by decide +kernel
theorem dX6_sayWord_3 : decode cX6_sayWord 3 = .ok (.invokevirtual 189, 3) := by decide +kernel
theorem dX6_sayWord_6 : decode cX6_sayWord 6 = .ok (.aload_n 0, 1) := by decide +kernel
theorem dX6_sayWord_7 : decode cX6_sayWord 7 = .ok (.iload_n 1, 1) := by decide +kernel
theorem dX6_sayWord_8 : decode cX6_sayWord 8 = .ok (.ifCond .eq 8, 3) := by decide +kernel
theorem dX6_sayWord_11 : decode cX6_sayWord 11 = .ok (.bipush 112, 2) := by decide +kernel
theorem dX6_sayWord_13 : decode cX6_sayWord 13 = .ok (.goto 5, 3) := by decide +kernel
theorem dX6_sayWord_16 : decode cX6_sayWord 16 = .ok (.bipush 109, 2) := by decide +kernel
theorem dX6_sayWord_18 : decode cX6_sayWord 18 = .ok (.invokevirtual 189, 3) := by decide +kernel
theorem dX6_sayWord_21 : decode cX6_sayWord 21 = .ok (.aload_n 0, 1) := by decide +kernel
theorem dX6_sayWord_22 : decode cX6_sayWord 22 = .ok (.iload_n 1, 1) := by decide +kernel
theorem dX6_sayWord_23 : decode cX6_sayWord 23 = .ok (.ifCond .eq 8, 3) := by decide +kernel
theorem dX6_sayWord_26 : decode cX6_sayWord 26 = .ok (.bipush 108, 2) := by decide +kernel
theorem dX6_sayWord_28 : decode cX6_sayWord 28 = .ok (.goto 5, 3) := by decide +kernel
theorem dX6_sayWord_31 : decode cX6_sayWord 31 = .ok (.bipush 105, 2) := by decide +kernel
theorem dX6_sayWord_33 : decode cX6_sayWord 33 = .ok (.invokevirtual 189, 3) := by decide +kernel
theorem dX6_sayWord_36 : decode cX6_sayWord 36 = .ok (.aload_n 0, 1) := by decide +kernel
theorem dX6_sayWord_37 : decode cX6_sayWord 37 = .ok (.iload_n 1, 1) := by decide +kernel
theorem dX6_sayWord_38 : decode cX6_sayWord 38 = .ok (.ifCond .eq 8, 3) := by decide +kernel
theorem dX6_sayWord_41 : decode cX6_sayWord 41 = .ok (.bipush 117, 2) := by decide +kernel
theorem dX6_sayWord_43 : decode cX6_sayWord 43 = .ok (.goto 5, 3) := by decide +kernel
theorem dX6_sayWord_46 : decode cX6_sayWord 46 = .ok (.bipush 110, 2) := by decide +kernel
theorem dX6_sayWord_48 : decode cX6_sayWord 48 = .ok (.invokevirtual 189, 3) := by decide +kernel
theorem dX6_sayWord_51 : decode cX6_sayWord 51 = .ok (.aload_n 0, 1) := by decide +kernel
theorem dX6_sayWord_52 : decode cX6_sayWord 52 = .ok (.iload_n 1, 1) := by decide +kernel
theorem dX6_sayWord_53 : decode cX6_sayWord 53 = .ok (.ifCond .eq 8, 3) := by decide +kernel
theorem dX6_sayWord_56 : decode cX6_sayWord 56 = .ok (.bipush 115, 2) := by decide +kernel
theorem dX6_sayWord_58 : decode cX6_sayWord 58 = .ok (.goto 5, 3) := by decide +kernel
theorem dX6_sayWord_61 : decode cX6_sayWord 61 = .ok (.bipush 117, 2) := by decide +kernel
theorem dX6_sayWord_63 : decode cX6_sayWord 63 = .ok (.invokevirtual 189, 3) := by decide +kernel
theorem dX6_sayWord_66 : decode cX6_sayWord 66 = .ok (.iload_n 1, 1) := by decide +kernel
theorem dX6_sayWord_67 : decode cX6_sayWord 67 = .ok (.ifCond .ne 9, 3) := by decide +kernel
theorem dX6_sayWord_70 : decode cX6_sayWord 70 = .ok (.aload_n 0, 1) := by decide +kernel
theorem dX6_sayWord_71 : decode cX6_sayWord 71 = .ok (.bipush 115, 2) := by decide +kernel
theorem dX6_sayWord_73 : decode cX6_sayWord 73 = .ok (.invokevirtual 189, 3) := by decide +kernel
theorem dX6_sayWord_76 : decode cX6_sayWord 76 = .ok (.aload_n 0, 1) := by decide +kernel
theorem dX6_sayWord_77 : decode cX6_sayWord 77 = .ok (.bipush 32, 2) := by decide +kernel
theorem dX6_sayWord_79 : decode cX6_sayWord 79 = .ok (.invokevirtual 189, 3) := by decide +kernel
theorem dX6_sayWord_82 : decode cX6_sayWord 82 = .ok (.return_, 1) := by decide +kernel
theorem dX6_sayGlue_0 : decode cX6_sayGlue 0 = .ok (.aload_n 0, 1) := by decide +kernel
theorem dX6_sayGlue_1 : decode cX6_sayGlue 1 = .ok (.aload_n 0, 1) := by decide +kernel
theorem dX6_sayGlue_2 : decode cX6_sayGlue 2 = .ok (.getfield 7, 3) := by decide +kernel
theorem dX6_sayGlue_5 : decode cX6_sayGlue 5 = .ok (.iload_n 1, 1) := by decide +kernel
theorem dX6_sayGlue_6 : decode cX6_sayGlue 6 = .ok (.laload, 1) := by decide +kernel
theorem dX6_sayGlue_7 : decode cX6_sayGlue 7 = .ok (.invokevirtual 206, 3) := by decide +kernel
theorem dX6_sayGlue_10 : decode cX6_sayGlue 10 = .ok (.aload_n 0, 1) := by decide +kernel
theorem dX6_sayGlue_11 : decode cX6_sayGlue 11 = .ok (.lconst 0, 1) := by decide +kernel
theorem dX6_sayGlue_12 : decode cX6_sayGlue 12 = .ok (.invokevirtual 209, 3) := by decide +kernel
theorem dX6_sayGlue_15 : decode cX6_sayGlue 15 = .ok (.iconst 1, 1) := by decide +kernel
theorem dX6_sayGlue_16 : decode cX6_sayGlue 16 = .ok (.istore_n 2, 1) := by decide +kernel
theorem dX6_sayGlue_17 : decode cX6_sayGlue 17 = .ok (.iload_n 2, 1) := by decide +kernel
theorem dX6_sayGlue_18 : decode cX6_sayGlue 18 = .ok (.iconst 4, 1) := by decide +kernel
theorem dX6_sayGlue_19 : decode cX6_sayGlue 19 = .ok (.if_icmp .ge 62, 3) := by decide +kernel
theorem dX6_sayGlue_22 : decode cX6_sayGlue 22 = .ok (.aload_n 0, 1) := by decide +kernel
theorem dX6_sayGlue_23 : decode cX6_sayGlue 23 = .ok (.getfield 7, 3) := by decide +kernel
theorem dX6_sayGlue_26 : decode cX6_sayGlue 26 = .ok (.iload_n 1, 1) := by decide +kernel
theorem dX6_sayGlue_27 : decode cX6_sayGlue 27 = .ok (.iload_n 2, 1) := by decide +kernel
theorem dX6_sayGlue_28 : decode cX6_sayGlue 28 = .ok (.iadd, 1) := by decide +kernel
theorem dX6_sayGlue_29 : decode cX6_sayGlue 29 = .ok (.laload, 1) := by decide +kernel
theorem dX6_sayGlue_30 : decode cX6_sayGlue 30 = .ok (.lconst 0, 1) := by decide +kernel
theorem dX6_sayGlue_31 : decode cX6_sayGlue 31 = .ok (.lcmp, 1) := by decide +kernel
theorem dX6_sayGlue_32 : decode cX6_sayGlue 32 = .ok (.ifCond .eq 43, 3) := by decide +kernel
theorem dX6_sayGlue_35 : decode cX6_sayGlue 35 = .ok (.aload_n 0, 1) := by decide +kernel
theorem dX6_sayGlue_36 : decode cX6_sayGlue 36 = .ok (.iload_n 2, 1) := by decide +kernel
theorem dX6_sayGlue_37 : decode cX6_sayGlue 37 = .ok (.iconst 1, 1) := by decide +kernel
theorem dX6_sayGlue_38 : decode cX6_sayGlue 38 = .ok (.if_icmp .ne 7, 3) := by decide +kernel
theorem dX6_sayGlue_41 : decode cX6_sayGlue 41 = .ok (.iconst 1, 1) := by decide +kernel
theorem dX6_sayGlue_42 : decode cX6_sayGlue 42 = .ok (.goto 4, 3) := by decide +kernel
theorem dX6_sayGlue_45 : decode cX6_sayGlue 45 = .ok (.iconst 0, 1) := by decide +kernel
theorem dX6_sayGlue_46 : decode cX6_sayGlue 46 = .ok (.invokevirtual 212, 3) := by decide +kernel
theorem dX6_sayGlue_49 : decode cX6_sayGlue 49 = .ok (.aload_n 0, 1) := by decide +kernel
theorem dX6_sayGlue_50 : decode cX6_sayGlue 50 = .ok (.aload_n 0, 1) := by decide +kernel
theorem dX6_sayGlue_51 : decode cX6_sayGlue 51 = .ok (.getfield 7, 3) := by decide +kernel
theorem dX6_sayGlue_54 : decode cX6_sayGlue 54 = .ok (.iload_n 1, 1) := by decide +kernel
theorem dX6_sayGlue_55 : decode cX6_sayGlue 55 = .ok (.iload_n 2, 1) := by decide +kernel
theorem dX6_sayGlue_56 : decode cX6_sayGlue 56 = .ok (.iadd, 1) := by decide +kernel
theorem dX6_sayGlue_57 : decode cX6_sayGlue 57 = .ok (.laload, 1) := by decide +kernel
theorem dX6_sayGlue_58 : decode cX6_sayGlue 58 = .ok (.invokevirtual 206, 3) := by decide +kernel
theorem dX6_sayGlue_61 : decode cX6_sayGlue 61 = .ok (.aload_n 0, 1) := by decide +kernel
theorem dX6_sayGlue_62 : decode cX6_sayGlue 62 = .ok (.aload_n 0, 1) := by decide +kernel
theorem dX6_sayGlue_63 : decode cX6_sayGlue 63 = .ok (.getfield 7, 3) := by decide +kernel
theorem dX6_sayGlue_66 : decode cX6_sayGlue 66 = .ok (.iload_n 1, 1) := by decide +kernel
theorem dX6_sayGlue_67 : decode cX6_sayGlue 67 = .ok (.iload_n 2, 1) := by decide +kernel
theorem dX6_sayGlue_68 : decode cX6_sayGlue 68 = .ok (.iadd, 1) := by decide +kernel
theorem dX6_sayGlue_69 : decode cX6_sayGlue 69 = .ok (.iconst 1, 1) := by decide +kernel
theorem dX6_sayGlue_70 : decode cX6_sayGlue 70 = .ok (.iadd, 1) := by decide +kernel
theorem dX6_sayGlue_71 : decode cX6_sayGlue 71 = .ok (.laload, 1) := by decide +kernel
theorem dX6_sayGlue_72 : decode cX6_sayGlue 72 = .ok (.invokevirtual 209, 3) := by decide +kernel
theorem dX6_sayGlue_75 : decode cX6_sayGlue 75 = .ok (.iinc 2 2, 3) := by decide +kernel
theorem dX6_sayGlue_78 : decode cX6_sayGlue 78 = .ok (.goto (-61), 3) := by decide +kernel
theorem dX6_sayGlue_81 : decode cX6_sayGlue 81 = .ok (.return_, 1) := by decide +kernel
theorem dX6_sayVoid_0 : decode cX6_sayVoid 0 = .ok (.aload_n 0, 1) := by decide +kernel
theorem dX6_sayVoid_1 : decode cX6_sayVoid 1 = .ok (.bipush 118, 2) := by decide +kernel
theorem dX6_sayVoid_3 : decode cX6_sayVoid 3 = .ok (.invokevirtual 189, 3) := by decide +kernel
theorem dX6_sayVoid_6 : decode cX6_sayVoid 6 = .ok (.aload_n 0, 1) := by decide +kernel
theorem dX6_sayVoid_7 : decode cX6_sayVoid 7 = .ok (.bipush 111, 2) := by decide +kernel
theorem dX6_sayVoid_9 : decode cX6_sayVoid 9 = .ok (.invokevirtual 189, 3) := by decide +kernel
theorem dX6_sayVoid_12 : decode cX6_sayVoid 12 = .ok (.aload_n 0, 1) := by decide +kernel
theorem dX6_sayVoid_13 : decode cX6_sayVoid 13 = .ok (.bipush 105, 2) := by decide +kernel
theorem dX6_sayVoid_15 : decode cX6_sayVoid 15 = .ok (.invokevirtual 189, 3) := by decide +kernel
theorem dX6_sayVoid_18 : decode cX6_sayVoid 18 = .ok (.aload_n 0, 1) := by decide +kernel
theorem dX6_sayVoid_19 : decode cX6_sayVoid 19 = .ok (.bipush 100, 2) := by decide +kernel
theorem dX6_sayVoid_21 : decode cX6_sayVoid 21 = .ok (.invokevirtual 189, 3) := by decide +kernel
theorem dX6_sayVoid_24 : decode cX6_sayVoid 24 = .ok (.return_, 1) := by decide +kernel
theorem dX6_shown_0 : decode cX6_shown 0 = .ok (.aload_n 0, 1) := by decide +kernel
theorem dX6_shown_1 : decode cX6_shown 1 = .ok (.iload_n 1, 1) := by decide +kernel
theorem dX6_shown_2 : decode cX6_shown 2 = .ok (.invokestatic 109, 3) := by decide +kernel
theorem dX6_shown_5 : decode cX6_shown 5 = .ok (.ifCond .ne 7, 3) := by decide +kernel
theorem dX6_shown_8 : decode cX6_shown 8 = .ok (.iconst 1, 1) := by decide +kernel
theorem dX6_shown_9 : decode cX6_shown 9 = .ok (.goto 15, 3) := by decide +kernel
theorem dX6_shown_12 : decode cX6_shown 12 = .ok (.iload_n 2, 1) := by decide +kernel
theorem dX6_shown_13 : decode cX6_shown 13 = .ok (.invokestatic 114, 3) := by decide +kernel
theorem dX6_shown_16 : decode cX6_shown 16 = .ok (.ifCond .ne 7, 3) := by decide +kernel
theorem dX6_shown_19 : decode cX6_shown 19 = .ok (.iconst 2, 1) := by decide +kernel
theorem dX6_shown_20 : decode cX6_shown 20 = .ok (.goto 4, 3) := by decide +kernel
theorem dX6_shown_23 : decode cX6_shown 23 = .ok (.iconst 0, 1) := by decide +kernel
theorem dX6_shown_24 : decode cX6_shown 24 = .ok (.putfield 61, 3) := by decide +kernel
theorem dX6_shown_27 : decode cX6_shown 27 = .ok (.aload_n 0, 1) := by decide +kernel
theorem dX6_shown_28 : decode cX6_shown 28 = .ok (.getfield 61, 3) := by decide +kernel
theorem dX6_shown_31 : decode cX6_shown 31 = .ok (.ifCond .le 5, 3) := by decide +kernel
theorem dX6_shown_34 : decode cX6_shown 34 = .ok (.iconst 0, 1) := by decide +kernel
theorem dX6_shown_35 : decode cX6_shown 35 = .ok (.ireturn, 1) := by decide +kernel
theorem dX6_shown_36 : decode cX6_shown 36 = .ok (.aload_n 0, 1) := by decide +kernel
theorem dX6_shown_37 : decode cX6_shown 37 = .ok (.iconst 0, 1) := by decide +kernel
theorem dX6_shown_38 : decode cX6_shown 38 = .ok (.putfield 186, 3) := by decide +kernel
theorem dX6_shown_41 : decode cX6_shown 41 = .ok (.bipush 21, 2) := by decide +kernel
theorem dX6_shown_43 : decode cX6_shown 43 = .ok (.bipush 32, 2) := by decide +kernel
theorem dX6_shown_45 : decode cX6_shown 45 = .ok (.iload_n 1, 1) := by decide +kernel
theorem dX6_shown_46 : decode cX6_shown 46 = .ok (.imul, 1) := by decide +kernel
theorem dX6_shown_47 : decode cX6_shown 47 = .ok (.iload_n 2, 1) := by decide +kernel
theorem dX6_shown_48 : decode cX6_shown 48 = .ok (.iadd, 1) := by decide +kernel
theorem dX6_shown_49 : decode cX6_shown 49 = .ok (.imul, 1) := by decide +kernel
theorem dX6_shown_50 : decode cX6_shown 50 = .ok (.istore 4, 2) := by decide +kernel
theorem dX6_shown_52 : decode cX6_shown 52 = .ok (.iload_n 1, 1) := by decide +kernel
theorem dX6_shown_53 : decode cX6_shown 53 = .ok (.iconst 1, 1) := by decide +kernel
theorem dX6_shown_54 : decode cX6_shown 54 = .ok (.if_icmp .ne 17, 3) := by decide +kernel
theorem dX6_shown_57 : decode cX6_shown 57 = .ok (.aload_n 0, 1) := by decide +kernel
theorem dX6_shown_58 : decode cX6_shown 58 = .ok (.aload_n 0, 1) := by decide +kernel
theorem dX6_shown_59 : decode cX6_shown 59 = .ok (.getfield 7, 3) := by decide +kernel
theorem dX6_shown_62 : decode cX6_shown 62 = .ok (.iload 4, 2) := by decide +kernel
theorem dX6_shown_64 : decode cX6_shown 64 = .ok (.laload, 1) := by decide +kernel
theorem dX6_shown_65 : decode cX6_shown 65 = .ok (.invokevirtual 206, 3) := by decide +kernel
theorem dX6_shown_68 : decode cX6_shown 68 = .ok (.goto 100, 3) := by decide +kernel
theorem dX6_shown_71 : decode cX6_shown 71 = .ok (.iload_n 1, 1) := by decide +kernel
theorem dX6_shown_72 : decode cX6_shown 72 = .ok (.iconst 2, 1) := by decide +kernel
theorem dX6_shown_73 : decode cX6_shown 73 = .ok (.if_icmp .ne 12, 3) := by decide +kernel
theorem dX6_shown_76 : decode cX6_shown 76 = .ok (.aload_n 0, 1) := by decide +kernel
theorem dX6_shown_77 : decode cX6_shown 77 = .ok (.iload 4, 2) := by decide +kernel
theorem dX6_shown_79 : decode cX6_shown 79 = .ok (.invokevirtual 216, 3) := by decide +kernel
theorem dX6_shown_82 : decode cX6_shown 82 = .ok (.goto 86, 3) := by decide +kernel
theorem dX6_shown_85 : decode cX6_shown 85 = .ok (.iload_n 1, 1) := by decide +kernel
theorem dX6_shown_86 : decode cX6_shown 86 = .ok (.iconst 3, 1) := by decide +kernel
theorem dX6_shown_87 : decode cX6_shown 87 = .ok (.if_icmp .ne 46, 3) := by decide +kernel
theorem dX6_shown_90 : decode cX6_shown 90 = .ok (.iconst 0, 1) := by decide +kernel
theorem dX6_shown_91 : decode cX6_shown 91 = .ok (.istore 5, 2) := by decide +kernel
theorem dX6_shown_93 : decode cX6_shown 93 = .ok (.iload 5, 2) := by decide +kernel
theorem dX6_shown_95 : decode cX6_shown 95 = .ok (.i2l, 1) := by decide +kernel
theorem dX6_shown_96 : decode cX6_shown 96 = .ok (.aload_n 0, 1) := by decide +kernel
theorem dX6_shown_97 : decode cX6_shown 97 = .ok (.getfield 7, 3) := by decide +kernel
theorem dX6_shown_100 : decode cX6_shown 100 = .ok (.iload 4, 2) := by decide +kernel
theorem dX6_shown_102 : decode cX6_shown 102 = .ok (.laload, 1) := by decide +kernel
theorem dX6_shown_103 : decode cX6_shown 103 = .ok (.lcmp, 1) := by decide +kernel
theorem dX6_shown_104 : decode cX6_shown 104 = .ok (.ifCond .ge 26, 3) := by decide +kernel
theorem dX6_shown_107 : decode cX6_shown 107 = .ok (.aload_n 0, 1) := by decide +kernel
theorem dX6_shown_108 : decode cX6_shown 108 = .ok (.aload_n 0, 1) := by decide +kernel
theorem dX6_shown_109 : decode cX6_shown 109 = .ok (.getfield 7, 3) := by decide +kernel
theorem dX6_shown_112 : decode cX6_shown 112 = .ok (.iload 4, 2) := by decide +kernel
theorem dX6_shown_114 : decode cX6_shown 114 = .ok (.iconst 1, 1) := by decide +kernel
theorem dX6_shown_115 : decode cX6_shown 115 = .ok (.iadd, 1) := by decide +kernel
theorem dX6_shown_116 : decode cX6_shown 116 = .ok (.iload 5, 2) := by decide +kernel
theorem dX6_shown_118 : decode cX6_shown 118 = .ok (.iadd, 1) := by decide +kernel
theorem dX6_shown_119 : decode cX6_shown 119 = .ok (.laload, 1) := by decide +kernel
theorem dX6_shown_120 : decode cX6_shown 120 = .ok (.l2i, 1) := by decide +kernel
theorem dX6_shown_121 : decode cX6_shown 121 = .ok (.invokevirtual 189, 3) := by decide +kernel
theorem dX6_shown_124 : decode cX6_shown 124 = .ok (.iinc 5 1, 3) := by decide +kernel
theorem dX6_shown_127 : decode cX6_shown 127 = .ok (.goto (-34), 3) := by decide +kernel
theorem dX6_shown_130 : decode cX6_shown 130 = .ok (.goto 38, 3) := by decide +kernel
theorem dX6_shown_133 : decode cX6_shown 133 = .ok (.iload_n 1, 1) := by decide +kernel
theorem dX6_shown_134 : decode cX6_shown 134 = .ok (.iconst 4, 1) := by decide +kernel
theorem dX6_shown_135 : decode cX6_shown 135 = .ok (.if_icmp .ne 22, 3) := by decide +kernel
theorem dX6_shown_138 : decode cX6_shown 138 = .ok (.aload_n 0, 1) := by decide +kernel
theorem dX6_shown_139 : decode cX6_shown 139 = .ok (.getfield 7, 3) := by decide +kernel
theorem dX6_shown_142 : decode cX6_shown 142 = .ok (.iload 4, 2) := by decide +kernel
theorem dX6_shown_144 : decode cX6_shown 144 = .ok (.laload, 1) := by decide +kernel
theorem dX6_shown_145 : decode cX6_shown 145 = .ok (.lconst 0, 1) := by decide +kernel
theorem dX6_shown_146 : decode cX6_shown 146 = .ok (.lcmp, 1) := by decide +kernel
theorem dX6_shown_147 : decode cX6_shown 147 = .ok (.ifCond .ge 10, 3) := by decide +kernel
theorem dX6_shown_150 : decode cX6_shown 150 = .ok (.aload_n 0, 1) := by decide +kernel
theorem dX6_shown_151 : decode cX6_shown 151 = .ok (.invokevirtual 219, 3) := by decide +kernel
theorem dX6_shown_154 : decode cX6_shown 154 = .ok (.goto 14, 3) := by decide +kernel
theorem dX6_shown_157 : decode cX6_shown 157 = .ok (.aload_n 0, 1) := by decide +kernel
theorem dX6_shown_158 : decode cX6_shown 158 = .ok (.aload_n 0, 1) := by decide +kernel
theorem dX6_shown_159 : decode cX6_shown 159 = .ok (.getfield 7, 3) := by decide +kernel
theorem dX6_shown_162 : decode cX6_shown 162 = .ok (.iload 4, 2) := by decide +kernel
theorem dX6_shown_164 : decode cX6_shown 164 = .ok (.laload, 1) := by decide +kernel
theorem dX6_shown_165 : decode cX6_shown 165 = .ok (.invokevirtual 198, 3) := by decide +kernel
theorem dX6_shown_168 : decode cX6_shown 168 = .ok (.iload_n 3, 1) := by decide +kernel
theorem dX6_shown_169 : decode cX6_shown 169 = .ok (.ifCond .lt 20, 3) := by decide +kernel
theorem dX6_shown_172 : decode cX6_shown 172 = .ok (.iload_n 3, 1) := by decide +kernel
theorem dX6_shown_173 : decode cX6_shown 173 = .ok (.aload_n 0, 1) := by decide +kernel
theorem dX6_shown_174 : decode cX6_shown 174 = .ok (.getfield 186, 3) := by decide +kernel
theorem dX6_shown_177 : decode cX6_shown 177 = .ok (.if_icmp .ge 12, 3) := by decide +kernel
theorem dX6_shown_180 : decode cX6_shown 180 = .ok (.aload_n 0, 1) := by decide +kernel
theorem dX6_shown_181 : decode cX6_shown 181 = .ok (.getfield 53, 3) := by decide +kernel
theorem dX6_shown_184 : decode cX6_shown 184 = .ok (.iload_n 3, 1) := by decide +kernel
theorem dX6_shown_185 : decode cX6_shown 185 = .ok (.iaload, 1) := by decide +kernel
theorem dX6_shown_186 : decode cX6_shown 186 = .ok (.goto 4, 3) := by decide +kernel
theorem dX6_shown_189 : decode cX6_shown 189 = .ok (.iconst (-1), 1) := by decide +kernel
theorem dX6_shown_190 : decode cX6_shown 190 = .ok (.ireturn, 1) := by decide +kernel
theorem dJ0_length_8abf5_0 : decode cJ0_length_8abf5 0 = .ok (.aload_n 0, 1) := by decide +kernel
theorem dJ0_length_8abf5_1 : decode cJ0_length_8abf5 1 = .ok (.getfield 9, 3) := by decide +kernel
theorem dJ0_length_8abf5_4 : decode cJ0_length_8abf5 4 = .ok (.arraylength, 1) := by decide +kernel
theorem dJ0_length_8abf5_5 : decode cJ0_length_8abf5 5 = .ok (.aload_n 0, 1) := by decide +kernel
theorem dJ0_length_8abf5_6 : decode cJ0_length_8abf5 6 = .ok (.invokevirtual 335, 3) := by decide +kernel
theorem dJ0_length_8abf5_9 : decode cJ0_length_8abf5 9 = .ok (.ishr, 1) := by decide +kernel
theorem dJ0_length_8abf5_10 : decode cJ0_length_8abf5 10 = .ok (.ireturn, 1) := by decide +kernel
theorem dJ0_charAt_5068e_0 : decode cJ0_charAt_5068e 0 = .ok (.aload_n 0, 1) := by decide +kernel
theorem dJ0_charAt_5068e_1 : decode cJ0_charAt_5068e 1 = .ok (.invokevirtual 492, 3) := by decide +kernel
theorem dJ0_charAt_5068e_4 : decode cJ0_charAt_5068e 4 = .ok (.ifCond .eq 12, 3) := by decide +kernel
theorem dJ0_charAt_5068e_7 : decode cJ0_charAt_5068e 7 = .ok (.aload_n 0, 1) := by decide +kernel
theorem dJ0_charAt_5068e_8 : decode cJ0_charAt_5068e 8 = .ok (.getfield 9, 3) := by decide +kernel
theorem dJ0_charAt_5068e_11 : decode cJ0_charAt_5068e 11 = .ok (.iload_n 1, 1) := by decide +kernel
theorem dJ0_charAt_5068e_12 : decode cJ0_charAt_5068e 12 = .ok (.invokestatic 495, 3) := by decide +kernel
theorem dJ0_charAt_5068e_15 : decode cJ0_charAt_5068e 15 = .ok (.ireturn, 1) := by decide +kernel
theorem dJ0_charAt_5068e_16 : decode cJ0_charAt_5068e 16 = .ok (.aload_n 0, 1) := by decide +kernel
theorem dJ0_charAt_5068e_17 : decode cJ0_charAt_5068e 17 = .ok (.getfield 9, 3) := by decide +kernel
theorem dJ0_charAt_5068e_20 : decode cJ0_charAt_5068e 20 = .ok (.iload_n 1, 1) := by decide +kernel
theorem dJ0_charAt_5068e_21 : decode cJ0_charAt_5068e 21 = .ok (.invokestatic 498, 3) := by decide +kernel
theorem dJ0_charAt_5068e_24 : decode cJ0_charAt_5068e 24 = .ok (.ireturn, 1) := by decide +kernel
theorem dJ0_coder_7d493_0 : decode cJ0_coder_7d493 0 = .ok (.getstatic 38, 3) := by decide +kernel
theorem dJ0_coder_7d493_3 : decode cJ0_coder_7d493 3 = .ok (.ifCond .eq 10, 3) := by decide +kernel
theorem dJ0_coder_7d493_6 : decode cJ0_coder_7d493 6 = .ok (.aload_n 0, 1) := by decide +kernel
theorem dJ0_coder_7d493_7 : decode cJ0_coder_7d493 7 = .ok (.getfield 15, 3) := by decide +kernel
theorem dJ0_coder_7d493_10 : decode cJ0_coder_7d493 10 = .ok (.goto 4, 3) := by decide +kernel
theorem dJ0_coder_7d493_13 : decode cJ0_coder_7d493 13 = .ok (.iconst 1, 1) := by decide +kernel
theorem dJ0_coder_7d493_14 : decode cJ0_coder_7d493 14 = .ok (.ireturn, 1) := by decide +kernel
theorem dJ0_isLatin1_aae02_0 : decode cJ0_isLatin1_aae02 0 = .ok (.getstatic 38, 3) := by decide +kernel
theorem dJ0_isLatin1_aae02_3 : decode cJ0_isLatin1_aae02 3 = .ok (.ifCond .eq 14, 3) := by decide +kernel
theorem dJ0_isLatin1_aae02_6 : decode cJ0_isLatin1_aae02 6 = .ok (.aload_n 0, 1) := by decide +kernel
theorem dJ0_isLatin1_aae02_7 : decode cJ0_isLatin1_aae02 7 = .ok (.getfield 15, 3) := by decide +kernel
theorem dJ0_isLatin1_aae02_10 : decode cJ0_isLatin1_aae02 10 = .ok (.ifCond .ne 7, 3) := by decide +kernel
theorem dJ0_isLatin1_aae02_13 : decode cJ0_isLatin1_aae02 13 = .ok (.iconst 1, 1) := by decide +kernel
theorem dJ0_isLatin1_aae02_14 : decode cJ0_isLatin1_aae02 14 = .ok (.goto 4, 3) := by decide +kernel
theorem dJ0_isLatin1_aae02_17 : decode cJ0_isLatin1_aae02 17 = .ok (.iconst 0, 1) := by decide +kernel
theorem dJ0_isLatin1_aae02_18 : decode cJ0_isLatin1_aae02 18 = .ok (.ireturn, 1) := by decide +kernel
theorem dJ0_checkIndex_df160_0 : decode cJ0_checkIndex_df160 0 = .ok (.iload_n 0, 1) := by decide +kernel
theorem dJ0_checkIndex_df160_1 : decode cJ0_checkIndex_df160 1 = .ok (.iload_n 1, 1) := by decide +kernel
theorem dJ0_checkIndex_df160_2 : decode cJ0_checkIndex_df160 2 = .ok (.getstatic 1053, 3) := by decide +kernel
theorem dJ0_checkIndex_df160_5 : decode cJ0_checkIndex_df160 5 = .ok (.invokestatic 1059, 3) := by decide +kernel
theorem dJ0_checkIndex_df160_8 : decode cJ0_checkIndex_df160 8 = .ok (.pop, 1) := by decide +kernel
theorem dJ0_checkIndex_df160_9 : decode cJ0_checkIndex_df160 9 = .ok (.return_, 1) := by decide +kernel
