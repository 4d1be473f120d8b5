theorem dX4_readStands_0 : decode cX4_readStands 0 = .ok (.aload_n 0, 1) := by decide +kernel
theorem dX4_readStands_1 : decode cX4_readStands 1 = .ok (.iconst 0, 1) := by decide +kernel
theorem dX4_readStands_2 : decode cX4_readStands 2 = .ok (.aload_n 0, 1) := by decide +kernel
theorem dX4_readStands_3 : decode cX4_readStands 3 = .ok (.getfield 18, 3) := by decide +kernel
theorem dX4_readStands_6 : decode cX4_readStands 6 = .ok (.getfield 48, 3) := by decide +kernel
theorem dX4_readStands_9 : decode cX4_readStands 9 = .ok (.iconst 1, 1) := by decide +kernel
theorem dX4_readStands_10 : decode cX4_readStands 10 = .ok (.isub, 1) := by decide +kernel
theorem dX4_readStands_11 : decode cX4_readStands 11 = .ok (.invokevirtual 57, 3) := by decide +kernel
theorem dX4_readStands_14 : decode cX4_readStands 14 = .ok (.ifCond .ne 5, 3) := by decide +kernel
theorem dX4_readStands_17 : decode cX4_readStands 17 = .ok (.iconst 0, 1) := by decide +kernel
theorem dX4_readStands_18 : decode cX4_readStands 18 = .ok (.ireturn, 1) := by decide +kernel
theorem dX4_readStands_19 : decode cX4_readStands 19 = .ok (.aload_n 0, 1) := by decide +kernel
theorem dX4_readStands_20 : decode cX4_readStands 20 = .ok (.getfield 9, 3) := by decide +kernel
theorem dX4_readStands_23 : decode cX4_readStands 23 = .ok (.getfield 61, 3) := by decide +kernel
theorem dX4_readStands_26 : decode cX4_readStands 26 = .ok (.aload_n 0, 1) := by decide +kernel
theorem dX4_readStands_27 : decode cX4_readStands 27 = .ok (.getfield 34, 3) := by decide +kernel
theorem dX4_readStands_30 : decode cX4_readStands 30 = .ok (.iaload, 1) := by decide +kernel
theorem dX4_readStands_31 : decode cX4_readStands 31 = .ok (.istore_n 1, 1) := by decide +kernel
theorem dX4_readStands_32 : decode cX4_readStands 32 = .ok (.aload_n 0, 1) := by decide +kernel
theorem dX4_readStands_33 : decode cX4_readStands 33 = .ok (.getfield 18, 3) := by decide +kernel
theorem dX4_readStands_36 : decode cX4_readStands 36 = .ok (.iload_n 1, 1) := by decide +kernel
theorem dX4_readStands_37 : decode cX4_readStands 37 = .ok (.invokevirtual 71, 3) := by decide +kernel
theorem dX4_readStands_40 : decode cX4_readStands 40 = .ok (.ifCond .ne 5, 3) := by decide +kernel
theorem dX4_readStands_43 : decode cX4_readStands 43 = .ok (.iconst 0, 1) := by decide +kernel
theorem dX4_readStands_44 : decode cX4_readStands 44 = .ok (.ireturn, 1) := by decide +kernel
theorem dX4_readStands_45 : decode cX4_readStands 45 = .ok (.aload_n 0, 1) := by decide +kernel
theorem dX4_readStands_46 : decode cX4_readStands 46 = .ok (.getfield 18, 3) := by decide +kernel
theorem dX4_readStands_49 : decode cX4_readStands 49 = .ok (.getfield 75, 3) := by decide +kernel
theorem dX4_readStands_52 : decode cX4_readStands 52 = .ok (.iload_n 1, 1) := by decide +kernel
theorem dX4_readStands_53 : decode cX4_readStands 53 = .ok (.aaload, 1) := by decide +kernel
theorem dX4_readStands_54 : decode cX4_readStands 54 = .ok (.iconst 0, 1) := by decide +kernel
theorem dX4_readStands_55 : decode cX4_readStands 55 = .ok (.putfield 79, 3) := by decide +kernel
theorem dX4_readStands_58 : decode cX4_readStands 58 = .ok (.aload_n 0, 1) := by decide +kernel
theorem dX4_readStands_59 : decode cX4_readStands 59 = .ok (.invokevirtual 64, 3) := by decide +kernel
theorem dX4_readStands_62 : decode cX4_readStands 62 = .ok (.ireturn, 1) := by decide +kernel
theorem dX4_readNumber_0 : decode cX4_readNumber 0 = .ok (.aload_n 0, 1) := by decide +kernel
theorem dX4_readNumber_1 : decode cX4_readNumber 1 = .ok (.invokevirtual 85, 3) := by decide +kernel
theorem dX4_readNumber_4 : decode cX4_readNumber 4 = .ok (.aload_n 0, 1) := by decide +kernel
theorem dX4_readNumber_5 : decode cX4_readNumber 5 = .ok (.getfield 9, 3) := by decide +kernel
theorem dX4_readNumber_8 : decode cX4_readNumber 8 = .ok (.getfield 61, 3) := by decide +kernel
theorem dX4_readNumber_11 : decode cX4_readNumber 11 = .ok (.aload_n 0, 1) := by decide +kernel
theorem dX4_readNumber_12 : decode cX4_readNumber 12 = .ok (.getfield 34, 3) := by decide +kernel
theorem dX4_readNumber_15 : decode cX4_readNumber 15 = .ok (.iaload, 1) := by decide +kernel
theorem dX4_readNumber_16 : decode cX4_readNumber 16 = .ok (.istore_n 3, 1) := by decide +kernel
theorem dX4_readNumber_17 : decode cX4_readNumber 17 = .ok (.aload_n 0, 1) := by decide +kernel
theorem dX4_readNumber_18 : decode cX4_readNumber 18 = .ok (.getfield 9, 3) := by decide +kernel
theorem dX4_readNumber_21 : decode cX4_readNumber 21 = .ok (.getfield 37, 3) := by decide +kernel
theorem dX4_readNumber_24 : decode cX4_readNumber 24 = .ok (.aload_n 0, 1) := by decide +kernel
theorem dX4_readNumber_25 : decode cX4_readNumber 25 = .ok (.getfield 34, 3) := by decide +kernel
theorem dX4_readNumber_28 : decode cX4_readNumber 28 = .ok (.iaload, 1) := by decide +kernel
theorem dX4_readNumber_29 : decode cX4_readNumber 29 = .ok (.iconst 3, 1) := by decide +kernel
theorem dX4_readNumber_30 : decode cX4_readNumber 30 = .ok (.if_icmp .ne 17, 3) := by decide +kernel
theorem dX4_readNumber_33 : decode cX4_readNumber 33 = .ok (.iload_n 3, 1) := by decide +kernel
theorem dX4_readNumber_34 : decode cX4_readNumber 34 = .ok (.iload_n 1, 1) := by decide +kernel
theorem dX4_readNumber_35 : decode cX4_readNumber 35 = .ok (.if_icmp .lt 12, 3) := by decide +kernel
theorem dX4_readNumber_38 : decode cX4_readNumber 38 = .ok (.iload_n 3, 1) := by decide +kernel
theorem dX4_readNumber_39 : decode cX4_readNumber 39 = .ok (.iload_n 2, 1) := by decide +kernel
theorem dX4_readNumber_40 : decode cX4_readNumber 40 = .ok (.if_icmp .gt 7, 3) := by decide +kernel
theorem dX4_readNumber_43 : decode cX4_readNumber 43 = .ok (.iconst 1, 1) := by decide +kernel
theorem dX4_readNumber_44 : decode cX4_readNumber 44 = .ok (.goto 4, 3) := by decide +kernel
theorem dX4_readNumber_47 : decode cX4_readNumber 47 = .ok (.iconst 0, 1) := by decide +kernel
theorem dX4_readNumber_48 : decode cX4_readNumber 48 = .ok (.ireturn, 1) := by decide +kernel
theorem dX4_readItemEnd_0 : decode cX4_readItemEnd 0 = .ok (.aload_n 0, 1) := by decide +kernel
theorem dX4_readItemEnd_1 : decode cX4_readItemEnd 1 = .ok (.invokevirtual 85, 3) := by decide +kernel
theorem dX4_readItemEnd_4 : decode cX4_readItemEnd 4 = .ok (.aload_n 0, 1) := by decide +kernel
theorem dX4_readItemEnd_5 : decode cX4_readItemEnd 5 = .ok (.getfield 9, 3) := by decide +kernel
theorem dX4_readItemEnd_8 : decode cX4_readItemEnd 8 = .ok (.getfield 37, 3) := by decide +kernel
theorem dX4_readItemEnd_11 : decode cX4_readItemEnd 11 = .ok (.aload_n 0, 1) := by decide +kernel
theorem dX4_readItemEnd_12 : decode cX4_readItemEnd 12 = .ok (.getfield 34, 3) := by decide +kernel
theorem dX4_readItemEnd_15 : decode cX4_readItemEnd 15 = .ok (.iaload, 1) := by decide +kernel
theorem dX4_readItemEnd_16 : decode cX4_readItemEnd 16 = .ok (.iconst 4, 1) := by decide +kernel
theorem dX4_readItemEnd_17 : decode cX4_readItemEnd 17 = .ok (.if_icmp .eq 5, 3) := by decide +kernel
theorem dX4_readItemEnd_20 : decode cX4_readItemEnd 20 = .ok (.iconst 0, 1) := by decide +kernel
theorem dX4_readItemEnd_21 : decode cX4_readItemEnd 21 = .ok (.ireturn, 1) := by decide +kernel
theorem dX4_readItemEnd_22 : decode cX4_readItemEnd 22 = .ok (.aload_n 0, 1) := by decide +kernel
theorem dX4_readItemEnd_23 : decode cX4_readItemEnd 23 = .ok (.invokevirtual 85, 3) := by decide +kernel
theorem dX4_readItemEnd_26 : decode cX4_readItemEnd 26 = .ok (.iconst 1, 1) := by decide +kernel
theorem dX4_readItemEnd_27 : decode cX4_readItemEnd 27 = .ok (.ireturn, 1) := by decide +kernel
theorem dX4_step_0 : decode cX4_step 0 = .ok (.aload_n 0, 1) := by decide +kernel
theorem dX4_step_1 : decode cX4_step 1 = .ok (.getfield 9, 3) := by decide +kernel
theorem dX4_step_4 : decode cX4_step 4 = .ok (.getfield 37, 3) := by decide +kernel
theorem dX4_step_7 : decode cX4_step 7 = .ok (.aload_n 0, 1) := by decide +kernel
theorem dX4_step_8 : decode cX4_step 8 = .ok (.getfield 34, 3) := by decide +kernel
theorem dX4_step_11 : decode cX4_step 11 = .ok (.iaload, 1) := by decide +kernel
theorem dX4_step_12 : decode cX4_step 12 = .ok (.ifCond .eq 22, 3) := by decide +kernel
theorem dX4_step_15 : decode cX4_step 15 = .ok (.aload_n 0, 1) := by decide +kernel
theorem dX4_step_16 : decode cX4_step 16 = .ok (.getfield 34, 3) := by decide +kernel
theorem dX4_step_19 : decode cX4_step 19 = .ok (.bipush 60, 2) := by decide +kernel
theorem dX4_step_21 : decode cX4_step 21 = .ok (.if_icmp .ge 13, 3) := by decide +kernel
theorem dX4_step_24 : decode cX4_step 24 = .ok (.aload_n 0, 1) := by decide +kernel
theorem dX4_step_25 : decode cX4_step 25 = .ok (.dup, 1) := by decide +kernel
theorem dX4_step_26 : decode cX4_step 26 = .ok (.getfield 34, 3) := by decide +kernel
theorem dX4_step_29 : decode cX4_step 29 = .ok (.iconst 1, 1) := by decide +kernel
theorem dX4_step_30 : decode cX4_step 30 = .ok (.iadd, 1) := by decide +kernel
theorem dX4_step_31 : decode cX4_step 31 = .ok (.putfield 34, 3) := by decide +kernel
theorem dX4_step_34 : decode cX4_step 34 = .ok (.return_, 1) := by decide +kernel
theorem dX5_init_0 : decode cX5_init 0 = .ok (.aload_n 0, 1) := by decide +kernel
theorem dX5_init_1 : decode cX5_init 1 = .ok (.invokespecial 3, 3) := by decide +kernel
theorem dX5_init_4 : decode cX5_init 4 = .ok (.return_, 1) := by decide +kernel
theorem dX5_findFairest_0 : decode cX5_findFairest 0 = .ok (.aload_n 0, 1) := by decide +kernel
theorem dX5_findFairest_1 : decode cX5_findFairest 1 = .ok (.iload_n 2, 1) := by decide +kernel
theorem dX5_findFairest_2 : decode cX5_findFairest 2 = .ok (.iconst 1, 1) := by decide +kernel
theorem dX5_findFairest_3 : decode cX5_findFairest 3 = .ok (.iadd, 1) := by decide +kernel
theorem dX5_findFairest_4 : decode cX5_findFairest 4 = .ok (.putfield 9, 3) := by decide +kernel
theorem dX5_findFairest_7 : decode cX5_findFairest 7 = .ok (.aload_n 1, 1) := by decide +kernel
theorem dX5_findFairest_8 : decode cX5_findFairest 8 = .ok (.iload_n 2, 1) := by decide +kernel
theorem dX5_findFairest_9 : decode cX5_findFairest 9 = .ok (.invokevirtual 15, 3) := by decide +kernel
theorem dX5_findFairest_12 : decode cX5_findFairest 12 = .ok (.bipush 40, 2) := by decide +kernel
theorem dX5_findFairest_14 : decode cX5_findFairest 14 = .ok (.invokestatic 21, 3) := by decide +kernel
theorem dX5_findFairest_17 : decode cX5_findFairest 17 = .ok (.istore 4, 2) := by decide +kernel
theorem dX5_findFairest_19 : decode cX5_findFairest 19 = .ok (.iconst 0, 1) := by decide +kernel
theorem dX5_findFairest_20 : decode cX5_findFairest 20 = .ok (.istore 5, 2) := by decide +kernel
theorem dX5_findFairest_22 : decode cX5_findFairest 22 = .ok (.iload 5, 2) := by decide +kernel
theorem dX5_findFairest_24 : decode cX5_findFairest 24 = .ok (.iload 4, 2) := by decide +kernel
theorem dX5_findFairest_26 : decode cX5_findFairest 26 = .ok (.if_icmp .gt 45, 3) := by decide +kernel
theorem dX5_findFairest_29 : decode cX5_findFairest 29 = .ok (.iload_n 3, 1) := by decide +kernel
theorem dX5_findFairest_30 : decode cX5_findFairest 30 = .ok (.iconst 2, 1) := by decide +kernel
theorem dX5_findFairest_31 : decode cX5_findFairest 31 = .ok (.if_icmp .ne 8, 3) := by decide +kernel
theorem dX5_findFairest_34 : decode cX5_findFairest 34 = .ok (.iload 5, 2) := by decide +kernel
theorem dX5_findFairest_36 : decode cX5_findFairest 36 = .ok (.goto 4, 3) := by decide +kernel
theorem dX5_findFairest_39 : decode cX5_findFairest 39 = .ok (.iconst 0, 1) := by decide +kernel
theorem dX5_findFairest_40 : decode cX5_findFairest 40 = .ok (.istore 6, 2) := by decide +kernel
theorem dX5_findFairest_42 : decode cX5_findFairest 42 = .ok (.iload 6, 2) := by decide +kernel
theorem dX5_findFairest_44 : decode cX5_findFairest 44 = .ok (.iload 5, 2) := by decide +kernel
theorem dX5_findFairest_46 : decode cX5_findFairest 46 = .ok (.if_icmp .gt 19, 3) := by decide +kernel
theorem dX5_findFairest_49 : decode cX5_findFairest 49 = .ok (.aload_n 0, 1) := by decide +kernel
theorem dX5_findFairest_50 : decode cX5_findFairest 50 = .ok (.aload_n 1, 1) := by decide +kernel
theorem dX5_findFairest_51 : decode cX5_findFairest 51 = .ok (.iload_n 2, 1) := by decide +kernel
theorem dX5_findFairest_52 : decode cX5_findFairest 52 = .ok (.iload 5, 2) := by decide +kernel
theorem dX5_findFairest_54 : decode cX5_findFairest 54 = .ok (.iload 6, 2) := by decide +kernel
theorem dX5_findFairest_56 : decode cX5_findFairest 56 = .ok (.invokevirtual 27, 3) := by decide +kernel
theorem dX5_findFairest_59 : decode cX5_findFairest 59 = .ok (.iinc 6 1, 3) := by decide +kernel
theorem dX5_findFairest_62 : decode cX5_findFairest 62 = .ok (.goto (-20), 3) := by decide +kernel
theorem dX5_findFairest_65 : decode cX5_findFairest 65 = .ok (.iinc 5 1, 3) := by decide +kernel
theorem dX5_findFairest_68 : decode cX5_findFairest 68 = .ok (.goto (-46), 3) := by decide +kernel
theorem dX5_findFairest_71 : decode cX5_findFairest 71 = .ok (.return_, 1) := by decide +kernel
theorem dX5_weigh_0 : decode cX5_weigh 0 = .ok (.aload_n 1, 1) := by decide +kernel
theorem dX5_weigh_1 : decode cX5_weigh 1 = .ok (.iload_n 3, 1) := by decide +kernel
theorem dX5_weigh_2 : decode cX5_weigh 2 = .ok (.invokevirtual 31, 3) := by decide +kernel
theorem dX5_weigh_5 : decode cX5_weigh 5 = .ok (.iload_n 2, 1) := by decide +kernel
theorem dX5_weigh_6 : decode cX5_weigh 6 = .ok (.invokestatic 21, 3) := by decide +kernel
theorem dX5_weigh_9 : decode cX5_weigh 9 = .ok (.istore 5, 2) := by decide +kernel
theorem dX5_weigh_11 : decode cX5_weigh 11 = .ok (.aload_n 1, 1) := by decide +kernel
theorem dX5_weigh_12 : decode cX5_weigh 12 = .ok (.iload 4, 2) := by decide +kernel
theorem dX5_weigh_14 : decode cX5_weigh 14 = .ok (.invokevirtual 31, 3) := by decide +kernel
theorem dX5_weigh_17 : decode cX5_weigh 17 = .ok (.iload_n 2, 1) := by decide +kernel
theorem dX5_weigh_18 : decode cX5_weigh 18 = .ok (.invokestatic 21, 3) := by decide +kernel
theorem dX5_weigh_21 : decode cX5_weigh 21 = .ok (.istore 6, 2) := by decide +kernel
theorem dX5_weigh_23 : decode cX5_weigh 23 = .ok (.iload 5, 2) := by decide +kernel
theorem dX5_weigh_25 : decode cX5_weigh 25 = .ok (.iload 6, 2) := by decide +kernel
theorem dX5_weigh_27 : decode cX5_weigh 27 = .ok (.isub, 1) := by decide +kernel
theorem dX5_weigh_28 : decode cX5_weigh 28 = .ok (.istore 7, 2) := by decide +kernel
theorem dX5_weigh_30 : decode cX5_weigh 30 = .ok (.iload_n 2, 1) := by decide +kernel
theorem dX5_weigh_31 : decode cX5_weigh 31 = .ok (.iload 5, 2) := by decide +kernel
theorem dX5_weigh_33 : decode cX5_weigh 33 = .ok (.isub, 1) := by decide +kernel
theorem dX5_weigh_34 : decode cX5_weigh 34 = .ok (.iload 6, 2) := by decide +kernel
theorem dX5_weigh_36 : decode cX5_weigh 36 = .ok (.invokestatic 34, 3) := by decide +kernel
theorem dX5_weigh_39 : decode cX5_weigh 39 = .ok (.iload 7, 2) := by decide +kernel
theorem dX5_weigh_41 : decode cX5_weigh 41 = .ok (.invokestatic 34, 3) := by decide +kernel
theorem dX5_weigh_44 : decode cX5_weigh 44 = .ok (.istore 8, 2) := by decide +kernel
theorem dX5_weigh_46 : decode cX5_weigh 46 = .ok (.iload 8, 2) := by decide +kernel
theorem dX5_weigh_48 : decode cX5_weigh 48 = .ok (.aload_n 0, 1) := by decide +kernel
theorem dX5_weigh_49 : decode cX5_weigh 49 = .ok (.getfield 9, 3) := by decide +kernel
theorem dX5_weigh_52 : decode cX5_weigh 52 = .ok (.if_icmp .ge 34, 3) := by decide +kernel
theorem dX5_weigh_55 : decode cX5_weigh 55 = .ok (.aload_n 0, 1) := by decide +kernel
theorem dX5_weigh_56 : decode cX5_weigh 56 = .ok (.iload 8, 2) := by decide +kernel
theorem dX5_weigh_58 : decode cX5_weigh 58 = .ok (.putfield 9, 3) := by decide +kernel
theorem dX5_weigh_61 : decode cX5_weigh 61 = .ok (.aload_n 0, 1) := by decide +kernel
theorem dX5_weigh_62 : decode cX5_weigh 62 = .ok (.iload_n 3, 1) := by decide +kernel
theorem dX5_weigh_63 : decode cX5_weigh 63 = .ok (.putfield 37, 3) := by decide +kernel
theorem dX5_weigh_66 : decode cX5_weigh 66 = .ok (.aload_n 0, 1) := by decide +kernel
theorem dX5_weigh_67 : decode cX5_weigh 67 = .ok (.iload 4, 2) := by decide +kernel
theorem dX5_weigh_69 : decode cX5_weigh 69 = .ok (.putfield 40, 3) := by decide +kernel
theorem dX5_weigh_72 : decode cX5_weigh 72 = .ok (.aload_n 0, 1) := by decide +kernel
theorem dX5_weigh_73 : decode cX5_weigh 73 = .ok (.iload_n 2, 1) := by decide +kernel
theorem dX5_weigh_74 : decode cX5_weigh 74 = .ok (.iload 5, 2) := by decide +kernel
theorem dX5_weigh_76 : decode cX5_weigh 76 = .ok (.isub, 1) := by decide +kernel
theorem dX5_weigh_77 : decode cX5_weigh 77 = .ok (.putfield 43, 3) := by decide +kernel
theorem dX5_weigh_80 : decode cX5_weigh 80 = .ok (.aload_n 0, 1) := by decide +kernel
theorem dX5_weigh_81 : decode cX5_weigh 81 = .ok (.iload 6, 2) := by decide +kernel
theorem dX5_weigh_83 : decode cX5_weigh 83 = .ok (.putfield 46, 3) := by decide +kernel
theorem dX5_weigh_86 : decode cX5_weigh 86 = .ok (.return_, 1) := by decide +kernel
theorem dX6_init_0 : decode cX6_init 0 = .ok (.aload_n 0, 1) := by decide +kernel
theorem dX6_init_1 : decode cX6_init 1 = .ok (.invokespecial 3, 3) := by decide +kernel
theorem dX6_init_4 : decode cX6_init 4 = .ok (.aload_n 0, 1) := by decide +kernel
theorem dX6_init_5 : decode cX6_init 5 = .ok (.bipush 6, 2) := by decide +kernel
theorem dX6_init_7 : decode cX6_init 7 = .ok (.newarray .int, 2) := by decide +kernel
theorem dX6_init_9 : decode cX6_init 9 = .ok (.putfield 9, 3) := by decide +kernel
theorem dX6_init_12 : decode cX6_init 12 = .ok (.aload_n 0, 1) := by decide +kernel
theorem dX6_init_13 : decode cX6_init 13 = .ok (.bipush 6, 2) := by decide +kernel
theorem dX6_init_15 : decode cX6_init 15 = .ok (.newarray .int, 2) := by decide +kernel
theorem dX6_init_17 : decode cX6_init 17 = .ok (.putfield 15, 3) := by decide +kernel
theorem dX6_init_20 : decode cX6_init 20 = .ok (.return_, 1) := by decide +kernel
theorem dX6_add_0 : decode cX6_add 0 = .ok (.aload_n 0, 1) := by decide +kernel
theorem dX6_add_1 : decode cX6_add 1 = .ok (.getfield 18, 3) := by decide +kernel
theorem dX6_add_4 : decode cX6_add 4 = .ok (.bipush 6, 2) := by decide +kernel
theorem dX6_add_6 : decode cX6_add 6 = .ok (.if_icmp .lt 5, 3) := by decide +kernel
theorem dX6_add_9 : decode cX6_add 9 = .ok (.iconst 0, 1) := by decide +kernel
theorem dX6_add_10 : decode cX6_add 10 = .ok (.ireturn, 1) := by decide +kernel
theorem dX6_add_11 : decode cX6_add 11 = .ok (.aload_n 0, 1) := by decide +kernel
theorem dX6_add_12 : decode cX6_add 12 = .ok (.getfield 9, 3) := by decide +kernel
theorem dX6_add_15 : decode cX6_add 15 = .ok (.aload_n 0, 1) := by decide +kernel
theorem dX6_add_16 : decode cX6_add 16 = .ok (.getfield 18, 3) := by decide +kernel
theorem dX6_add_19 : decode cX6_add 19 = .ok (.iload_n 1, 1) := by decide +kernel
theorem dX6_add_20 : decode cX6_add 20 = .ok (.iastore, 1) := by decide +kernel
theorem dX6_add_21 : decode cX6_add 21 = .ok (.aload_n 0, 1) := by decide +kernel
theorem dX6_add_22 : decode cX6_add 22 = .ok (.getfield 15, 3) := by decide +kernel
theorem dX6_add_25 : decode cX6_add 25 = .ok (.aload_n 0, 1) := by decide +kernel
theorem dX6_add_26 : decode cX6_add 26 = .ok (.getfield 18, 3) := by decide +kernel
theorem dX6_add_29 : decode cX6_add 29 = .ok (.iload_n 2, 1) := by decide +kernel
theorem dX6_add_30 : decode cX6_add 30 = .ok (.iastore, 1) := by decide +kernel
theorem dX6_add_31 : decode cX6_add 31 = .ok (.aload_n 0, 1) := by decide +kernel
theorem dX6_add_32 : decode cX6_add 32 = .ok (.dup, 1) := by decide +kernel
theorem dX6_add_33 : decode cX6_add 33 = .ok (.getfield 18, 3) := by decide +kernel
theorem dX6_add_36 : decode cX6_add 36 = .ok (.iconst 1, 1) := by decide +kernel
theorem dX6_add_37 : decode cX6_add 37 = .ok (.iadd, 1) := by decide +kernel
theorem dX6_add_38 : decode cX6_add 38 = .ok (.putfield 18, 3) := by decide +kernel
theorem dX6_add_41 : decode cX6_add 41 = .ok (.iconst 1, 1) := by decide +kernel
theorem dX6_add_42 : decode cX6_add 42 = .ok (.ireturn, 1) := by decide +kernel
theorem dX6_fits_0 : decode cX6_fits 0 = .ok (.iconst 0, 1) := by decide +kernel
theorem dX6_fits_1 : decode cX6_fits 1 = .ok (.istore_n 2, 1) := by decide +kernel
theorem dX6_fits_2 : decode cX6_fits 2 = .ok (.iload_n 2, 1) := by decide +kernel
theorem dX6_fits_3 : decode cX6_fits 3 = .ok (.aload_n 0, 1) := by decide +kernel
theorem dX6_fits_4 : decode cX6_fits 4 = .ok (.getfield 18, 3) := by decide +kernel
theorem dX6_fits_7 : decode cX6_fits 7 = .ok (.if_icmp .ge 36, 3) := by decide +kernel
theorem dX6_fits_10 : decode cX6_fits 10 = .ok (.iload_n 2, 1) := by decide +kernel
theorem dX6_fits_11 : decode cX6_fits 11 = .ok (.bipush 6, 2) := by decide +kernel
theorem dX6_fits_13 : decode cX6_fits 13 = .ok (.if_icmp .ge 30, 3) := by decide +kernel
theorem dX6_fits_16 : decode cX6_fits 16 = .ok (.aload_n 1, 1) := by decide +kernel
theorem dX6_fits_17 : decode cX6_fits 17 = .ok (.aload_n 0, 1) := by decide +kernel
theorem dX6_fits_18 : decode cX6_fits 18 = .ok (.getfield 9, 3) := by decide +kernel
theorem dX6_fits_21 : decode cX6_fits 21 = .ok (.iload_n 2, 1) := by decide +kernel
theorem dX6_fits_22 : decode cX6_fits 22 = .ok (.iaload, 1) := by decide +kernel
theorem dX6_fits_23 : decode cX6_fits 23 = .ok (.invokevirtual 22, 3) := by decide +kernel
theorem dX6_fits_26 : decode cX6_fits 26 = .ok (.aload_n 0, 1) := by decide +kernel
theorem dX6_fits_27 : decode cX6_fits 27 = .ok (.getfield 15, 3) := by decide +kernel
theorem dX6_fits_30 : decode cX6_fits 30 = .ok (.iload_n 2, 1) := by decide +kernel
theorem dX6_fits_31 : decode cX6_fits 31 = .ok (.iaload, 1) := by decide +kernel
theorem dX6_fits_32 : decode cX6_fits 32 = .ok (.if_icmp .eq 5, 3) := by decide +kernel
theorem dX6_fits_35 : decode cX6_fits 35 = .ok (.iconst 0, 1) := by decide +kernel
theorem dX6_fits_36 : decode cX6_fits 36 = .ok (.ireturn, 1) := by decide +kernel
theorem dX6_fits_37 : decode cX6_fits 37 = .ok (.iinc 2 1, 3) := by decide +kernel
theorem dX6_fits_40 : decode cX6_fits 40 = .ok (.goto (-38), 3) := by decide +kernel
theorem dX6_fits_43 : decode cX6_fits 43 = .ok (.iconst 1, 1) := by decide +kernel
theorem dX6_fits_44 : decode cX6_fits 44 = .ok (.ireturn, 1) := by decide +kernel
theorem dX7_init_0 : decode cX7_init 0 = .ok (.aload_n 0, 1) := by decide +kernel
theorem dX7_init_1 : decode cX7_init 1 = .ok (.invokespecial 3, 3) := by decide +kernel
theorem dX7_init_4 : decode cX7_init 4 = .ok (.aload_n 0, 1) := by decide +kernel
theorem dX7_init_5 : decode cX7_init 5 = .ok (.bipush 60, 2) := by decide +kernel
theorem dX7_init_7 : decode cX7_init 7 = .ok (.newarray .int, 2) := by decide +kernel
theorem dX7_init_9 : decode cX7_init 9 = .ok (.putfield 9, 3) := by decide +kernel
theorem dX7_init_12 : decode cX7_init 12 = .ok (.aload_n 0, 1) := by decide +kernel
theorem dX7_init_13 : decode cX7_init 13 = .ok (.bipush 61, 2) := by decide +kernel
theorem dX7_init_15 : decode cX7_init 15 = .ok (.newarray .int, 2) := by decide +kernel
theorem dX7_init_17 : decode cX7_init 17 = .ok (.putfield 15, 3) := by decide +kernel
theorem dX7_init_20 : decode cX7_init 20 = .ok (.aload_n 0, 1) := by decide +kernel
theorem dX7_init_21 : decode cX7_init 21 = .ok (.bipush 61, 2) := by decide +kernel
theorem dX7_init_23 : decode cX7_init 23 = .ok (.newarray .int, 2) := by decide +kernel
theorem dX7_init_25 : decode cX7_init 25 = .ok (.putfield 18, 3) := by decide +kernel
theorem dX7_init_28 : decode cX7_init 28 = .ok (.aload_n 0, 1) := by decide +kernel
theorem dX7_init_29 : decode cX7_init 29 = .ok (.bipush 61, 2) := by decide +kernel
theorem dX7_init_31 : decode cX7_init 31 = .ok (.newarray .int, 2) := by decide +kernel
theorem dX7_init_33 : decode cX7_init 33 = .ok (.putfield 21, 3) := by decide +kernel
theorem dX7_init_36 : decode cX7_init 36 = .ok (.return_, 1) := by decide +kernel
theorem dX7_add_0 : decode cX7_add 0 = .ok (.aload_n 0, 1) := by decide +kernel
theorem dX7_add_1 : decode cX7_add 1 = .ok (.getfield 24, 3) := by decide +kernel
theorem dX7_add_4 : decode cX7_add 4 = .ok (.bipush 60, 2) := by decide +kernel
theorem dX7_add_6 : decode cX7_add 6 = .ok (.if_icmp .lt 5, 3) := by decide +kernel
theorem dX7_add_9 : decode cX7_add 9 = .ok (.iconst 0, 1) := by decide +kernel
theorem dX7_add_10 : decode cX7_add 10 = .ok (.ireturn, 1) := by decide +kernel
theorem dX7_add_11 : decode cX7_add 11 = .ok (.aload_n 0, 1) := by decide +kernel
theorem dX7_add_12 : decode cX7_add 12 = .ok (.getfield 9, 3) := by decide +kernel
theorem dX7_add_15 : decode cX7_add 15 = .ok (.aload_n 0, 1) := by decide +kernel
theorem dX7_add_16 : decode cX7_add 16 = .ok (.getfield 24, 3) := by decide +kernel
theorem dX7_add_19 : decode cX7_add 19 = .ok (.iload_n 1, 1) := by decide +kernel
theorem dX7_add_20 : decode cX7_add 20 = .ok (.iastore, 1) := by decide +kernel
theorem dX7_add_21 : decode cX7_add 21 = .ok (.aload_n 0, 1) := by decide +kernel
theorem dX7_add_22 : decode cX7_add 22 = .ok (.dup, 1) := by decide +kernel
theorem dX7_add_23 : decode cX7_add 23 = .ok (.getfield 24, 3) := by decide +kernel
theorem dX7_add_26 : decode cX7_add 26 = .ok (.iconst 1, 1) := by decide +kernel
theorem dX7_add_27 : decode cX7_add 27 = .ok (.iadd, 1) := by decide +kernel
theorem dX7_add_28 : decode cX7_add 28 = .ok (.putfield 24, 3) := by decide +kernel
theorem dX7_add_31 : decode cX7_add 31 = .ok (.iconst 1, 1) := by decide +kernel
theorem dX7_add_32 : decode cX7_add 32 = .ok (.ireturn, 1) := by decide +kernel
theorem dX7_split_0 : decode cX7_split 0 = .ok (.iconst 0, 1) := by decide +kernel
theorem dX7_split_1 : decode cX7_split 1 = .ok (.istore_n 1, 1) := by decide +kernel
theorem dX7_split_2 : decode cX7_split 2 = .ok (.iconst 0, 1) := by decide +kernel
theorem dX7_split_3 : decode cX7_split 3 = .ok (.istore_n 2, 1) := by decide +kernel
theorem dX7_split_4 : decode cX7_split 4 = .ok (.iload_n 2, 1) := by decide +kernel
theorem dX7_split_5 : decode cX7_split 5 = .ok (.aload_n 0, 1) := by decide +kernel
theorem dX7_split_6 : decode cX7_split 6 = .ok (.getfield 24, 3) := by decide +kernel
theorem dX7_split_9 : decode cX7_split 9 = .ok (.if_icmp .ge 44, 3) := by decide +kernel
theorem dX7_split_12 : decode cX7_split 12 = .ok (.aload_n 0, 1) := by decide +kernel
theorem dX7_split_13 : decode cX7_split 13 = .ok (.getfield 9, 3) := by decide +kernel
theorem dX7_split_16 : decode cX7_split 16 = .ok (.iload_n 2, 1) := by decide +kernel
theorem dX7_split_17 : decode cX7_split 17 = .ok (.iaload, 1) := by decide +kernel
theorem dX7_split_18 : decode cX7_split 18 = .ok (.bipush 32, 2) := by decide +kernel
theorem dX7_split_20 : decode cX7_split 20 = .ok (.if_icmp .eq 27, 3) := by decide +kernel
theorem dX7_split_23 : decode cX7_split 23 = .ok (.aload_n 0, 1) := by decide +kernel
theorem dX7_split_24 : decode cX7_split 24 = .ok (.iload_n 2, 1) := by decide +kernel
theorem dX7_split_25 : decode cX7_split 25 = .ok (.invokevirtual 28, 3) := by decide +kernel
theorem dX7_split_28 : decode cX7_split 28 = .ok (.ifCond .ne 19, 3) := by decide +kernel
theorem dX7_split_31 : decode cX7_split 31 = .ok (.aload_n 0, 1) := by decide +kernel
theorem dX7_split_32 : decode cX7_split 32 = .ok (.getfield 18, 3) := by decide +kernel
theorem dX7_split_35 : decode cX7_split 35 = .ok (.iload_n 1, 1) := by decide +kernel
theorem dX7_split_36 : decode cX7_split 36 = .ok (.iload_n 2, 1) := by decide +kernel
theorem dX7_split_37 : decode cX7_split 37 = .ok (.iastore, 1) := by decide +kernel
theorem dX7_split_38 : decode cX7_split 38 = .ok (.aload_n 0, 1) := by decide +kernel
theorem dX7_split_39 : decode cX7_split 39 = .ok (.iload_n 1, 1) := by decide +kernel
theorem dX7_split_40 : decode cX7_split 40 = .ok (.iload_n 2, 1) := by decide +kernel
theorem dX7_split_41 : decode cX7_split 41 = .ok (.invokevirtual 32, 3) := by decide +kernel
theorem dX7_split_44 : decode cX7_split 44 = .ok (.iinc 1 1, 3) := by decide +kernel
theorem dX7_split_47 : decode cX7_split 47 = .ok (.iinc 2 1, 3) := by decide +kernel
theorem dX7_split_50 : decode cX7_split 50 = .ok (.goto (-46), 3) := by decide +kernel
theorem dX7_split_53 : decode cX7_split 53 = .ok (.aload_n 0, 1) := by decide +kernel
theorem dX7_split_54 : decode cX7_split 54 = .ok (.getfield 15, 3) := by decide +kernel
theorem dX7_split_57 : decode cX7_split 57 = .ok (.iload_n 1, 1) := by decide +kernel
theorem dX7_split_58 : decode cX7_split 58 = .ok (.iconst 0, 1) := by decide +kernel
theorem dX7_split_59 : decode cX7_split 59 = .ok (.iastore, 1) := by decide +kernel
theorem dX7_split_60 : decode cX7_split 60 = .ok (.aload_n 0, 1) := by decide +kernel
theorem dX7_split_61 : decode cX7_split 61 = .ok (.getfield 18, 3) := by decide +kernel
theorem dX7_split_64 : decode cX7_split 64 = .ok (.iload_n 1, 1) := by decide +kernel
theorem dX7_split_65 : decode cX7_split 65 = .ok (.aload_n 0, 1) := by decide +kernel
theorem dX7_split_66 : decode cX7_split 66 = .ok (.getfield 24, 3) := by decide +kernel
theorem dX7_split_69 : decode cX7_split 69 = .ok (.iastore, 1) := by decide +kernel
theorem dX7_split_70 : decode cX7_split 70 = .ok (.return_, 1) := by decide +kernel
theorem dX7_goesOn_0 : decode cX7_goesOn 0 = .ok (.iload_n 1, 1) := by decide +kernel
theorem dX7_goesOn_1 : decode cX7_goesOn 1 = .ok (.iconst 1, 1) := by decide +kernel
theorem dX7_goesOn_2 : decode cX7_goesOn 2 = .ok (.if_icmp .lt 11, 3) := by decide +kernel
theorem dX7_goesOn_5 : decode cX7_goesOn 5 = .ok (.iload_n 1, 1) := by decide +kernel
theorem dX7_goesOn_6 : decode cX7_goesOn 6 = .ok (.aload_n 0, 1) := by decide +kernel
theorem dX7_goesOn_7 : decode cX7_goesOn 7 = .ok (.getfield 24, 3) := by decide +kernel
theorem dX7_goesOn_10 : decode cX7_goesOn 10 = .ok (.if_icmp .lt 5, 3) := by decide +kernel
theorem dX7_goesOn_13 : decode cX7_goesOn 13 = .ok (.iconst 0, 1) := by decide +kernel
theorem dX7_goesOn_14 : decode cX7_goesOn 14 = .ok (.ireturn, 1) := by decide +kernel
theorem dX7_goesOn_15 : decode cX7_goesOn 15 = .ok (.aload_n 0, 1) := by decide +kernel
theorem dX7_goesOn_16 : decode cX7_goesOn 16 = .ok (.getfield 9, 3) := by decide +kernel
theorem dX7_goesOn_19 : decode cX7_goesOn 19 = .ok (.iload_n 1, 1) := by decide +kernel
theorem dX7_goesOn_20 : decode cX7_goesOn 20 = .ok (.iaload, 1) := by decide +kernel
theorem dX7_goesOn_21 : decode cX7_goesOn 21 = .ok (.invokestatic 36, 3) := by decide +kernel
theorem dX7_goesOn_24 : decode cX7_goesOn 24 = .ok (.ifCond .eq 17, 3) := by decide +kernel
theorem dX7_goesOn_27 : decode cX7_goesOn 27 = .ok (.aload_n 0, 1) := by decide +kernel
theorem dX7_goesOn_28 : decode cX7_goesOn 28 = .ok (.getfield 9, 3) := by decide +kernel
theorem dX7_goesOn_31 : decode cX7_goesOn 31 = .ok (.iload_n 1, 1) := by decide +kernel
theorem dX7_goesOn_32 : decode cX7_goesOn 32 = .ok (.iconst 1, 1) := by decide +kernel
theorem dX7_goesOn_33 : decode cX7_goesOn 33 = .ok (.isub, 1) := by decide +kernel
theorem dX7_goesOn_34 : decode cX7_goesOn 34 = .ok (.iaload, 1) := by decide +kernel
theorem dX7_goesOn_35 : decode cX7_goesOn 35 = .ok (.invokestatic 36, 3) := by decide +kernel
theorem dX7_goesOn_38 : decode cX7_goesOn 38 = .ok (.ifCond .ne 29, 3) := by decide +kernel
theorem dX7_goesOn_41 : decode cX7_goesOn 41 = .ok (.aload_n 0, 1) := by decide +kernel
theorem dX7_goesOn_42 : decode cX7_goesOn 42 = .ok (.getfield 9, 3) := by decide +kernel
theorem dX7_goesOn_45 : decode cX7_goesOn 45 = .ok (.iload_n 1, 1) := by decide +kernel
theorem dX7_goesOn_46 : decode cX7_goesOn 46 = .ok (.iaload, 1) := by decide +kernel
theorem dX7_goesOn_47 : decode cX7_goesOn 47 = .ok (.invokestatic 39, 3) := by decide +kernel
theorem dX7_goesOn_50 : decode cX7_goesOn 50 = .ok (.ifCond .eq 21, 3) := by decide +kernel
theorem dX7_goesOn_53 : decode cX7_goesOn 53 = .ok (.aload_n 0, 1) := by decide +kernel
theorem dX7_goesOn_54 : decode cX7_goesOn 54 = .ok (.getfield 9, 3) := by decide +kernel
theorem dX7_goesOn_57 : decode cX7_goesOn 57 = .ok (.iload_n 1, 1) := by decide +kernel
theorem dX7_goesOn_58 : decode cX7_goesOn 58 = .ok (.iconst 1, 1) := by decide +kernel
theorem dX7_goesOn_59 : decode cX7_goesOn 59 = .ok (.isub, 1) := by decide +kernel
theorem dX7_goesOn_60 : decode cX7_goesOn 60 = .ok (.iaload, 1) := by decide +kernel
theorem dX7_goesOn_61 : decode cX7_goesOn 61 = .ok (.invokestatic 39, 3) := by decide +kernel
theorem dX7_goesOn_64 : decode cX7_goesOn 64 = .ok (.ifCond .eq 7, 3) := by decide +kernel
theorem dX7_goesOn_67 : decode cX7_goesOn 67 = .ok (.iconst 1, 1) := by decide +kernel
theorem dX7_goesOn_68 : decode cX7_goesOn 68 = .ok (.goto 4, 3) := by decide +kernel
theorem dX7_goesOn_71 : decode cX7_goesOn 71 = .ok (.iconst 0, 1) := by decide +kernel
theorem dX7_goesOn_72 : decode cX7_goesOn 72 = .ok (.ireturn, 1) := by decide +kernel
theorem dX7_putKind_0 : decode cX7_putKind 0 = .ok (.iload_n 2, 1) := by decide +kernel
theorem dX7_putKind_1 : decode cX7_putKind 1 = .ok (.iconst 1, 1) := by decide +kernel
theorem dX7_putKind_2 : decode cX7_putKind 2 = .ok (.iadd, 1) := by decide +kernel
theorem dX7_putKind_3 : decode cX7_putKind 3 = .ok (.istore_n 3, 1) := by decide +kernel
theorem dX7_putKind_4 : decode cX7_putKind 4 = .ok (.iload_n 3, 1) := by decide +kernel
theorem dX7_putKind_5 : decode cX7_putKind 5 = .ok (.aload_n 0, 1) := by decide +kernel
theorem dX7_putKind_6 : decode cX7_putKind 6 = .ok (.getfield 24, 3) := by decide +kernel
theorem dX7_putKind_9 : decode cX7_putKind 9 = .ok (.if_icmp .ge 17, 3) := by decide +kernel
theorem dX7_putKind_12 : decode cX7_putKind 12 = .ok (.aload_n 0, 1) := by decide +kernel
theorem dX7_putKind_13 : decode cX7_putKind 13 = .ok (.iload_n 3, 1) := by decide +kernel
theorem dX7_putKind_14 : decode cX7_putKind 14 = .ok (.invokevirtual 28, 3) := by decide +kernel
theorem dX7_putKind_17 : decode cX7_putKind 17 = .ok (.ifCond .eq 9, 3) := by decide +kernel
theorem dX7_putKind_20 : decode cX7_putKind 20 = .ok (.iinc 3 1, 3) := by decide +kernel
theorem dX7_putKind_23 : decode cX7_putKind 23 = .ok (.goto (-19), 3) := by decide +kernel
theorem dX7_putKind_26 : decode cX7_putKind 26 = .ok (.aload_n 0, 1) := by decide +kernel
theorem dX7_putKind_27 : decode cX7_putKind 27 = .ok (.getfield 21, 3) := by decide +kernel
theorem dX7_putKind_30 : decode cX7_putKind 30 = .ok (.iload_n 1, 1) := by decide +kernel
theorem dX7_putKind_31 : decode cX7_putKind 31 = .ok (.iconst 0, 1) := by decide +kernel
theorem dX7_putKind_32 : decode cX7_putKind 32 = .ok (.iastore, 1) := by decide +kernel
theorem dX7_putKind_33 : decode cX7_putKind 33 = .ok (.aload_n 0, 1) := by decide +kernel
theorem dX7_putKind_34 : decode cX7_putKind 34 = .ok (.getfield 9, 3) := by decide +kernel
theorem dX7_putKind_37 : decode cX7_putKind 37 = .ok (.iload_n 2, 1) := by decide +kernel
theorem dX7_putKind_38 : decode cX7_putKind 38 = .ok (.iaload, 1) := by decide +kernel
theorem dX7_putKind_39 : decode cX7_putKind 39 = .ok (.invokestatic 36, 3) := by decide +kernel
theorem dX7_putKind_42 : decode cX7_putKind 42 = .ok (.ifCond .eq 18, 3) := by decide +kernel
theorem dX7_putKind_45 : decode cX7_putKind 45 = .ok (.aload_n 0, 1) := by decide +kernel
theorem dX7_putKind_46 : decode cX7_putKind 46 = .ok (.getfield 15, 3) := by decide +kernel
theorem dX7_putKind_49 : decode cX7_putKind 49 = .ok (.iload_n 1, 1) := by decide +kernel
theorem dX7_putKind_50 : decode cX7_putKind 50 = .ok (.aload_n 0, 1) := by decide +kernel
theorem dX7_putKind_51 : decode cX7_putKind 51 = .ok (.iload_n 2, 1) := by decide +kernel
theorem dX7_putKind_52 : decode cX7_putKind 52 = .ok (.iload_n 3, 1) := by decide +kernel
theorem dX7_putKind_53 : decode cX7_putKind 53 = .ok (.invokevirtual 42, 3) := by decide +kernel
theorem dX7_putKind_56 : decode cX7_putKind 56 = .ok (.iastore, 1) := by decide +kernel
theorem dX7_putKind_57 : decode cX7_putKind 57 = .ok (.goto 64, 3) := by decide +kernel
theorem dX7_putKind_60 : decode cX7_putKind 60 = .ok (.aload_n 0, 1) := by decide +kernel
theorem dX7_putKind_61 : decode cX7_putKind 61 = .ok (.getfield 9, 3) := by decide +kernel
theorem dX7_putKind_64 : decode cX7_putKind 64 = .ok (.iload_n 2, 1) := by decide +kernel
theorem dX7_putKind_65 : decode cX7_putKind 65 = .ok (.iaload, 1) := by decide +kernel
theorem dX7_putKind_66 : decode cX7_putKind 66 = .ok (.invokestatic 39, 3) := by decide +kernel
theorem dX7_putKind_69 : decode cX7_putKind 69 = .ok (.ifCond .eq 30, 3) := by decide +kernel
theorem dX7_putKind_72 : decode cX7_putKind 72 = .ok (.aload_n 0, 1) := by decide +kernel
theorem dX7_putKind_73 : decode cX7_putKind 73 = .ok (.getfield 15, 3) := by decide +kernel
theorem dX7_putKind_76 : decode cX7_putKind 76 = .ok (.iload_n 1, 1) := by decide +kernel
theorem dX7_putKind_77 : decode cX7_putKind 77 = .ok (.aload_n 0, 1) := by decide +kernel
theorem dX7_putKind_78 : decode cX7_putKind 78 = .ok (.iload_n 2, 1) := by decide +kernel
theorem dX7_putKind_79 : decode cX7_putKind 79 = .ok (.iload_n 3, 1) := by decide +kernel
theorem dX7_putKind_80 : decode cX7_putKind 80 = .ok (.invokevirtual 46, 3) := by decide +kernel
theorem dX7_putKind_83 : decode cX7_putKind 83 = .ok (.iastore, 1) := by decide +kernel
theorem dX7_putKind_84 : decode cX7_putKind 84 = .ok (.aload_n 0, 1) := by decide +kernel
theorem dX7_putKind_85 : decode cX7_putKind 85 = .ok (.getfield 21, 3) := by decide +kernel
theorem dX7_putKind_88 : decode cX7_putKind 88 = .ok (.iload_n 1, 1) := by decide +kernel
theorem dX7_putKind_89 : decode cX7_putKind 89 = .ok (.aload_n 0, 1) := by decide +kernel
theorem dX7_putKind_90 : decode cX7_putKind 90 = .ok (.iload_n 2, 1) := by decide +kernel
theorem dX7_putKind_91 : decode cX7_putKind 91 = .ok (.iload_n 3, 1) := by decide +kernel
theorem dX7_putKind_92 : decode cX7_putKind 92 = .ok (.invokevirtual 49, 3) := by decide +kernel
theorem dX7_putKind_95 : decode cX7_putKind 95 = .ok (.iastore, 1) := by decide +kernel
theorem dX7_putKind_96 : decode cX7_putKind 96 = .ok (.goto 25, 3) := by decide +kernel
theorem dX7_putKind_99 : decode cX7_putKind 99 = .ok (.aload_n 0, 1) := by decide +kernel
theorem dX7_putKind_100 : decode cX7_putKind 100 = .ok (.getfield 15, 3) := by decide +kernel
theorem dX7_putKind_103 : decode cX7_putKind 103 = .ok (.iload_n 1, 1) := by decide +kernel
theorem dX7_putKind_104 : decode cX7_putKind 104 = .ok (.aload_n 0, 1) := by decide +kernel
theorem dX7_putKind_105 : decode cX7_putKind 105 = .ok (.getfield 9, 3) := by decide +kernel
theorem dX7_putKind_108 : decode cX7_putKind 108 = .ok (.iload_n 2, 1) := by decide +kernel
theorem dX7_putKind_109 : decode cX7_putKind 109 = .ok (.iaload, 1) := by decide +kernel
theorem dX7_putKind_110 : decode cX7_putKind 110 = .ok (.bipush 59, 2) := by decide +kernel
theorem dX7_putKind_112 : decode cX7_putKind 112 = .ok (.if_icmp .ne 7, 3) := by decide +kernel
theorem dX7_putKind_115 : decode cX7_putKind 115 = .ok (.iconst 4, 1) := by decide +kernel
theorem dX7_putKind_116 : decode cX7_putKind 116 = .ok (.goto 4, 3) := by decide +kernel
theorem dX7_putKind_119 : decode cX7_putKind 119 = .ok (.iconst 5, 1) := by decide +kernel
theorem dX7_putKind_120 : decode cX7_putKind 120 = .ok (.iastore, 1) := by decide +kernel
theorem dX7_putKind_121 : decode cX7_putKind 121 = .ok (.return_, 1) := by decide +kernel
theorem dX7_kindOfWord_0 : decode cX7_kindOfWord 0 = .ok (.aload_n 0, 1) := by decide +kernel
theorem dX7_kindOfWord_1 : decode cX7_kindOfWord 1 = .ok (.ldc 52, 2) := by decide +kernel
theorem dX7_kindOfWord_3 : decode cX7_kindOfWord 3 = .ok (.iload_n 1, 1) := by decide +kernel
theorem dX7_kindOfWord_4 : decode cX7_kindOfWord 4 = .ok (.iload_n 2, 1) := by decide +kernel
theorem dX7_kindOfWord_5 : decode cX7_kindOfWord 5 = .ok (.invokevirtual 54, 3) := by decide +kernel
theorem dX7_kindOfWord_8 : decode cX7_kindOfWord 8 = .ok (.ifCond .eq 5, 3) := by decide +kernel
theorem dX7_kindOfWord_11 : decode cX7_kindOfWord 11 = .ok (.iconst 1, 1) := by decide +kernel
theorem dX7_kindOfWord_12 : decode cX7_kindOfWord 12 = .ok (.ireturn, 1) := by decide +kernel
theorem dX7_kindOfWord_13 : decode cX7_kindOfWord 13 = .ok (.aload_n 0, 1) := by decide +kernel
theorem dX7_kindOfWord_14 : decode cX7_kindOfWord 14 = .ok (.ldc 58, 2) := by decide +kernel
theorem dX7_kindOfWord_16 : decode cX7_kindOfWord 16 = .ok (.iload_n 1, 1) := by decide +kernel
theorem dX7_kindOfWord_17 : decode cX7_kindOfWord 17 = .ok (.iload_n 2, 1) := by decide +kernel
theorem dX7_kindOfWord_18 : decode cX7_kindOfWord 18 = .ok (.invokevirtual 54, 3) := by decide +kernel
theorem dX7_kindOfWord_21 : decode cX7_kindOfWord 21 = .ok (.ifCond .eq 7, 3) := by decide +kernel
theorem dX7_kindOfWord_24 : decode cX7_kindOfWord 24 = .ok (.iconst 2, 1) := by decide +kernel
theorem dX7_kindOfWord_25 : decode cX7_kindOfWord 25 = .ok (.goto 4, 3) := by decide +kernel
theorem dX7_kindOfWord_28 : decode cX7_kindOfWord 28 = .ok (.iconst 5, 1) := by decide +kernel
theorem dX7_kindOfWord_29 : decode cX7_kindOfWord 29 = .ok (.ireturn, 1) := by decide +kernel
theorem dX7_isWord_0 : decode cX7_isWord 0 = .ok (.iload_n 3, 1) := by decide +kernel
theorem dX7_isWord_1 : decode cX7_isWord 1 = .ok (.iload_n 2, 1) := by decide +kernel
theorem dX7_isWord_2 : decode cX7_isWord 2 = .ok (.isub, 1) := by decide +kernel
theorem dX7_isWord_3 : decode cX7_isWord 3 = .ok (.aload_n 1, 1) := by decide +kernel
theorem dX7_isWord_4 : decode cX7_isWord 4 = .ok (.invokevirtual 60, 3) := by decide +kernel
theorem dX7_isWord_7 : decode cX7_isWord 7 = .ok (.if_icmp .eq 5, 3) := by decide +kernel
theorem dX7_isWord_10 : decode cX7_isWord 10 = .ok (.iconst 0, 1) := by decide +kernel
theorem dX7_isWord_11 : decode cX7_isWord 11 = .ok (.ireturn, 1) := by decide +kernel
theorem dX7_isWord_12 : decode cX7_isWord 12 = .ok (.iload_n 2, 1) := by decide +kernel
theorem dX7_isWord_13 : decode cX7_isWord 13 = .ok (.istore 4, 2) := by decide +kernel
theorem dX7_isWord_15 : decode cX7_isWord 15 = .ok (.iload 4, 2) := by decide +kernel
theorem dX7_isWord_17 : decode cX7_isWord 17 = .ok (.iload_n 3, 1) := by decide +kernel
theorem dX7_isWord_18 : decode cX7_isWord 18 = .ok (.if_icmp .ge 29, 3) := by decide +kernel
theorem dX7_isWord_21 : decode cX7_isWord 21 = .ok (.aload_n 0, 1) := by decide +kernel
theorem dX7_isWord_22 : decode cX7_isWord 22 = .ok (.getfield 9, 3) := by decide +kernel
theorem dX7_isWord_25 : decode cX7_isWord 25 = .ok (.iload 4, 2) := by decide +kernel
theorem dX7_isWord_27 : decode cX7_isWord 27 = .ok (.iaload, 1) := by decide +kernel
theorem dX7_isWord_28 : decode cX7_isWord 28 = .ok (.aload_n 1, 1) := by decide +kernel
theorem dX7_isWord_29 : decode cX7_isWord 29 = .ok (.iload 4, 2) := by decide +kernel
theorem dX7_isWord_31 : decode cX7_isWord 31 = .ok (.iload_n 2, 1) := by decide +kernel
theorem dX7_isWord_32 : decode cX7_isWord 32 = .ok (.isub, 1) := by decide +kernel
theorem dX7_isWord_33 : decode cX7_isWord 33 = .ok (.invokevirtual 65, 3) := by decide +kernel
theorem dX7_isWord_36 : decode cX7_isWord 36 = .ok (.if_icmp .eq 5, 3) := by decide +kernel
theorem dX7_isWord_39 : decode cX7_isWord 39 = .ok (.iconst 0, 1) := by decide +kernel
theorem dX7_isWord_40 : decode cX7_isWord 40 = .ok (.ireturn, 1) := by decide +kernel
theorem dX7_isWord_41 : decode cX7_isWord 41 = .ok (.iinc 4 1, 3) := by decide +kernel
theorem dX7_isWord_44 : decode cX7_isWord 44 = .ok (.goto (-29), 3) := by decide +kernel
theorem dX7_isWord_47 : decode cX7_isWord 47 = .ok (.iconst 1, 1) := by decide +kernel
theorem dX7_isWord_48 : decode cX7_isWord 48 = .ok (.ireturn, 1) := by decide +kernel
theorem dX7_kindOfNumber_0 : decode cX7_kindOfNumber 0 = .ok (.aload_n 0, 1) := by decide +kernel
theorem dX7_kindOfNumber_1 : decode cX7_kindOfNumber 1 = .ok (.getfield 9, 3) := by decide +kernel
theorem dX7_kindOfNumber_4 : decode cX7_kindOfNumber 4 = .ok (.iload_n 1, 1) := by decide +kernel
theorem dX7_kindOfNumber_5 : decode cX7_kindOfNumber 5 = .ok (.iaload, 1) := by decide +kernel
theorem dX7_kindOfNumber_6 : decode cX7_kindOfNumber 6 = .ok (.bipush 48, 2) := by decide +kernel
theorem dX7_kindOfNumber_8 : decode cX7_kindOfNumber 8 = .ok (.if_icmp .ne 14, 3) := by decide +kernel
theorem dX7_kindOfNumber_11 : decode cX7_kindOfNumber 11 = .ok (.iload_n 2, 1) := by decide +kernel
theorem dX7_kindOfNumber_12 : decode cX7_kindOfNumber 12 = .ok (.iload_n 1, 1) := by decide +kernel
theorem dX7_kindOfNumber_13 : decode cX7_kindOfNumber 13 = .ok (.isub, 1) := by decide +kernel
theorem dX7_kindOfNumber_14 : decode cX7_kindOfNumber 14 = .ok (.iconst 1, 1) := by decide +kernel
theorem dX7_kindOfNumber_15 : decode cX7_kindOfNumber 15 = .ok (.if_icmp .le 7, 3) := by decide +kernel
theorem dX7_kindOfNumber_18 : decode cX7_kindOfNumber 18 = .ok (.iconst 1, 1) := by decide +kernel
theorem dX7_kindOfNumber_19 : decode cX7_kindOfNumber 19 = .ok (.goto 4, 3) := by decide +kernel
theorem dX7_kindOfNumber_22 : decode cX7_kindOfNumber 22 = .ok (.iconst 0, 1) := by decide +kernel
theorem dX7_kindOfNumber_23 : decode cX7_kindOfNumber 23 = .ok (.istore_n 3, 1) := by decide +kernel
theorem dX7_kindOfNumber_24 : decode cX7_kindOfNumber 24 = .ok (.iload_n 3, 1) := by decide +kernel
theorem dX7_kindOfNumber_25 : decode cX7_kindOfNumber 25 = .ok (.ifCond .ne 10, 3) := by decide +kernel
theorem dX7_kindOfNumber_28 : decode cX7_kindOfNumber 28 = .ok (.iload_n 2, 1) := by decide +kernel
theorem dX7_kindOfNumber_29 : decode cX7_kindOfNumber 29 = .ok (.iload_n 1, 1) := by decide +kernel
theorem dX7_kindOfNumber_30 : decode cX7_kindOfNumber 30 = .ok (.isub, 1) := by decide +kernel
theorem dX7_kindOfNumber_31 : decode cX7_kindOfNumber 31 = .ok (.iconst 2, 1) := by decide +kernel
theorem dX7_kindOfNumber_32 : decode cX7_kindOfNumber 32 = .ok (.if_icmp .le 7, 3) := by decide +kernel
theorem dX7_kindOfNumber_35 : decode cX7_kindOfNumber 35 = .ok (.iconst 5, 1) := by decide +kernel
theorem dX7_kindOfNumber_36 : decode cX7_kindOfNumber 36 = .ok (.goto 4, 3) := by decide +kernel
theorem dX7_kindOfNumber_39 : decode cX7_kindOfNumber 39 = .ok (.iconst 3, 1) := by decide +kernel
theorem dX7_kindOfNumber_40 : decode cX7_kindOfNumber 40 = .ok (.ireturn, 1) := by decide +kernel
theorem dX7_valueOf_0 : decode cX7_valueOf 0 = .ok (.iconst 0, 1) := by decide +kernel
theorem dX7_valueOf_1 : decode cX7_valueOf 1 = .ok (.istore_n 3, 1) := by decide +kernel
theorem dX7_valueOf_2 : decode cX7_valueOf 2 = .ok (.iload_n 1, 1) := by decide +kernel
theorem dX7_valueOf_3 : decode cX7_valueOf 3 = .ok (.istore 4, 2) := by decide +kernel
theorem dX7_valueOf_5 : decode cX7_valueOf 5 = .ok (.iload 4, 2) := by decide +kernel
theorem dX7_valueOf_7 : decode cX7_valueOf 7 = .ok (.iload_n 2, 1) := by decide +kernel
theorem dX7_valueOf_8 : decode cX7_valueOf 8 = .ok (.if_icmp .ge 33, 3) := by decide +kernel
theorem dX7_valueOf_11 : decode cX7_valueOf 11 = .ok (.iload 4, 2) := by decide +kernel
theorem dX7_valueOf_13 : decode cX7_valueOf 13 = .ok (.iload_n 1, 1) := by decide +kernel
theorem dX7_valueOf_14 : decode cX7_valueOf 14 = .ok (.iconst 2, 1) := by decide +kernel
theorem dX7_valueOf_15 : decode cX7_valueOf 15 = .ok (.iadd, 1) := by decide +kernel
theorem dX7_valueOf_16 : decode cX7_valueOf 16 = .ok (.if_icmp .ge 25, 3) := by decide +kernel
theorem dX7_valueOf_19 : decode cX7_valueOf 19 = .ok (.bipush 10, 2) := by decide +kernel
theorem dX7_valueOf_21 : decode cX7_valueOf 21 = .ok (.iload_n 3, 1) := by decide +kernel
theorem dX7_valueOf_22 : decode cX7_valueOf 22 = .ok (.imul, 1) := by decide +kernel
theorem dX7_valueOf_23 : decode cX7_valueOf 23 = .ok (.aload_n 0, 1) := by decide +kernel
theorem dX7_valueOf_24 : decode cX7_valueOf 24 = .ok (.getfield 9, 3) := by decide +kernel
theorem dX7_valueOf_27 : decode cX7_valueOf 27 = .ok (.iload 4, 2) := by decide +kernel
theorem dX7_valueOf_29 : decode cX7_valueOf 29 = .ok (.iaload, 1) := by decide +kernel
theorem dX7_valueOf_30 : decode cX7_valueOf 30 = .ok (.iadd, 1) := by decide +kernel
theorem dX7_valueOf_31 : decode cX7_valueOf 31 = .ok (.bipush 48, 2) := by decide +kernel
theorem dX7_valueOf_33 : decode cX7_valueOf 33 = .ok (.isub, 1) := by decide +kernel
theorem dX7_valueOf_34 : decode cX7_valueOf 34 = .ok (.istore_n 3, 1) := by decide +kernel
theorem dX7_valueOf_35 : decode cX7_valueOf 35 = .ok (.iinc 4 1, 3) := by decide +kernel
theorem dX7_valueOf_38 : decode cX7_valueOf 38 = .ok (.goto (-33), 3) := by decide +kernel
theorem dX7_valueOf_41 : decode cX7_valueOf 41 = .ok (.iload_n 3, 1) := by decide +kernel
theorem dX7_valueOf_42 : decode cX7_valueOf 42 = .ok (.ireturn, 1) := by decide +kernel
theorem dX7_isSmallLetter_0 : decode cX7_isSmallLetter 0 = .ok (.iload_n 0, 1) := by decide +kernel
theorem dX7_isSmallLetter_1 : decode cX7_isSmallLetter 1 = .ok (.bipush 97, 2) := by decide +kernel
theorem dX7_isSmallLetter_3 : decode cX7_isSmallLetter 3 = .ok (.if_icmp .lt 13, 3) := by decide +kernel
theorem dX7_isSmallLetter_6 : decode cX7_isSmallLetter 6 = .ok (.iload_n 0, 1) := by decide +kernel
theorem dX7_isSmallLetter_7 : decode cX7_isSmallLetter 7 = .ok (.bipush 122, 2) := by decide +kernel
theorem dX7_isSmallLetter_9 : decode cX7_isSmallLetter 9 = .ok (.if_icmp .gt 7, 3) := by decide +kernel
theorem dX7_isSmallLetter_12 : decode cX7_isSmallLetter 12 = .ok (.iconst 1, 1) := by decide +kernel
theorem dX7_isSmallLetter_13 : decode cX7_isSmallLetter 13 = .ok (.goto 4, 3) := by decide +kernel
theorem dX7_isSmallLetter_16 : decode cX7_isSmallLetter 16 = .ok (.iconst 0, 1) := by decide +kernel
theorem dX7_isSmallLetter_17 : decode cX7_isSmallLetter 17 = .ok (.ireturn, 1) := by decide +kernel
theorem dX7_isFigure_0 : decode cX7_isFigure 0 = .ok (.iload_n 0, 1) := by decide +kernel
theorem dX7_isFigure_1 : decode cX7_isFigure 1 = .ok (.bipush 48, 2) := by decide +kernel
theorem dX7_isFigure_3 : decode cX7_isFigure 3 = .ok (.if_icmp .lt 13, 3) := by decide +kernel
theorem dX7_isFigure_6 : decode cX7_isFigure 6 = .ok (.iload_n 0, 1) := by decide +kernel
theorem dX7_isFigure_7 : decode cX7_isFigure 7 = .ok (.bipush 57, 2) := by decide +kernel
theorem dX7_isFigure_9 : decode cX7_isFigure 9 = .ok (.if_icmp .gt 7, 3) := by decide +kernel
theorem dX7_isFigure_12 : decode cX7_isFigure 12 = .ok (.iconst 1, 1) := by decide +kernel
theorem dX7_isFigure_13 : decode cX7_isFigure 13 = .ok (.goto 4, 3) := by decide +kernel
theorem dX7_isFigure_16 : decode cX7_isFigure 16 = .ok (.iconst 0, 1) := by decide +kernel
theorem dX7_isFigure_17 : decode cX7_isFigure 17 = .ok (.ireturn, 1) := by decide +kernel
theorem dX8_init_0 : decode cX8_init 0 = .ok (.aload_n 0, 1) := by decide +kernel
theorem dX8_init_1 : decode cX8_init 1 = .ok (.invokespecial 3, 3) := by decide +kernel
theorem dX8_init_4 : decode cX8_init 4 = .ok (.aload_n 0, 1) := by decide +kernel
theorem dX8_init_5 : decode cX8_init 5 = .ok (.new 9, 3) := by decide +kernel
theorem dX8_init_8 : decode cX8_init 8 = .ok (.dup, 1) := by decide +kernel
theorem dX8_init_9 : decode cX8_init 9 = .ok (.invokespecial 11, 3) := by decide +kernel
theorem dX8_init_12 : decode cX8_init 12 = .ok (.putfield 12, 3) := by decide +kernel
theorem dX8_init_15 : decode cX8_init 15 = .ok (.aload_n 0, 1) := by decide +kernel
theorem dX8_init_16 : decode cX8_init 16 = .ok (.new 16, 3) := by decide +kernel
theorem dX8_init_19 : decode cX8_init 19 = .ok (.dup, 1) := by decide +kernel
theorem dX8_init_20 : decode cX8_init 20 = .ok (.aload_n 0, 1) := by decide +kernel
theorem dX8_init_21 : decode cX8_init 21 = .ok (.getfield 12, 3) := by decide +kernel
theorem dX8_init_24 : decode cX8_init 24 = .ok (.invokespecial 18, 3) := by decide +kernel
theorem dX8_init_27 : decode cX8_init 27 = .ok (.putfield 21, 3) := by decide +kernel
theorem dX8_init_30 : decode cX8_init 30 = .ok (.aload_n 0, 1) := by decide +kernel
theorem dX8_init_31 : decode cX8_init 31 = .ok (.new 25, 3) := by decide +kernel
theorem dX8_init_34 : decode cX8_init 34 = .ok (.dup, 1) := by decide +kernel
theorem dX8_init_35 : decode cX8_init 35 = .ok (.invokespecial 27, 3) := by decide +kernel
theorem dX8_init_38 : decode cX8_init 38 = .ok (.putfield 28, 3) := by decide +kernel
theorem dX8_init_41 : decode cX8_init 41 = .ok (.aload_n 0, 1) := by decide +kernel
theorem dX8_init_42 : decode cX8_init 42 = .ok (.new 32, 3) := by decide +kernel
theorem dX8_init_45 : decode cX8_init 45 = .ok (.dup, 1) := by decide +kernel
theorem dX8_init_46 : decode cX8_init 46 = .ok (.invokespecial 34, 3) := by decide +kernel
theorem dX8_init_49 : decode cX8_init 49 = .ok (.putfield 35, 3) := by decide +kernel
theorem dX8_init_52 : decode cX8_init 52 = .ok (.aload_n 0, 1) := by decide +kernel
theorem dX8_init_53 : decode cX8_init 53 = .ok (.iconst 2, 1) := by decide +kernel
theorem dX8_init_54 : decode cX8_init 54 = .ok (.anewarray 25, 3) := by decide +kernel
theorem dX8_init_57 : decode cX8_init 57 = .ok (.putfield 39, 3) := by decide +kernel
theorem dX8_init_60 : decode cX8_init 60 = .ok (.aload_n 0, 1) := by decide +kernel
theorem dX8_init_61 : decode cX8_init 61 = .ok (.iconst 2, 1) := by decide +kernel
theorem dX8_init_62 : decode cX8_init 62 = .ok (.newarray .boolean, 2) := by decide +kernel
theorem dX8_init_64 : decode cX8_init 64 = .ok (.putfield 43, 3) := by decide +kernel
theorem dX8_init_67 : decode cX8_init 67 = .ok (.iconst 0, 1) := by decide +kernel
theorem dX8_init_68 : decode cX8_init 68 = .ok (.istore_n 1, 1) := by decide +kernel
theorem dX8_init_69 : decode cX8_init 69 = .ok (.iload_n 1, 1) := by decide +kernel
theorem dX8_init_70 : decode cX8_init 70 = .ok (.iconst 2, 1) := by decide +kernel
theorem dX8_init_71 : decode cX8_init 71 = .ok (.if_icmp .ge 22, 3) := by decide +kernel
theorem dX8_init_74 : decode cX8_init 74 = .ok (.aload_n 0, 1) := by decide +kernel
theorem dX8_init_75 : decode cX8_init 75 = .ok (.getfield 39, 3) := by decide +kernel
theorem dX8_init_78 : decode cX8_init 78 = .ok (.iload_n 1, 1) := by decide +kernel
theorem dX8_init_79 : decode cX8_init 79 = .ok (.new 25, 3) := by decide +kernel
theorem dX8_init_82 : decode cX8_init 82 = .ok (.dup, 1) := by decide +kernel
theorem dX8_init_83 : decode cX8_init 83 = .ok (.invokespecial 27, 3) := by decide +kernel
theorem dX8_init_86 : decode cX8_init 86 = .ok (.aastore, 1) := by decide +kernel
theorem dX8_init_87 : decode cX8_init 87 = .ok (.iinc 1 1, 3) := by decide +kernel
theorem dX8_init_90 : decode cX8_init 90 = .ok (.goto (-21), 3) := by decide +kernel
theorem dX8_init_93 : decode cX8_init 93 = .ok (.aload_n 0, 1) := by decide +kernel
theorem dX8_init_94 : decode cX8_init 94 = .ok (.new 47, 3) := by decide +kernel
theorem dX8_init_97 : decode cX8_init 97 = .ok (.dup, 1) := by decide +kernel
theorem dX8_init_98 : decode cX8_init 98 = .ok (.invokespecial 49, 3) := by decide +kernel
theorem dX8_init_101 : decode cX8_init 101 = .ok (.putfield 50, 3) := by decide +kernel
theorem dX8_init_104 : decode cX8_init 104 = .ok (.aload_n 0, 1) := by decide +kernel
theorem dX8_init_105 : decode cX8_init 105 = .ok (.iconst 4, 1) := by decide +kernel
theorem dX8_init_106 : decode cX8_init 106 = .ok (.anewarray 54, 3) := by decide +kernel
theorem dX8_init_109 : decode cX8_init 109 = .ok (.putfield 56, 3) := by decide +kernel
theorem dX8_init_112 : decode cX8_init 112 = .ok (.aload_n 0, 1) := by decide +kernel
theorem dX8_init_113 : decode cX8_init 113 = .ok (.iconst 4, 1) := by decide +kernel
theorem dX8_init_114 : decode cX8_init 114 = .ok (.anewarray 54, 3) := by decide +kernel
theorem dX8_init_117 : decode cX8_init 117 = .ok (.putfield 60, 3) := by decide +kernel
theorem dX8_init_120 : decode cX8_init 120 = .ok (.iconst 0, 1) := by decide +kernel
theorem dX8_init_121 : decode cX8_init 121 = .ok (.istore_n 1, 1) := by decide +kernel
theorem dX8_init_122 : decode cX8_init 122 = .ok (.iload_n 1, 1) := by decide +kernel
theorem dX8_init_123 : decode cX8_init 123 = .ok (.iconst 4, 1) := by decide +kernel
theorem dX8_init_124 : decode cX8_init 124 = .ok (.if_icmp .ge 37, 3) := by decide +kernel
theorem dX8_init_127 : decode cX8_init 127 = .ok (.aload_n 0, 1) := by decide +kernel
theorem dX8_init_128 : decode cX8_init 128 = .ok (.getfield 56, 3) := by decide +kernel
theorem dX8_init_131 : decode cX8_init 131 = .ok (.iload_n 1, 1) := by decide +kernel
theorem dX8_init_132 : decode cX8_init 132 = .ok (.new 54, 3) := by decide +kernel
theorem dX8_init_135 : decode cX8_init 135 = .ok (.dup, 1) := by decide +kernel
theorem dX8_init_136 : decode cX8_init 136 = .ok (.iconst 1, 1) := by decide +kernel
theorem dX8_init_137 : decode cX8_init 137 = .ok (.invokespecial 63, 3) := by decide +kernel
theorem dX8_init_140 : decode cX8_init 140 = .ok (.aastore, 1) := by decide +kernel
theorem dX8_init_141 : decode cX8_init 141 = .ok (.aload_n 0, 1) := by decide +kernel
theorem dX8_init_142 : decode cX8_init 142 = .ok (.getfield 60, 3) := by decide +kernel
theorem dX8_init_145 : decode cX8_init 145 = .ok (.iload_n 1, 1) := by decide +kernel
theorem dX8_init_146 : decode cX8_init 146 = .ok (.new 54, 3) := by decide +kernel
theorem dX8_init_149 : decode cX8_init 149 = .ok (.dup, 1) := by decide +kernel
theorem dX8_init_150 : decode cX8_init 150 = .ok (.iconst 0, 1) := by decide +kernel
theorem dX8_init_151 : decode cX8_init 151 = .ok (.invokespecial 63, 3) := by decide +kernel
theorem dX8_init_154 : decode cX8_init 154 = .ok (.aastore, 1) := by decide +kernel
theorem dX8_init_155 : decode cX8_init 155 = .ok (.iinc 1 1, 3) := by decide +kernel
theorem dX8_init_158 : decode cX8_init 158 = .ok (.goto (-36), 3) := by decide +kernel
theorem dX8_init_161 : decode cX8_init 161 = .ok (.aload_n 0, 1) := by decide +kernel
theorem dX8_init_162 : decode cX8_init 162 = .ok (.new 66, 3) := by decide +kernel
theorem dX8_init_165 : decode cX8_init 165 = .ok (.dup, 1) := by decide +kernel
theorem dX8_init_166 : decode cX8_init 166 = .ok (.invokespecial 68, 3) := by decide +kernel
theorem dX8_init_169 : decode cX8_init 169 = .ok (.putfield 69, 3) := by decide +kernel
theorem dX8_init_172 : decode cX8_init 172 = .ok (.aload_n 0, 1) := by decide +kernel
theorem dX8_init_173 : decode cX8_init 173 = .ok (.iconst 4, 1) := by decide +kernel
theorem dX8_init_174 : decode cX8_init 174 = .ok (.newarray .int, 2) := by decide +kernel
theorem dX8_init_176 : decode cX8_init 176 = .ok (.putfield 73, 3) := by decide +kernel
theorem dX8_init_179 : decode cX8_init 179 = .ok (.return_, 1) := by decide +kernel
theorem dX8_type_0 : decode cX8_type 0 = .ok (.iload_n 1, 1) := by decide +kernel
theorem dX8_type_1 : decode cX8_type 1 = .ok (.ifCond .lt 10, 3) := by decide +kernel
theorem dX8_type_4 : decode cX8_type 4 = .ok (.iload_n 1, 1) := by decide +kernel
theorem dX8_type_5 : decode cX8_type 5 = .ok (.sipush 255, 3) := by decide +kernel
theorem dX8_type_8 : decode cX8_type 8 = .ok (.if_icmp .le 5, 3) := by decide +kernel
theorem dX8_type_11 : decode cX8_type 11 = .ok (.iconst (-1), 1) := by decide +kernel
theorem dX8_type_12 : decode cX8_type 12 = .ok (.ireturn, 1) := by decide +kernel
theorem dX8_type_13 : decode cX8_type 13 = .ok (.aload_n 0, 1) := by decide +kernel
theorem dX8_type_14 : decode cX8_type 14 = .ok (.getfield 12, 3) := by decide +kernel
theorem dX8_type_17 : decode cX8_type 17 = .ok (.iload_n 1, 1) := by decide +kernel
theorem dX8_type_18 : decode cX8_type 18 = .ok (.invokevirtual 77, 3) := by decide +kernel
theorem dX8_type_21 : decode cX8_type 21 = .ok (.ifCond .eq 13, 3) := by decide +kernel
theorem dX8_type_24 : decode cX8_type 24 = .ok (.aload_n 0, 1) := by decide +kernel
theorem dX8_type_25 : decode cX8_type 25 = .ok (.getfield 12, 3) := by decide +kernel
theorem dX8_type_28 : decode cX8_type 28 = .ok (.getfield 81, 3) := by decide +kernel
theorem dX8_type_31 : decode cX8_type 31 = .ok (.goto 5, 3) := by decide +kernel
theorem dX8_type_34 : decode cX8_type 34 = .ok (.bipush (-3), 2) := by decide +kernel
theorem dX8_type_36 : decode cX8_type 36 = .ok (.ireturn, 1) := by decide +kernel
theorem dX8_clear_0 : decode cX8_clear 0 = .ok (.aload_n 0, 1) := by decide +kernel
theorem dX8_clear_1 : decode cX8_clear 1 = .ok (.getfield 12, 3) := by decide +kernel
theorem dX8_clear_4 : decode cX8_clear 4 = .ok (.getfield 81, 3) := by decide +kernel
theorem dX8_clear_7 : decode cX8_clear 7 = .ok (.istore_n 1, 1) := by decide +kernel
theorem dX8_clear_8 : decode cX8_clear 8 = .ok (.aload_n 0, 1) := by decide +kernel
theorem dX8_clear_9 : decode cX8_clear 9 = .ok (.getfield 12, 3) := by decide +kernel
theorem dX8_clear_12 : decode cX8_clear 12 = .ok (.iconst 0, 1) := by decide +kernel
theorem dX8_clear_13 : decode cX8_clear 13 = .ok (.putfield 81, 3) := by decide +kernel
theorem dX8_clear_16 : decode cX8_clear 16 = .ok (.iload_n 1, 1) := by decide +kernel
theorem dX8_clear_17 : decode cX8_clear 17 = .ok (.ireturn, 1) := by decide +kernel
theorem dX8_tells_0 : decode cX8_tells 0 = .ok (.aload_n 0, 1) := by decide +kernel
theorem dX8_tells_1 : decode cX8_tells 1 = .ok (.getfield 21, 3) := by decide +kernel
theorem dX8_tells_4 : decode cX8_tells 4 = .ok (.invokevirtual 85, 3) := by decide +kernel
theorem dX8_tells_7 : decode cX8_tells 7 = .ok (.ifCond .ne 14, 3) := by decide +kernel
theorem dX8_tells_10 : decode cX8_tells 10 = .ok (.bipush (-10), 2) := by decide +kernel
theorem dX8_tells_12 : decode cX8_tells 12 = .ok (.aload_n 0, 1) := by decide +kernel
theorem dX8_tells_13 : decode cX8_tells 13 = .ok (.getfield 21, 3) := by decide +kernel
theorem dX8_tells_16 : decode cX8_tells 16 = .ok (.invokevirtual 89, 3) := by decide +kernel
theorem dX8_tells_19 : decode cX8_tells 19 = .ok (.isub, 1) := by decide +kernel
theorem dX8_tells_20 : decode cX8_tells 20 = .ok (.ireturn, 1) := by decide +kernel
theorem dX8_tells_21 : decode cX8_tells 21 = .ok (.aload_n 0, 1) := by decide +kernel
theorem dX8_tells_22 : decode cX8_tells 22 = .ok (.getfield 35, 3) := by decide +kernel
theorem dX8_tells_25 : decode cX8_tells 25 = .ok (.aload_n 0, 1) := by decide +kernel
theorem dX8_tells_26 : decode cX8_tells 26 = .ok (.getfield 28, 3) := by decide +kernel
theorem dX8_tells_29 : decode cX8_tells 29 = .ok (.invokevirtual 93, 3) := by decide +kernel
theorem dX8_tells_32 : decode cX8_tells 32 = .ok (.aload_n 0, 1) := by decide +kernel
theorem dX8_tells_33 : decode cX8_tells 33 = .ok (.getfield 28, 3) := by decide +kernel
theorem dX8_tells_36 : decode cX8_tells 36 = .ok (.aload_n 0, 1) := by decide +kernel
theorem dX8_tells_37 : decode cX8_tells 37 = .ok (.getfield 21, 3) := by decide +kernel
theorem dX8_tells_40 : decode cX8_tells 40 = .ok (.getfield 97, 3) := by decide +kernel
theorem dX8_tells_43 : decode cX8_tells 43 = .ok (.invokevirtual 100, 3) := by decide +kernel
theorem dX8_tells_46 : decode cX8_tells 46 = .ok (.aload_n 0, 1) := by decide +kernel
theorem dX8_tells_47 : decode cX8_tells 47 = .ok (.getfield 12, 3) := by decide +kernel
theorem dX8_tells_50 : decode cX8_tells 50 = .ok (.iconst 0, 1) := by decide +kernel
theorem dX8_tells_51 : decode cX8_tells 51 = .ok (.putfield 81, 3) := by decide +kernel
theorem dX8_tells_54 : decode cX8_tells 54 = .ok (.aload_n 0, 1) := by decide +kernel
theorem dX8_tells_55 : decode cX8_tells 55 = .ok (.getfield 21, 3) := by decide +kernel
theorem dX8_tells_58 : decode cX8_tells 58 = .ok (.getfield 103, 3) := by decide +kernel
theorem dX8_tells_61 : decode cX8_tells 61 = .ok (.ireturn, 1) := by decide +kernel
theorem dX8_fills_0 : decode cX8_fills 0 = .ok (.aload_n 0, 1) := by decide +kernel
theorem dX8_fills_1 : decode cX8_fills 1 = .ok (.getfield 28, 3) := by decide +kernel
theorem dX8_fills_4 : decode cX8_fills 4 = .ok (.iload_n 1, 1) := by decide +kernel
theorem dX8_fills_5 : decode cX8_fills 5 = .ok (.invokevirtual 106, 3) := by decide +kernel
theorem dX8_fills_8 : decode cX8_fills 8 = .ok (.ifCond .eq 17, 3) := by decide +kernel
theorem dX8_fills_11 : decode cX8_fills 11 = .ok (.iload_n 2, 1) := by decide +kernel
theorem dX8_fills_12 : decode cX8_fills 12 = .ok (.iconst 1, 1) := by decide +kernel
theorem dX8_fills_13 : decode cX8_fills 13 = .ok (.if_icmp .lt 12, 3) := by decide +kernel
theorem dX8_fills_16 : decode cX8_fills 16 = .ok (.iload_n 3, 1) := by decide +kernel
theorem dX8_fills_17 : decode cX8_fills 17 = .ok (.ifCond .lt 8, 3) := by decide +kernel
theorem dX8_fills_20 : decode cX8_fills 20 = .ok (.iload_n 3, 1) := by decide +kernel
theorem dX8_fills_21 : decode cX8_fills 21 = .ok (.iload_n 2, 1) := by decide +kernel
theorem dX8_fills_22 : decode cX8_fills 22 = .ok (.if_icmp .le 5, 3) := by decide +kernel
theorem dX8_fills_25 : decode cX8_fills 25 = .ok (.iconst (-1), 1) := by decide +kernel
theorem dX8_fills_26 : decode cX8_fills 26 = .ok (.ireturn, 1) := by decide +kernel
theorem dX8_fills_27 : decode cX8_fills 27 = .ok (.iload_n 2, 1) := by decide +kernel
theorem dX8_fills_28 : decode cX8_fills 28 = .ok (.aload_n 0, 1) := by decide +kernel
theorem dX8_fills_29 : decode cX8_fills 29 = .ok (.iload_n 1, 1) := by decide +kernel
theorem dX8_fills_30 : decode cX8_fills 30 = .ok (.invokevirtual 109, 3) := by decide +kernel
theorem dX8_fills_33 : decode cX8_fills 33 = .ok (.if_icmp .le 6, 3) := by decide +kernel
theorem dX8_fills_36 : decode cX8_fills 36 = .ok (.bipush (-3), 2) := by decide +kernel
theorem dX8_fills_38 : decode cX8_fills 38 = .ok (.ireturn, 1) := by decide +kernel
theorem dX8_fills_39 : decode cX8_fills 39 = .ok (.aload_n 0, 1) := by decide +kernel
theorem dX8_fills_40 : decode cX8_fills 40 = .ok (.getfield 35, 3) := by decide +kernel
theorem dX8_fills_43 : decode cX8_fills 43 = .ok (.aload_n 0, 1) := by decide +kernel
theorem dX8_fills_44 : decode cX8_fills 44 = .ok (.getfield 28, 3) := by decide +kernel
theorem dX8_fills_47 : decode cX8_fills 47 = .ok (.invokevirtual 93, 3) := by decide +kernel
theorem dX8_fills_50 : decode cX8_fills 50 = .ok (.aload_n 0, 1) := by decide +kernel
theorem dX8_fills_51 : decode cX8_fills 51 = .ok (.getfield 28, 3) := by decide +kernel
theorem dX8_fills_54 : decode cX8_fills 54 = .ok (.getfield 113, 3) := by decide +kernel
theorem dX8_fills_57 : decode cX8_fills 57 = .ok (.iload_n 1, 1) := by decide +kernel
theorem dX8_fills_58 : decode cX8_fills 58 = .ok (.aaload, 1) := by decide +kernel
theorem dX8_fills_59 : decode cX8_fills 59 = .ok (.iload_n 2, 1) := by decide +kernel
theorem dX8_fills_60 : decode cX8_fills 60 = .ok (.iload_n 3, 1) := by decide +kernel
theorem dX8_fills_61 : decode cX8_fills 61 = .ok (.invokevirtual 117, 3) := by decide +kernel
theorem dX8_fills_64 : decode cX8_fills 64 = .ok (.aload_n 0, 1) := by decide +kernel
theorem dX8_fills_65 : decode cX8_fills 65 = .ok (.getfield 28, 3) := by decide +kernel
theorem dX8_fills_68 : decode cX8_fills 68 = .ok (.getfield 113, 3) := by decide +kernel
theorem dX8_fills_71 : decode cX8_fills 71 = .ok (.iload_n 1, 1) := by decide +kernel
theorem dX8_fills_72 : decode cX8_fills 72 = .ok (.aaload, 1) := by decide +kernel
theorem dX8_fills_73 : decode cX8_fills 73 = .ok (.getfield 123, 3) := by decide +kernel
theorem dX8_fills_76 : decode cX8_fills 76 = .ok (.ireturn, 1) := by decide +kernel
theorem dX8_draws_0 : decode cX8_draws 0 = .ok (.aload_n 0, 1) := by decide +kernel
theorem dX8_draws_1 : decode cX8_draws 1 = .ok (.getfield 28, 3) := by decide +kernel
theorem dX8_draws_4 : decode cX8_draws 4 = .ok (.iload_n 1, 1) := by decide +kernel
theorem dX8_draws_5 : decode cX8_draws 5 = .ok (.invokevirtual 106, 3) := by decide +kernel
theorem dX8_draws_8 : decode cX8_draws 8 = .ok (.ifCond .eq 8, 3) := by decide +kernel
theorem dX8_draws_11 : decode cX8_draws 11 = .ok (.iload_n 2, 1) := by decide +kernel
theorem dX8_draws_12 : decode cX8_draws 12 = .ok (.iconst 1, 1) := by decide +kernel
theorem dX8_draws_13 : decode cX8_draws 13 = .ok (.if_icmp .ge 5, 3) := by decide +kernel
theorem dX8_draws_16 : decode cX8_draws 16 = .ok (.iconst (-1), 1) := by decide +kernel
theorem dX8_draws_17 : decode cX8_draws 17 = .ok (.ireturn, 1) := by decide +kernel
theorem dX8_draws_18 : decode cX8_draws 18 = .ok (.iload_n 2, 1) := by decide +kernel
theorem dX8_draws_19 : decode cX8_draws 19 = .ok (.aload_n 0, 1) := by decide +kernel
theorem dX8_draws_20 : decode cX8_draws 20 = .ok (.getfield 28, 3) := by decide +kernel
theorem dX8_draws_23 : decode cX8_draws 23 = .ok (.getfield 113, 3) := by decide +kernel
theorem dX8_draws_26 : decode cX8_draws 26 = .ok (.iload_n 1, 1) := by decide +kernel
theorem dX8_draws_27 : decode cX8_draws 27 = .ok (.aaload, 1) := by decide +kernel
theorem dX8_draws_28 : decode cX8_draws 28 = .ok (.getfield 123, 3) := by decide +kernel
theorem dX8_draws_31 : decode cX8_draws 31 = .ok (.if_icmp .le 6, 3) := by decide +kernel
theorem dX8_draws_34 : decode cX8_draws 34 = .ok (.bipush (-2), 2) := by decide +kernel
theorem dX8_draws_36 : decode cX8_draws 36 = .ok (.ireturn, 1) := by decide +kernel
theorem dX8_draws_37 : decode cX8_draws 37 = .ok (.aload_n 0, 1) := by decide +kernel
theorem dX8_draws_38 : decode cX8_draws 38 = .ok (.getfield 35, 3) := by decide +kernel
theorem dX8_draws_41 : decode cX8_draws 41 = .ok (.aload_n 0, 1) := by decide +kernel
theorem dX8_draws_42 : decode cX8_draws 42 = .ok (.getfield 28, 3) := by decide +kernel
theorem dX8_draws_45 : decode cX8_draws 45 = .ok (.invokevirtual 93, 3) := by decide +kernel
theorem dX8_draws_48 : decode cX8_draws 48 = .ok (.aload_n 0, 1) := by decide +kernel
theorem dX8_draws_49 : decode cX8_draws 49 = .ok (.getfield 28, 3) := by decide +kernel
theorem dX8_draws_52 : decode cX8_draws 52 = .ok (.getfield 113, 3) := by decide +kernel
theorem dX8_draws_55 : decode cX8_draws 55 = .ok (.iload_n 1, 1) := by decide +kernel
theorem dX8_draws_56 : decode cX8_draws 56 = .ok (.aaload, 1) := by decide +kernel
theorem dX8_draws_57 : decode cX8_draws 57 = .ok (.iload_n 2, 1) := by decide +kernel
theorem dX8_draws_58 : decode cX8_draws 58 = .ok (.invokevirtual 126, 3) := by decide +kernel
theorem dX8_draws_61 : decode cX8_draws 61 = .ok (.pop, 1) := by decide +kernel
theorem dX8_draws_62 : decode cX8_draws 62 = .ok (.aload_n 0, 1) := by decide +kernel
theorem dX8_draws_63 : decode cX8_draws 63 = .ok (.getfield 28, 3) := by decide +kernel
theorem dX8_draws_66 : decode cX8_draws 66 = .ok (.getfield 113, 3) := by decide +kernel
theorem dX8_draws_69 : decode cX8_draws 69 = .ok (.iload_n 1, 1) := by decide +kernel
theorem dX8_draws_70 : decode cX8_draws 70 = .ok (.aaload, 1) := by decide +kernel
theorem dX8_draws_71 : decode cX8_draws 71 = .ok (.getfield 123, 3) := by decide +kernel
theorem dX8_draws_74 : decode cX8_draws 74 = .ok (.ireturn, 1) := by decide +kernel
