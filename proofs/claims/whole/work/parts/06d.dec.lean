theorem dX9_init_0 : decode cX9_init 0 = .ok (.aload_n 0, 1) := by decide +kernel
theorem dX9_init_1 : decode cX9_init 1 = .ok (.invokespecial 1, 3) := by decide +kernel
theorem dX9_init_4 : decode cX9_init 4 = .ok (.aload_n 0, 1) := by decide +kernel
theorem dX9_init_5 : decode cX9_init 5 = .ok (.bipush 25, 2) := by decide +kernel
theorem dX9_init_7 : decode cX9_init 7 = .ok (.newarray .int, 2) := by decide +kernel
theorem dX9_init_9 : decode cX9_init 9 = .ok (.putfield 7, 3) := by decide +kernel
theorem dX9_init_12 : decode cX9_init 12 = .ok (.aload_n 0, 1) := by decide +kernel
theorem dX9_init_13 : decode cX9_init 13 = .ok (.bipush 25, 2) := by decide +kernel
theorem dX9_init_15 : decode cX9_init 15 = .ok (.newarray .int, 2) := by decide +kernel
theorem dX9_init_17 : decode cX9_init 17 = .ok (.putfield 13, 3) := by decide +kernel
theorem dX9_init_20 : decode cX9_init 20 = .ok (.aload_n 0, 1) := by decide +kernel
theorem dX9_init_21 : decode cX9_init 21 = .ok (.sipush 200, 3) := by decide +kernel
theorem dX9_init_24 : decode cX9_init 24 = .ok (.newarray .int, 2) := by decide +kernel
theorem dX9_init_26 : decode cX9_init 26 = .ok (.putfield 16, 3) := by decide +kernel
theorem dX9_init_29 : decode cX9_init 29 = .ok (.aload_n 0, 1) := by decide +kernel
theorem dX9_init_30 : decode cX9_init 30 = .ok (.bipush 50, 2) := by decide +kernel
theorem dX9_init_32 : decode cX9_init 32 = .ok (.newarray .int, 2) := by decide +kernel
theorem dX9_init_34 : decode cX9_init 34 = .ok (.putfield 19, 3) := by decide +kernel
theorem dX9_init_37 : decode cX9_init 37 = .ok (.aload_n 0, 1) := by decide +kernel
theorem dX9_init_38 : decode cX9_init 38 = .ok (.iconst 2, 1) := by decide +kernel
theorem dX9_init_39 : decode cX9_init 39 = .ok (.newarray .boolean, 2) := by decide +kernel
theorem dX9_init_41 : decode cX9_init 41 = .ok (.putfield 22, 3) := by decide +kernel
theorem dX9_init_44 : decode cX9_init 44 = .ok (.aload_n 0, 1) := by decide +kernel
theorem dX9_init_45 : decode cX9_init 45 = .ok (.bipush 12, 2) := by decide +kernel
theorem dX9_init_47 : decode cX9_init 47 = .ok (.newarray .int, 2) := by decide +kernel
theorem dX9_init_49 : decode cX9_init 49 = .ok (.putfield 26, 3) := by decide +kernel
theorem dX9_init_52 : decode cX9_init 52 = .ok (.aload_n 0, 1) := by decide +kernel
theorem dX9_init_53 : decode cX9_init 53 = .ok (.bipush 60, 2) := by decide +kernel
theorem dX9_init_55 : decode cX9_init 55 = .ok (.newarray .byte, 2) := by decide +kernel
theorem dX9_init_57 : decode cX9_init 57 = .ok (.putfield 29, 3) := by decide +kernel
theorem dX9_init_60 : decode cX9_init 60 = .ok (.aload_n 0, 1) := by decide +kernel
theorem dX9_init_61 : decode cX9_init 61 = .ok (.bipush 41, 2) := by decide +kernel
theorem dX9_init_63 : decode cX9_init 63 = .ok (.newarray .int, 2) := by decide +kernel
theorem dX9_init_65 : decode cX9_init 65 = .ok (.putfield 33, 3) := by decide +kernel
theorem dX9_init_68 : decode cX9_init 68 = .ok (.aload_n 0, 1) := by decide +kernel
theorem dX9_init_69 : decode cX9_init 69 = .ok (.sipush 4000, 3) := by decide +kernel
theorem dX9_init_72 : decode cX9_init 72 = .ok (.newarray .int, 2) := by decide +kernel
theorem dX9_init_74 : decode cX9_init 74 = .ok (.putfield 36, 3) := by decide +kernel
theorem dX9_init_77 : decode cX9_init 77 = .ok (.return_, 1) := by decide +kernel
theorem dX9_in_0 : decode cX9_in 0 = .ok (.iload_n 0, 1) := by decide +kernel
theorem dX9_in_1 : decode cX9_in 1 = .ok (.iload_n 1, 1) := by decide +kernel
theorem dX9_in_2 : decode cX9_in 2 = .ok (.if_icmp .lt 12, 3) := by decide +kernel
theorem dX9_in_5 : decode cX9_in 5 = .ok (.iload_n 0, 1) := by decide +kernel
theorem dX9_in_6 : decode cX9_in 6 = .ok (.iload_n 2, 1) := by decide +kernel
theorem dX9_in_7 : decode cX9_in 7 = .ok (.if_icmp .gt 7, 3) := by decide +kernel
theorem dX9_in_10 : decode cX9_in 10 = .ok (.iconst 1, 1) := by decide +kernel
theorem dX9_in_11 : decode cX9_in 11 = .ok (.goto 4, 3) := by decide +kernel
theorem dX9_in_14 : decode cX9_in 14 = .ok (.iconst 0, 1) := by decide +kernel
theorem dX9_in_15 : decode cX9_in 15 = .ok (.ireturn, 1) := by decide +kernel
theorem dX9_type_0 : decode cX9_type 0 = .ok (.aload_n 0, 1) := by decide +kernel
theorem dX9_type_1 : decode cX9_type 1 = .ok (.iconst 0, 1) := by decide +kernel
theorem dX9_type_2 : decode cX9_type 2 = .ok (.putfield 39, 3) := by decide +kernel
theorem dX9_type_5 : decode cX9_type 5 = .ok (.iload_n 1, 1) := by decide +kernel
theorem dX9_type_6 : decode cX9_type 6 = .ok (.iconst 0, 1) := by decide +kernel
theorem dX9_type_7 : decode cX9_type 7 = .ok (.sipush 255, 3) := by decide +kernel
theorem dX9_type_10 : decode cX9_type 10 = .ok (.invokestatic 43, 3) := by decide +kernel
theorem dX9_type_13 : decode cX9_type 13 = .ok (.ifCond .ne 5, 3) := by decide +kernel
theorem dX9_type_16 : decode cX9_type 16 = .ok (.iconst (-1), 1) := by decide +kernel
theorem dX9_type_17 : decode cX9_type 17 = .ok (.ireturn, 1) := by decide +kernel
theorem dX9_type_18 : decode cX9_type 18 = .ok (.aload_n 0, 1) := by decide +kernel
theorem dX9_type_19 : decode cX9_type 19 = .ok (.getfield 47, 3) := by decide +kernel
theorem dX9_type_22 : decode cX9_type 22 = .ok (.bipush 60, 2) := by decide +kernel
theorem dX9_type_24 : decode cX9_type 24 = .ok (.if_icmp .ne 6, 3) := by decide +kernel
theorem dX9_type_27 : decode cX9_type 27 = .ok (.bipush (-3), 2) := by decide +kernel
theorem dX9_type_29 : decode cX9_type 29 = .ok (.ireturn, 1) := by decide +kernel
theorem dX9_type_30 : decode cX9_type 30 = .ok (.aload_n 0, 1) := by decide +kernel
theorem dX9_type_31 : decode cX9_type 31 = .ok (.getfield 29, 3) := by decide +kernel
theorem dX9_type_34 : decode cX9_type 34 = .ok (.aload_n 0, 1) := by decide +kernel
theorem dX9_type_35 : decode cX9_type 35 = .ok (.getfield 47, 3) := by decide +kernel
theorem dX9_type_38 : decode cX9_type 38 = .ok (.iload_n 1, 1) := by decide +kernel
theorem dX9_type_39 : decode cX9_type 39 = .ok (.i2b, 1) := by decide +kernel
theorem dX9_type_40 : decode cX9_type 40 = .ok (.bastore, 1) := by decide +kernel
theorem dX9_type_41 : decode cX9_type 41 = .ok (.aload_n 0, 1) := by decide +kernel
theorem dX9_type_42 : decode cX9_type 42 = .ok (.dup, 1) := by decide +kernel
theorem dX9_type_43 : decode cX9_type 43 = .ok (.getfield 47, 3) := by decide +kernel
theorem dX9_type_46 : decode cX9_type 46 = .ok (.iconst 1, 1) := by decide +kernel
theorem dX9_type_47 : decode cX9_type 47 = .ok (.iadd, 1) := by decide +kernel
theorem dX9_type_48 : decode cX9_type 48 = .ok (.putfield 47, 3) := by decide +kernel
theorem dX9_type_51 : decode cX9_type 51 = .ok (.aload_n 0, 1) := by decide +kernel
theorem dX9_type_52 : decode cX9_type 52 = .ok (.getfield 47, 3) := by decide +kernel
theorem dX9_type_55 : decode cX9_type 55 = .ok (.ireturn, 1) := by decide +kernel
theorem dX9_clear_0 : decode cX9_clear 0 = .ok (.aload_n 0, 1) := by decide +kernel
theorem dX9_clear_1 : decode cX9_clear 1 = .ok (.iconst 0, 1) := by decide +kernel
theorem dX9_clear_2 : decode cX9_clear 2 = .ok (.putfield 39, 3) := by decide +kernel
theorem dX9_clear_5 : decode cX9_clear 5 = .ok (.aload_n 0, 1) := by decide +kernel
theorem dX9_clear_6 : decode cX9_clear 6 = .ok (.getfield 47, 3) := by decide +kernel
theorem dX9_clear_9 : decode cX9_clear 9 = .ok (.istore_n 1, 1) := by decide +kernel
theorem dX9_clear_10 : decode cX9_clear 10 = .ok (.aload_n 0, 1) := by decide +kernel
theorem dX9_clear_11 : decode cX9_clear 11 = .ok (.iconst 0, 1) := by decide +kernel
theorem dX9_clear_12 : decode cX9_clear 12 = .ok (.putfield 47, 3) := by decide +kernel
theorem dX9_clear_15 : decode cX9_clear 15 = .ok (.iload_n 1, 1) := by decide +kernel
theorem dX9_clear_16 : decode cX9_clear 16 = .ok (.ireturn, 1) := by decide +kernel
theorem dX9_at_0 : decode cX9_at 0 = .ok (.iload_n 1, 1) := by decide +kernel
theorem dX9_at_1 : decode cX9_at 1 = .ok (.aload_n 0, 1) := by decide +kernel
theorem dX9_at_2 : decode cX9_at 2 = .ok (.getfield 47, 3) := by decide +kernel
theorem dX9_at_5 : decode cX9_at 5 = .ok (.if_icmp .ge 16, 3) := by decide +kernel
theorem dX9_at_8 : decode cX9_at 8 = .ok (.aload_n 0, 1) := by decide +kernel
theorem dX9_at_9 : decode cX9_at 9 = .ok (.getfield 29, 3) := by decide +kernel
theorem dX9_at_12 : decode cX9_at 12 = .ok (.iload_n 1, 1) := by decide +kernel
theorem dX9_at_13 : decode cX9_at 13 = .ok (.baload, 1) := by decide +kernel
theorem dX9_at_14 : decode cX9_at 14 = .ok (.sipush 255, 3) := by decide +kernel
theorem dX9_at_17 : decode cX9_at 17 = .ok (.iand, 1) := by decide +kernel
theorem dX9_at_18 : decode cX9_at 18 = .ok (.goto 4, 3) := by decide +kernel
theorem dX9_at_21 : decode cX9_at 21 = .ok (.iconst (-1), 1) := by decide +kernel
theorem dX9_at_22 : decode cX9_at 22 = .ok (.ireturn, 1) := by decide +kernel
theorem dX9_isCaskWord_0 : decode cX9_isCaskWord 0 = .ok (.aload_n 0, 1) := by decide +kernel
theorem dX9_isCaskWord_1 : decode cX9_isCaskWord 1 = .ok (.getfield 50, 3) := by decide +kernel
theorem dX9_isCaskWord_4 : decode cX9_isCaskWord 4 = .ok (.aload_n 0, 1) := by decide +kernel
theorem dX9_isCaskWord_5 : decode cX9_isCaskWord 5 = .ok (.getfield 53, 3) := by decide +kernel
theorem dX9_isCaskWord_8 : decode cX9_isCaskWord 8 = .ok (.isub, 1) := by decide +kernel
theorem dX9_isCaskWord_9 : decode cX9_isCaskWord 9 = .ok (.iconst 4, 1) := by decide +kernel
theorem dX9_isCaskWord_10 : decode cX9_isCaskWord 10 = .ok (.if_icmp .ne 65, 3) := by decide +kernel
theorem dX9_isCaskWord_13 : decode cX9_isCaskWord 13 = .ok (.aload_n 0, 1) := by decide +kernel
theorem dX9_isCaskWord_14 : decode cX9_isCaskWord 14 = .ok (.aload_n 0, 1) := by decide +kernel
theorem dX9_isCaskWord_15 : decode cX9_isCaskWord 15 = .ok (.getfield 53, 3) := by decide +kernel
theorem dX9_isCaskWord_18 : decode cX9_isCaskWord 18 = .ok (.invokevirtual 56, 3) := by decide +kernel
theorem dX9_isCaskWord_21 : decode cX9_isCaskWord 21 = .ok (.bipush 99, 2) := by decide +kernel
theorem dX9_isCaskWord_23 : decode cX9_isCaskWord 23 = .ok (.if_icmp .ne 52, 3) := by decide +kernel
theorem dX9_isCaskWord_26 : decode cX9_isCaskWord 26 = .ok (.aload_n 0, 1) := by decide +kernel
theorem dX9_isCaskWord_27 : decode cX9_isCaskWord 27 = .ok (.aload_n 0, 1) := by decide +kernel
theorem dX9_isCaskWord_28 : decode cX9_isCaskWord 28 = .ok (.getfield 53, 3) := by decide +kernel
theorem dX9_isCaskWord_31 : decode cX9_isCaskWord 31 = .ok (.iconst 1, 1) := by decide +kernel
theorem dX9_isCaskWord_32 : decode cX9_isCaskWord 32 = .ok (.iadd, 1) := by decide +kernel
theorem dX9_isCaskWord_33 : decode cX9_isCaskWord 33 = .ok (.invokevirtual 56, 3) := by decide +kernel
theorem dX9_isCaskWord_36 : decode cX9_isCaskWord 36 = .ok (.bipush 97, 2) := by decide +kernel
theorem dX9_isCaskWord_38 : decode cX9_isCaskWord 38 = .ok (.if_icmp .ne 37, 3) := by decide +kernel
theorem dX9_isCaskWord_41 : decode cX9_isCaskWord 41 = .ok (.aload_n 0, 1) := by decide +kernel
theorem dX9_isCaskWord_42 : decode cX9_isCaskWord 42 = .ok (.aload_n 0, 1) := by decide +kernel
theorem dX9_isCaskWord_43 : decode cX9_isCaskWord 43 = .ok (.getfield 53, 3) := by decide +kernel
theorem dX9_isCaskWord_46 : decode cX9_isCaskWord 46 = .ok (.iconst 2, 1) := by decide +kernel
theorem dX9_isCaskWord_47 : decode cX9_isCaskWord 47 = .ok (.iadd, 1) := by decide +kernel
theorem dX9_isCaskWord_48 : decode cX9_isCaskWord 48 = .ok (.invokevirtual 56, 3) := by decide +kernel
theorem dX9_isCaskWord_51 : decode cX9_isCaskWord 51 = .ok (.bipush 115, 2) := by decide +kernel
theorem dX9_isCaskWord_53 : decode cX9_isCaskWord 53 = .ok (.if_icmp .ne 22, 3) := by decide +kernel
theorem dX9_isCaskWord_56 : decode cX9_isCaskWord 56 = .ok (.aload_n 0, 1) := by decide +kernel
theorem dX9_isCaskWord_57 : decode cX9_isCaskWord 57 = .ok (.aload_n 0, 1) := by decide +kernel
theorem dX9_isCaskWord_58 : decode cX9_isCaskWord 58 = .ok (.getfield 53, 3) := by decide +kernel
theorem dX9_isCaskWord_61 : decode cX9_isCaskWord 61 = .ok (.iconst 3, 1) := by decide +kernel
theorem dX9_isCaskWord_62 : decode cX9_isCaskWord 62 = .ok (.iadd, 1) := by decide +kernel
theorem dX9_isCaskWord_63 : decode cX9_isCaskWord 63 = .ok (.invokevirtual 56, 3) := by decide +kernel
theorem dX9_isCaskWord_66 : decode cX9_isCaskWord 66 = .ok (.bipush 107, 2) := by decide +kernel
theorem dX9_isCaskWord_68 : decode cX9_isCaskWord 68 = .ok (.if_icmp .ne 7, 3) := by decide +kernel
theorem dX9_isCaskWord_71 : decode cX9_isCaskWord 71 = .ok (.iconst 1, 1) := by decide +kernel
theorem dX9_isCaskWord_72 : decode cX9_isCaskWord 72 = .ok (.goto 4, 3) := by decide +kernel
theorem dX9_isCaskWord_75 : decode cX9_isCaskWord 75 = .ok (.iconst 0, 1) := by decide +kernel
theorem dX9_isCaskWord_76 : decode cX9_isCaskWord 76 = .ok (.ireturn, 1) := by decide +kernel
theorem dX9_isStandsWord_0 : decode cX9_isStandsWord 0 = .ok (.aload_n 0, 1) := by decide +kernel
theorem dX9_isStandsWord_1 : decode cX9_isStandsWord 1 = .ok (.getfield 50, 3) := by decide +kernel
theorem dX9_isStandsWord_4 : decode cX9_isStandsWord 4 = .ok (.aload_n 0, 1) := by decide +kernel
theorem dX9_isStandsWord_5 : decode cX9_isStandsWord 5 = .ok (.getfield 53, 3) := by decide +kernel
theorem dX9_isStandsWord_8 : decode cX9_isStandsWord 8 = .ok (.isub, 1) := by decide +kernel
theorem dX9_isStandsWord_9 : decode cX9_isStandsWord 9 = .ok (.bipush 6, 2) := by decide +kernel
theorem dX9_isStandsWord_11 : decode cX9_isStandsWord 11 = .ok (.if_icmp .ne 95, 3) := by decide +kernel
theorem dX9_isStandsWord_14 : decode cX9_isStandsWord 14 = .ok (.aload_n 0, 1) := by decide +kernel
theorem dX9_isStandsWord_15 : decode cX9_isStandsWord 15 = .ok (.aload_n 0, 1) := by decide +kernel
theorem dX9_isStandsWord_16 : decode cX9_isStandsWord 16 = .ok (.getfield 53, 3) := by decide +kernel
theorem dX9_isStandsWord_19 : decode cX9_isStandsWord 19 = .ok (.invokevirtual 56, 3) := by decide +kernel
theorem dX9_isStandsWord_22 : decode cX9_isStandsWord 22 = .ok (.bipush 115, 2) := by decide +kernel
theorem dX9_isStandsWord_24 : decode cX9_isStandsWord 24 = .ok (.if_icmp .ne 82, 3) := by decide +kernel
theorem dX9_isStandsWord_27 : decode cX9_isStandsWord 27 = .ok (.aload_n 0, 1) := by decide +kernel
theorem dX9_isStandsWord_28 : decode cX9_isStandsWord 28 = .ok (.aload_n 0, 1) := by decide +kernel
theorem dX9_isStandsWord_29 : decode cX9_isStandsWord 29 = .ok (.getfield 53, 3) := by decide +kernel
theorem dX9_isStandsWord_32 : decode cX9_isStandsWord 32 = .ok (.iconst 1, 1) := by decide +kernel
theorem dX9_isStandsWord_33 : decode cX9_isStandsWord 33 = .ok (.iadd, 1) := by decide +kernel
theorem dX9_isStandsWord_34 : decode cX9_isStandsWord 34 = .ok (.invokevirtual 56, 3) := by decide +kernel
theorem dX9_isStandsWord_37 : decode cX9_isStandsWord 37 = .ok (.bipush 116, 2) := by decide +kernel
theorem dX9_isStandsWord_39 : decode cX9_isStandsWord 39 = .ok (.if_icmp .ne 67, 3) := by decide +kernel
theorem dX9_isStandsWord_42 : decode cX9_isStandsWord 42 = .ok (.aload_n 0, 1) := by decide +kernel
theorem dX9_isStandsWord_43 : decode cX9_isStandsWord 43 = .ok (.aload_n 0, 1) := by decide +kernel
theorem dX9_isStandsWord_44 : decode cX9_isStandsWord 44 = .ok (.getfield 53, 3) := by decide +kernel
theorem dX9_isStandsWord_47 : decode cX9_isStandsWord 47 = .ok (.iconst 2, 1) := by decide +kernel
theorem dX9_isStandsWord_48 : decode cX9_isStandsWord 48 = .ok (.iadd, 1) := by decide +kernel
theorem dX9_isStandsWord_49 : decode cX9_isStandsWord 49 = .ok (.invokevirtual 56, 3) := by decide +kernel
theorem dX9_isStandsWord_52 : decode cX9_isStandsWord 52 = .ok (.bipush 97, 2) := by decide +kernel
theorem dX9_isStandsWord_54 : decode cX9_isStandsWord 54 = .ok (.if_icmp .ne 52, 3) := by decide +kernel
theorem dX9_isStandsWord_57 : decode cX9_isStandsWord 57 = .ok (.aload_n 0, 1) := by decide +kernel
theorem dX9_isStandsWord_58 : decode cX9_isStandsWord 58 = .ok (.aload_n 0, 1) := by decide +kernel
theorem dX9_isStandsWord_59 : decode cX9_isStandsWord 59 = .ok (.getfield 53, 3) := by decide +kernel
theorem dX9_isStandsWord_62 : decode cX9_isStandsWord 62 = .ok (.iconst 3, 1) := by decide +kernel
theorem dX9_isStandsWord_63 : decode cX9_isStandsWord 63 = .ok (.iadd, 1) := by decide +kernel
theorem dX9_isStandsWord_64 : decode cX9_isStandsWord 64 = .ok (.invokevirtual 56, 3) := by decide +kernel
theorem dX9_isStandsWord_67 : decode cX9_isStandsWord 67 = .ok (.bipush 110, 2) := by decide +kernel
theorem dX9_isStandsWord_69 : decode cX9_isStandsWord 69 = .ok (.if_icmp .ne 37, 3) := by decide +kernel
theorem dX9_isStandsWord_72 : decode cX9_isStandsWord 72 = .ok (.aload_n 0, 1) := by decide +kernel
theorem dX9_isStandsWord_73 : decode cX9_isStandsWord 73 = .ok (.aload_n 0, 1) := by decide +kernel
theorem dX9_isStandsWord_74 : decode cX9_isStandsWord 74 = .ok (.getfield 53, 3) := by decide +kernel
theorem dX9_isStandsWord_77 : decode cX9_isStandsWord 77 = .ok (.iconst 4, 1) := by decide +kernel
theorem dX9_isStandsWord_78 : decode cX9_isStandsWord 78 = .ok (.iadd, 1) := by decide +kernel
theorem dX9_isStandsWord_79 : decode cX9_isStandsWord 79 = .ok (.invokevirtual 56, 3) := by decide +kernel
theorem dX9_isStandsWord_82 : decode cX9_isStandsWord 82 = .ok (.bipush 100, 2) := by decide +kernel
theorem dX9_isStandsWord_84 : decode cX9_isStandsWord 84 = .ok (.if_icmp .ne 22, 3) := by decide +kernel
theorem dX9_isStandsWord_87 : decode cX9_isStandsWord 87 = .ok (.aload_n 0, 1) := by decide +kernel
theorem dX9_isStandsWord_88 : decode cX9_isStandsWord 88 = .ok (.aload_n 0, 1) := by decide +kernel
theorem dX9_isStandsWord_89 : decode cX9_isStandsWord 89 = .ok (.getfield 53, 3) := by decide +kernel
theorem dX9_isStandsWord_92 : decode cX9_isStandsWord 92 = .ok (.iconst 5, 1) := by decide +kernel
theorem dX9_isStandsWord_93 : decode cX9_isStandsWord 93 = .ok (.iadd, 1) := by decide +kernel
theorem dX9_isStandsWord_94 : decode cX9_isStandsWord 94 = .ok (.invokevirtual 56, 3) := by decide +kernel
theorem dX9_isStandsWord_97 : decode cX9_isStandsWord 97 = .ok (.bipush 115, 2) := by decide +kernel
theorem dX9_isStandsWord_99 : decode cX9_isStandsWord 99 = .ok (.if_icmp .ne 7, 3) := by decide +kernel
theorem dX9_isStandsWord_102 : decode cX9_isStandsWord 102 = .ok (.iconst 1, 1) := by decide +kernel
theorem dX9_isStandsWord_103 : decode cX9_isStandsWord 103 = .ok (.goto 4, 3) := by decide +kernel
theorem dX9_isStandsWord_106 : decode cX9_isStandsWord 106 = .ok (.iconst 0, 1) := by decide +kernel
theorem dX9_isStandsWord_107 : decode cX9_isStandsWord 107 = .ok (.ireturn, 1) := by decide +kernel
theorem dX9_takesFigures_0 : decode cX9_takesFigures 0 = .ok (.aload_n 0, 1) := by decide +kernel
theorem dX9_takesFigures_1 : decode cX9_takesFigures 1 = .ok (.iconst 0, 1) := by decide +kernel
theorem dX9_takesFigures_2 : decode cX9_takesFigures 2 = .ok (.putfield 60, 3) := by decide +kernel
theorem dX9_takesFigures_5 : decode cX9_takesFigures 5 = .ok (.aload_n 0, 1) := by decide +kernel
theorem dX9_takesFigures_6 : decode cX9_takesFigures 6 = .ok (.aload_n 0, 1) := by decide +kernel
theorem dX9_takesFigures_7 : decode cX9_takesFigures 7 = .ok (.getfield 50, 3) := by decide +kernel
theorem dX9_takesFigures_10 : decode cX9_takesFigures 10 = .ok (.invokevirtual 56, 3) := by decide +kernel
theorem dX9_takesFigures_13 : decode cX9_takesFigures 13 = .ok (.bipush 48, 2) := by decide +kernel
theorem dX9_takesFigures_15 : decode cX9_takesFigures 15 = .ok (.bipush 57, 2) := by decide +kernel
theorem dX9_takesFigures_17 : decode cX9_takesFigures 17 = .ok (.invokestatic 43, 3) := by decide +kernel
theorem dX9_takesFigures_20 : decode cX9_takesFigures 20 = .ok (.ifCond .eq 55, 3) := by decide +kernel
theorem dX9_takesFigures_23 : decode cX9_takesFigures 23 = .ok (.aload_n 0, 1) := by decide +kernel
theorem dX9_takesFigures_24 : decode cX9_takesFigures 24 = .ok (.aload_n 0, 1) := by decide +kernel
theorem dX9_takesFigures_25 : decode cX9_takesFigures 25 = .ok (.getfield 60, 3) := by decide +kernel
theorem dX9_takesFigures_28 : decode cX9_takesFigures 28 = .ok (.bipush 99, 2) := by decide +kernel
theorem dX9_takesFigures_30 : decode cX9_takesFigures 30 = .ok (.if_icmp .le 10, 3) := by decide +kernel
theorem dX9_takesFigures_33 : decode cX9_takesFigures 33 = .ok (.aload_n 0, 1) := by decide +kernel
theorem dX9_takesFigures_34 : decode cX9_takesFigures 34 = .ok (.getfield 60, 3) := by decide +kernel
theorem dX9_takesFigures_37 : decode cX9_takesFigures 37 = .ok (.goto 22, 3) := by decide +kernel
theorem dX9_takesFigures_40 : decode cX9_takesFigures 40 = .ok (.bipush 10, 2) := by decide +kernel
theorem dX9_takesFigures_42 : decode cX9_takesFigures 42 = .ok (.aload_n 0, 1) := by decide +kernel
theorem dX9_takesFigures_43 : decode cX9_takesFigures 43 = .ok (.getfield 60, 3) := by decide +kernel
theorem dX9_takesFigures_46 : decode cX9_takesFigures 46 = .ok (.imul, 1) := by decide +kernel
theorem dX9_takesFigures_47 : decode cX9_takesFigures 47 = .ok (.aload_n 0, 1) := by decide +kernel
theorem dX9_takesFigures_48 : decode cX9_takesFigures 48 = .ok (.aload_n 0, 1) := by decide +kernel
theorem dX9_takesFigures_49 : decode cX9_takesFigures 49 = .ok (.getfield 50, 3) := by decide +kernel
theorem dX9_takesFigures_52 : decode cX9_takesFigures 52 = .ok (.invokevirtual 56, 3) := by decide +kernel
theorem dX9_takesFigures_55 : decode cX9_takesFigures 55 = .ok (.iadd, 1) := by decide +kernel
theorem dX9_takesFigures_56 : decode cX9_takesFigures 56 = .ok (.bipush 48, 2) := by decide +kernel
theorem dX9_takesFigures_58 : decode cX9_takesFigures 58 = .ok (.isub, 1) := by decide +kernel
theorem dX9_takesFigures_59 : decode cX9_takesFigures 59 = .ok (.putfield 60, 3) := by decide +kernel
theorem dX9_takesFigures_62 : decode cX9_takesFigures 62 = .ok (.aload_n 0, 1) := by decide +kernel
theorem dX9_takesFigures_63 : decode cX9_takesFigures 63 = .ok (.dup, 1) := by decide +kernel
theorem dX9_takesFigures_64 : decode cX9_takesFigures 64 = .ok (.getfield 50, 3) := by decide +kernel
theorem dX9_takesFigures_67 : decode cX9_takesFigures 67 = .ok (.iconst 1, 1) := by decide +kernel
theorem dX9_takesFigures_68 : decode cX9_takesFigures 68 = .ok (.iadd, 1) := by decide +kernel
theorem dX9_takesFigures_69 : decode cX9_takesFigures 69 = .ok (.putfield 50, 3) := by decide +kernel
theorem dX9_takesFigures_72 : decode cX9_takesFigures 72 = .ok (.goto (-67), 3) := by decide +kernel
theorem dX9_takesFigures_75 : decode cX9_takesFigures 75 = .ok (.aload_n 0, 1) := by decide +kernel
theorem dX9_takesFigures_76 : decode cX9_takesFigures 76 = .ok (.aload_n 0, 1) := by decide +kernel
theorem dX9_takesFigures_77 : decode cX9_takesFigures 77 = .ok (.getfield 50, 3) := by decide +kernel
theorem dX9_takesFigures_80 : decode cX9_takesFigures 80 = .ok (.aload_n 0, 1) := by decide +kernel
theorem dX9_takesFigures_81 : decode cX9_takesFigures 81 = .ok (.getfield 53, 3) := by decide +kernel
theorem dX9_takesFigures_84 : decode cX9_takesFigures 84 = .ok (.isub, 1) := by decide +kernel
theorem dX9_takesFigures_85 : decode cX9_takesFigures 85 = .ok (.iconst 2, 1) := by decide +kernel
theorem dX9_takesFigures_86 : decode cX9_takesFigures 86 = .ok (.if_icmp .gt 29, 3) := by decide +kernel
theorem dX9_takesFigures_89 : decode cX9_takesFigures 89 = .ok (.aload_n 0, 1) := by decide +kernel
theorem dX9_takesFigures_90 : decode cX9_takesFigures 90 = .ok (.getfield 50, 3) := by decide +kernel
theorem dX9_takesFigures_93 : decode cX9_takesFigures 93 = .ok (.aload_n 0, 1) := by decide +kernel
theorem dX9_takesFigures_94 : decode cX9_takesFigures 94 = .ok (.getfield 53, 3) := by decide +kernel
theorem dX9_takesFigures_97 : decode cX9_takesFigures 97 = .ok (.isub, 1) := by decide +kernel
theorem dX9_takesFigures_98 : decode cX9_takesFigures 98 = .ok (.iconst 2, 1) := by decide +kernel
theorem dX9_takesFigures_99 : decode cX9_takesFigures 99 = .ok (.if_icmp .ne 20, 3) := by decide +kernel
theorem dX9_takesFigures_102 : decode cX9_takesFigures 102 = .ok (.aload_n 0, 1) := by decide +kernel
theorem dX9_takesFigures_103 : decode cX9_takesFigures 103 = .ok (.aload_n 0, 1) := by decide +kernel
theorem dX9_takesFigures_104 : decode cX9_takesFigures 104 = .ok (.getfield 53, 3) := by decide +kernel
theorem dX9_takesFigures_107 : decode cX9_takesFigures 107 = .ok (.invokevirtual 56, 3) := by decide +kernel
theorem dX9_takesFigures_110 : decode cX9_takesFigures 110 = .ok (.bipush 48, 2) := by decide +kernel
theorem dX9_takesFigures_112 : decode cX9_takesFigures 112 = .ok (.if_icmp .ne 7, 3) := by decide +kernel
theorem dX9_takesFigures_115 : decode cX9_takesFigures 115 = .ok (.iconst 5, 1) := by decide +kernel
theorem dX9_takesFigures_116 : decode cX9_takesFigures 116 = .ok (.goto 4, 3) := by decide +kernel
theorem dX9_takesFigures_119 : decode cX9_takesFigures 119 = .ok (.iconst 3, 1) := by decide +kernel
theorem dX9_takesFigures_120 : decode cX9_takesFigures 120 = .ok (.putfield 63, 3) := by decide +kernel
theorem dX9_takesFigures_123 : decode cX9_takesFigures 123 = .ok (.return_, 1) := by decide +kernel
theorem dX9_steps_0 : decode cX9_steps 0 = .ok (.aload_n 0, 1) := by decide +kernel
theorem dX9_steps_1 : decode cX9_steps 1 = .ok (.aload_n 0, 1) := by decide +kernel
theorem dX9_steps_2 : decode cX9_steps 2 = .ok (.getfield 50, 3) := by decide +kernel
theorem dX9_steps_5 : decode cX9_steps 5 = .ok (.putfield 53, 3) := by decide +kernel
theorem dX9_steps_8 : decode cX9_steps 8 = .ok (.aload_n 0, 1) := by decide +kernel
theorem dX9_steps_9 : decode cX9_steps 9 = .ok (.aload_n 0, 1) := by decide +kernel
theorem dX9_steps_10 : decode cX9_steps 10 = .ok (.getfield 53, 3) := by decide +kernel
theorem dX9_steps_13 : decode cX9_steps 13 = .ok (.invokevirtual 56, 3) := by decide +kernel
theorem dX9_steps_16 : decode cX9_steps 16 = .ok (.bipush 32, 2) := by decide +kernel
theorem dX9_steps_18 : decode cX9_steps 18 = .ok (.if_icmp .ne 16, 3) := by decide +kernel
theorem dX9_steps_21 : decode cX9_steps 21 = .ok (.aload_n 0, 1) := by decide +kernel
theorem dX9_steps_22 : decode cX9_steps 22 = .ok (.dup, 1) := by decide +kernel
theorem dX9_steps_23 : decode cX9_steps 23 = .ok (.getfield 53, 3) := by decide +kernel
theorem dX9_steps_26 : decode cX9_steps 26 = .ok (.iconst 1, 1) := by decide +kernel
theorem dX9_steps_27 : decode cX9_steps 27 = .ok (.iadd, 1) := by decide +kernel
theorem dX9_steps_28 : decode cX9_steps 28 = .ok (.putfield 53, 3) := by decide +kernel
theorem dX9_steps_31 : decode cX9_steps 31 = .ok (.goto (-23), 3) := by decide +kernel
theorem dX9_steps_34 : decode cX9_steps 34 = .ok (.aload_n 0, 1) := by decide +kernel
theorem dX9_steps_35 : decode cX9_steps 35 = .ok (.aload_n 0, 1) := by decide +kernel
theorem dX9_steps_36 : decode cX9_steps 36 = .ok (.getfield 53, 3) := by decide +kernel
theorem dX9_steps_39 : decode cX9_steps 39 = .ok (.putfield 50, 3) := by decide +kernel
theorem dX9_steps_42 : decode cX9_steps 42 = .ok (.aload_n 0, 1) := by decide +kernel
theorem dX9_steps_43 : decode cX9_steps 43 = .ok (.aload_n 0, 1) := by decide +kernel
theorem dX9_steps_44 : decode cX9_steps 44 = .ok (.getfield 50, 3) := by decide +kernel
theorem dX9_steps_47 : decode cX9_steps 47 = .ok (.invokevirtual 56, 3) := by decide +kernel
theorem dX9_steps_50 : decode cX9_steps 50 = .ok (.ifCond .ge 11, 3) := by decide +kernel
theorem dX9_steps_53 : decode cX9_steps 53 = .ok (.aload_n 0, 1) := by decide +kernel
theorem dX9_steps_54 : decode cX9_steps 54 = .ok (.iconst 0, 1) := by decide +kernel
theorem dX9_steps_55 : decode cX9_steps 55 = .ok (.putfield 63, 3) := by decide +kernel
theorem dX9_steps_58 : decode cX9_steps 58 = .ok (.goto 139, 3) := by decide +kernel
theorem dX9_steps_61 : decode cX9_steps 61 = .ok (.aload_n 0, 1) := by decide +kernel
theorem dX9_steps_62 : decode cX9_steps 62 = .ok (.aload_n 0, 1) := by decide +kernel
theorem dX9_steps_63 : decode cX9_steps 63 = .ok (.getfield 50, 3) := by decide +kernel
theorem dX9_steps_66 : decode cX9_steps 66 = .ok (.invokevirtual 56, 3) := by decide +kernel
theorem dX9_steps_69 : decode cX9_steps 69 = .ok (.bipush 48, 2) := by decide +kernel
theorem dX9_steps_71 : decode cX9_steps 71 = .ok (.bipush 57, 2) := by decide +kernel
theorem dX9_steps_73 : decode cX9_steps 73 = .ok (.invokestatic 43, 3) := by decide +kernel
theorem dX9_steps_76 : decode cX9_steps 76 = .ok (.ifCond .eq 10, 3) := by decide +kernel
theorem dX9_steps_79 : decode cX9_steps 79 = .ok (.aload_n 0, 1) := by decide +kernel
theorem dX9_steps_80 : decode cX9_steps 80 = .ok (.invokevirtual 66, 3) := by decide +kernel
theorem dX9_steps_83 : decode cX9_steps 83 = .ok (.goto 114, 3) := by decide +kernel
theorem dX9_steps_86 : decode cX9_steps 86 = .ok (.aload_n 0, 1) := by decide +kernel
theorem dX9_steps_87 : decode cX9_steps 87 = .ok (.aload_n 0, 1) := by decide +kernel
theorem dX9_steps_88 : decode cX9_steps 88 = .ok (.getfield 50, 3) := by decide +kernel
theorem dX9_steps_91 : decode cX9_steps 91 = .ok (.invokevirtual 56, 3) := by decide +kernel
theorem dX9_steps_94 : decode cX9_steps 94 = .ok (.bipush 97, 2) := by decide +kernel
theorem dX9_steps_96 : decode cX9_steps 96 = .ok (.bipush 122, 2) := by decide +kernel
theorem dX9_steps_98 : decode cX9_steps 98 = .ok (.invokestatic 43, 3) := by decide +kernel
theorem dX9_steps_101 : decode cX9_steps 101 = .ok (.ifCond .eq 64, 3) := by decide +kernel
theorem dX9_steps_104 : decode cX9_steps 104 = .ok (.aload_n 0, 1) := by decide +kernel
theorem dX9_steps_105 : decode cX9_steps 105 = .ok (.aload_n 0, 1) := by decide +kernel
theorem dX9_steps_106 : decode cX9_steps 106 = .ok (.getfield 50, 3) := by decide +kernel
theorem dX9_steps_109 : decode cX9_steps 109 = .ok (.invokevirtual 56, 3) := by decide +kernel
theorem dX9_steps_112 : decode cX9_steps 112 = .ok (.bipush 97, 2) := by decide +kernel
theorem dX9_steps_114 : decode cX9_steps 114 = .ok (.bipush 122, 2) := by decide +kernel
theorem dX9_steps_116 : decode cX9_steps 116 = .ok (.invokestatic 43, 3) := by decide +kernel
theorem dX9_steps_119 : decode cX9_steps 119 = .ok (.ifCond .eq 16, 3) := by decide +kernel
theorem dX9_steps_122 : decode cX9_steps 122 = .ok (.aload_n 0, 1) := by decide +kernel
theorem dX9_steps_123 : decode cX9_steps 123 = .ok (.dup, 1) := by decide +kernel
theorem dX9_steps_124 : decode cX9_steps 124 = .ok (.getfield 50, 3) := by decide +kernel
theorem dX9_steps_127 : decode cX9_steps 127 = .ok (.iconst 1, 1) := by decide +kernel
theorem dX9_steps_128 : decode cX9_steps 128 = .ok (.iadd, 1) := by decide +kernel
theorem dX9_steps_129 : decode cX9_steps 129 = .ok (.putfield 50, 3) := by decide +kernel
theorem dX9_steps_132 : decode cX9_steps 132 = .ok (.goto (-28), 3) := by decide +kernel
theorem dX9_steps_135 : decode cX9_steps 135 = .ok (.aload_n 0, 1) := by decide +kernel
theorem dX9_steps_136 : decode cX9_steps 136 = .ok (.aload_n 0, 1) := by decide +kernel
theorem dX9_steps_137 : decode cX9_steps 137 = .ok (.invokevirtual 69, 3) := by decide +kernel
theorem dX9_steps_140 : decode cX9_steps 140 = .ok (.ifCond .eq 7, 3) := by decide +kernel
theorem dX9_steps_143 : decode cX9_steps 143 = .ok (.iconst 1, 1) := by decide +kernel
theorem dX9_steps_144 : decode cX9_steps 144 = .ok (.goto 15, 3) := by decide +kernel
theorem dX9_steps_147 : decode cX9_steps 147 = .ok (.aload_n 0, 1) := by decide +kernel
theorem dX9_steps_148 : decode cX9_steps 148 = .ok (.invokevirtual 73, 3) := by decide +kernel
theorem dX9_steps_151 : decode cX9_steps 151 = .ok (.ifCond .eq 7, 3) := by decide +kernel
theorem dX9_steps_154 : decode cX9_steps 154 = .ok (.iconst 2, 1) := by decide +kernel
theorem dX9_steps_155 : decode cX9_steps 155 = .ok (.goto 4, 3) := by decide +kernel
theorem dX9_steps_158 : decode cX9_steps 158 = .ok (.iconst 5, 1) := by decide +kernel
theorem dX9_steps_159 : decode cX9_steps 159 = .ok (.putfield 63, 3) := by decide +kernel
theorem dX9_steps_162 : decode cX9_steps 162 = .ok (.goto 35, 3) := by decide +kernel
theorem dX9_steps_165 : decode cX9_steps 165 = .ok (.aload_n 0, 1) := by decide +kernel
theorem dX9_steps_166 : decode cX9_steps 166 = .ok (.aload_n 0, 1) := by decide +kernel
theorem dX9_steps_167 : decode cX9_steps 167 = .ok (.aload_n 0, 1) := by decide +kernel
theorem dX9_steps_168 : decode cX9_steps 168 = .ok (.getfield 50, 3) := by decide +kernel
theorem dX9_steps_171 : decode cX9_steps 171 = .ok (.invokevirtual 56, 3) := by decide +kernel
theorem dX9_steps_174 : decode cX9_steps 174 = .ok (.bipush 59, 2) := by decide +kernel
theorem dX9_steps_176 : decode cX9_steps 176 = .ok (.if_icmp .ne 7, 3) := by decide +kernel
theorem dX9_steps_179 : decode cX9_steps 179 = .ok (.iconst 4, 1) := by decide +kernel
theorem dX9_steps_180 : decode cX9_steps 180 = .ok (.goto 4, 3) := by decide +kernel
theorem dX9_steps_183 : decode cX9_steps 183 = .ok (.iconst 5, 1) := by decide +kernel
theorem dX9_steps_184 : decode cX9_steps 184 = .ok (.putfield 63, 3) := by decide +kernel
theorem dX9_steps_187 : decode cX9_steps 187 = .ok (.aload_n 0, 1) := by decide +kernel
theorem dX9_steps_188 : decode cX9_steps 188 = .ok (.dup, 1) := by decide +kernel
theorem dX9_steps_189 : decode cX9_steps 189 = .ok (.getfield 50, 3) := by decide +kernel
theorem dX9_steps_192 : decode cX9_steps 192 = .ok (.iconst 1, 1) := by decide +kernel
theorem dX9_steps_193 : decode cX9_steps 193 = .ok (.iadd, 1) := by decide +kernel
theorem dX9_steps_194 : decode cX9_steps 194 = .ok (.putfield 50, 3) := by decide +kernel
theorem dX9_steps_197 : decode cX9_steps 197 = .ok (.return_, 1) := by decide +kernel
theorem dX9_takes_0 : decode cX9_takes 0 = .ok (.aload_n 0, 1) := by decide +kernel
theorem dX9_takes_1 : decode cX9_takes 1 = .ok (.getfield 76, 3) := by decide +kernel
theorem dX9_takes_4 : decode cX9_takes 4 = .ok (.bipush (-9), 2) := by decide +kernel
theorem dX9_takes_6 : decode cX9_takes 6 = .ok (.if_icmp .ne 22, 3) := by decide +kernel
theorem dX9_takes_9 : decode cX9_takes 9 = .ok (.iload_n 1, 1) := by decide +kernel
theorem dX9_takes_10 : decode cX9_takes 10 = .ok (.ifCond .eq 10, 3) := by decide +kernel
theorem dX9_takes_13 : decode cX9_takes 13 = .ok (.aload_n 0, 1) := by decide +kernel
theorem dX9_takes_14 : decode cX9_takes 14 = .ok (.invokevirtual 79, 3) := by decide +kernel
theorem dX9_takes_17 : decode cX9_takes 17 = .ok (.goto 11, 3) := by decide +kernel
theorem dX9_takes_20 : decode cX9_takes 20 = .ok (.aload_n 0, 1) := by decide +kernel
theorem dX9_takes_21 : decode cX9_takes 21 = .ok (.aload_n 0, 1) := by decide +kernel
theorem dX9_takes_22 : decode cX9_takes 22 = .ok (.getfield 53, 3) := by decide +kernel
theorem dX9_takes_25 : decode cX9_takes 25 = .ok (.putfield 76, 3) := by decide +kernel
theorem dX9_takes_28 : decode cX9_takes 28 = .ok (.return_, 1) := by decide +kernel
theorem dX9_numberIn_0 : decode cX9_numberIn 0 = .ok (.aload_n 0, 1) := by decide +kernel
theorem dX9_numberIn_1 : decode cX9_numberIn 1 = .ok (.getfield 60, 3) := by decide +kernel
theorem dX9_numberIn_4 : decode cX9_numberIn 4 = .ok (.istore_n 3, 1) := by decide +kernel
theorem dX9_numberIn_5 : decode cX9_numberIn 5 = .ok (.aload_n 0, 1) := by decide +kernel
theorem dX9_numberIn_6 : decode cX9_numberIn 6 = .ok (.aload_n 0, 1) := by decide +kernel
theorem dX9_numberIn_7 : decode cX9_numberIn 7 = .ok (.getfield 63, 3) := by decide +kernel
theorem dX9_numberIn_10 : decode cX9_numberIn 10 = .ok (.iconst 3, 1) := by decide +kernel
theorem dX9_numberIn_11 : decode cX9_numberIn 11 = .ok (.if_icmp .ne 16, 3) := by decide +kernel
theorem dX9_numberIn_14 : decode cX9_numberIn 14 = .ok (.iload_n 3, 1) := by decide +kernel
theorem dX9_numberIn_15 : decode cX9_numberIn 15 = .ok (.iload_n 1, 1) := by decide +kernel
theorem dX9_numberIn_16 : decode cX9_numberIn 16 = .ok (.iload_n 2, 1) := by decide +kernel
theorem dX9_numberIn_17 : decode cX9_numberIn 17 = .ok (.invokestatic 43, 3) := by decide +kernel
theorem dX9_numberIn_20 : decode cX9_numberIn 20 = .ok (.ifCond .eq 7, 3) := by decide +kernel
theorem dX9_numberIn_23 : decode cX9_numberIn 23 = .ok (.iconst 1, 1) := by decide +kernel
theorem dX9_numberIn_24 : decode cX9_numberIn 24 = .ok (.goto 4, 3) := by decide +kernel
theorem dX9_numberIn_27 : decode cX9_numberIn 27 = .ok (.iconst 0, 1) := by decide +kernel
theorem dX9_numberIn_28 : decode cX9_numberIn 28 = .ok (.invokevirtual 82, 3) := by decide +kernel
theorem dX9_numberIn_31 : decode cX9_numberIn 31 = .ok (.iload_n 3, 1) := by decide +kernel
theorem dX9_numberIn_32 : decode cX9_numberIn 32 = .ok (.ireturn, 1) := by decide +kernel
theorem dX9_readsCask_0 : decode cX9_readsCask 0 = .ok (.aload_n 0, 1) := by decide +kernel
theorem dX9_readsCask_1 : decode cX9_readsCask 1 = .ok (.aload_n 0, 1) := by decide +kernel
theorem dX9_readsCask_2 : decode cX9_readsCask 2 = .ok (.getfield 13, 3) := by decide +kernel
theorem dX9_readsCask_5 : decode cX9_readsCask 5 = .ok (.bipush 24, 2) := by decide +kernel
theorem dX9_readsCask_7 : decode cX9_readsCask 7 = .ok (.iaload, 1) := by decide +kernel
theorem dX9_readsCask_8 : decode cX9_readsCask 8 = .ok (.iconst 4, 1) := by decide +kernel
theorem dX9_readsCask_9 : decode cX9_readsCask 9 = .ok (.if_icmp .ge 7, 3) := by decide +kernel
theorem dX9_readsCask_12 : decode cX9_readsCask 12 = .ok (.iconst 1, 1) := by decide +kernel
theorem dX9_readsCask_13 : decode cX9_readsCask 13 = .ok (.goto 4, 3) := by decide +kernel
theorem dX9_readsCask_16 : decode cX9_readsCask 16 = .ok (.iconst 0, 1) := by decide +kernel
theorem dX9_readsCask_17 : decode cX9_readsCask 17 = .ok (.invokevirtual 82, 3) := by decide +kernel
theorem dX9_readsCask_20 : decode cX9_readsCask 20 = .ok (.aload_n 0, 1) := by decide +kernel
theorem dX9_readsCask_21 : decode cX9_readsCask 21 = .ok (.iconst 1, 1) := by decide +kernel
theorem dX9_readsCask_22 : decode cX9_readsCask 22 = .ok (.bipush 12, 2) := by decide +kernel
theorem dX9_readsCask_24 : decode cX9_readsCask 24 = .ok (.invokevirtual 86, 3) := by decide +kernel
theorem dX9_readsCask_27 : decode cX9_readsCask 27 = .ok (.istore_n 1, 1) := by decide +kernel
theorem dX9_readsCask_28 : decode cX9_readsCask 28 = .ok (.aload_n 0, 1) := by decide +kernel
theorem dX9_readsCask_29 : decode cX9_readsCask 29 = .ok (.iconst 1, 1) := by decide +kernel
theorem dX9_readsCask_30 : decode cX9_readsCask 30 = .ok (.bipush 20, 2) := by decide +kernel
theorem dX9_readsCask_32 : decode cX9_readsCask 32 = .ok (.invokevirtual 86, 3) := by decide +kernel
theorem dX9_readsCask_35 : decode cX9_readsCask 35 = .ok (.istore_n 2, 1) := by decide +kernel
theorem dX9_readsCask_36 : decode cX9_readsCask 36 = .ok (.aload_n 0, 1) := by decide +kernel
theorem dX9_readsCask_37 : decode cX9_readsCask 37 = .ok (.iload_n 2, 1) := by decide +kernel
theorem dX9_readsCask_38 : decode cX9_readsCask 38 = .ok (.bipush 20, 2) := by decide +kernel
theorem dX9_readsCask_40 : decode cX9_readsCask 40 = .ok (.invokevirtual 86, 3) := by decide +kernel
theorem dX9_readsCask_43 : decode cX9_readsCask 43 = .ok (.istore_n 3, 1) := by decide +kernel
theorem dX9_readsCask_44 : decode cX9_readsCask 44 = .ok (.aload_n 0, 1) := by decide +kernel
theorem dX9_readsCask_45 : decode cX9_readsCask 45 = .ok (.getfield 76, 3) := by decide +kernel
theorem dX9_readsCask_48 : decode cX9_readsCask 48 = .ok (.bipush (-9), 2) := by decide +kernel
theorem dX9_readsCask_50 : decode cX9_readsCask 50 = .ok (.if_icmp .ne 66, 3) := by decide +kernel
theorem dX9_readsCask_53 : decode cX9_readsCask 53 = .ok (.bipush 6, 2) := by decide +kernel
theorem dX9_readsCask_55 : decode cX9_readsCask 55 = .ok (.aload_n 0, 1) := by decide +kernel
theorem dX9_readsCask_56 : decode cX9_readsCask 56 = .ok (.getfield 13, 3) := by decide +kernel
theorem dX9_readsCask_59 : decode cX9_readsCask 59 = .ok (.bipush 24, 2) := by decide +kernel
theorem dX9_readsCask_61 : decode cX9_readsCask 61 = .ok (.iaload, 1) := by decide +kernel
theorem dX9_readsCask_62 : decode cX9_readsCask 62 = .ok (.imul, 1) := by decide +kernel
theorem dX9_readsCask_63 : decode cX9_readsCask 63 = .ok (.istore 4, 2) := by decide +kernel
theorem dX9_readsCask_65 : decode cX9_readsCask 65 = .ok (.aload_n 0, 1) := by decide +kernel
theorem dX9_readsCask_66 : decode cX9_readsCask 66 = .ok (.getfield 13, 3) := by decide +kernel
theorem dX9_readsCask_69 : decode cX9_readsCask 69 = .ok (.iload 4, 2) := by decide +kernel
theorem dX9_readsCask_71 : decode cX9_readsCask 71 = .ok (.iconst 0, 1) := by decide +kernel
theorem dX9_readsCask_72 : decode cX9_readsCask 72 = .ok (.iadd, 1) := by decide +kernel
theorem dX9_readsCask_73 : decode cX9_readsCask 73 = .ok (.iload_n 1, 1) := by decide +kernel
theorem dX9_readsCask_74 : decode cX9_readsCask 74 = .ok (.iastore, 1) := by decide +kernel
theorem dX9_readsCask_75 : decode cX9_readsCask 75 = .ok (.aload_n 0, 1) := by decide +kernel
theorem dX9_readsCask_76 : decode cX9_readsCask 76 = .ok (.getfield 13, 3) := by decide +kernel
theorem dX9_readsCask_79 : decode cX9_readsCask 79 = .ok (.iload 4, 2) := by decide +kernel
theorem dX9_readsCask_81 : decode cX9_readsCask 81 = .ok (.iconst 1, 1) := by decide +kernel
theorem dX9_readsCask_82 : decode cX9_readsCask 82 = .ok (.iadd, 1) := by decide +kernel
theorem dX9_readsCask_83 : decode cX9_readsCask 83 = .ok (.iload_n 2, 1) := by decide +kernel
theorem dX9_readsCask_84 : decode cX9_readsCask 84 = .ok (.iastore, 1) := by decide +kernel
theorem dX9_readsCask_85 : decode cX9_readsCask 85 = .ok (.aload_n 0, 1) := by decide +kernel
theorem dX9_readsCask_86 : decode cX9_readsCask 86 = .ok (.getfield 13, 3) := by decide +kernel
theorem dX9_readsCask_89 : decode cX9_readsCask 89 = .ok (.iload 4, 2) := by decide +kernel
theorem dX9_readsCask_91 : decode cX9_readsCask 91 = .ok (.iconst 2, 1) := by decide +kernel
theorem dX9_readsCask_92 : decode cX9_readsCask 92 = .ok (.iadd, 1) := by decide +kernel
theorem dX9_readsCask_93 : decode cX9_readsCask 93 = .ok (.iload_n 3, 1) := by decide +kernel
theorem dX9_readsCask_94 : decode cX9_readsCask 94 = .ok (.iastore, 1) := by decide +kernel
theorem dX9_readsCask_95 : decode cX9_readsCask 95 = .ok (.aload_n 0, 1) := by decide +kernel
theorem dX9_readsCask_96 : decode cX9_readsCask 96 = .ok (.getfield 13, 3) := by decide +kernel
theorem dX9_readsCask_99 : decode cX9_readsCask 99 = .ok (.iload 4, 2) := by decide +kernel
theorem dX9_readsCask_101 : decode cX9_readsCask 101 = .ok (.iconst 3, 1) := by decide +kernel
theorem dX9_readsCask_102 : decode cX9_readsCask 102 = .ok (.iadd, 1) := by decide +kernel
theorem dX9_readsCask_103 : decode cX9_readsCask 103 = .ok (.iconst 1, 1) := by decide +kernel
theorem dX9_readsCask_104 : decode cX9_readsCask 104 = .ok (.iastore, 1) := by decide +kernel
theorem dX9_readsCask_105 : decode cX9_readsCask 105 = .ok (.aload_n 0, 1) := by decide +kernel
theorem dX9_readsCask_106 : decode cX9_readsCask 106 = .ok (.getfield 13, 3) := by decide +kernel
theorem dX9_readsCask_109 : decode cX9_readsCask 109 = .ok (.bipush 24, 2) := by decide +kernel
theorem dX9_readsCask_111 : decode cX9_readsCask 111 = .ok (.dup2, 1) := by decide +kernel
theorem dX9_readsCask_112 : decode cX9_readsCask 112 = .ok (.iaload, 1) := by decide +kernel
theorem dX9_readsCask_113 : decode cX9_readsCask 113 = .ok (.iconst 1, 1) := by decide +kernel
theorem dX9_readsCask_114 : decode cX9_readsCask 114 = .ok (.iadd, 1) := by decide +kernel
theorem dX9_readsCask_115 : decode cX9_readsCask 115 = .ok (.iastore, 1) := by decide +kernel
theorem dX9_readsCask_116 : decode cX9_readsCask 116 = .ok (.return_, 1) := by decide +kernel
theorem dX9_readsStands_0 : decode cX9_readsStands 0 = .ok (.aload_n 0, 1) := by decide +kernel
theorem dX9_readsStands_1 : decode cX9_readsStands 1 = .ok (.iconst 1, 1) := by decide +kernel
theorem dX9_readsStands_2 : decode cX9_readsStands 2 = .ok (.invokevirtual 82, 3) := by decide +kernel
theorem dX9_readsStands_5 : decode cX9_readsStands 5 = .ok (.aload_n 0, 1) := by decide +kernel
theorem dX9_readsStands_6 : decode cX9_readsStands 6 = .ok (.iconst 0, 1) := by decide +kernel
theorem dX9_readsStands_7 : decode cX9_readsStands 7 = .ok (.aload_n 0, 1) := by decide +kernel
theorem dX9_readsStands_8 : decode cX9_readsStands 8 = .ok (.getfield 13, 3) := by decide +kernel
theorem dX9_readsStands_11 : decode cX9_readsStands 11 = .ok (.bipush 24, 2) := by decide +kernel
theorem dX9_readsStands_13 : decode cX9_readsStands 13 = .ok (.iaload, 1) := by decide +kernel
theorem dX9_readsStands_14 : decode cX9_readsStands 14 = .ok (.iconst 1, 1) := by decide +kernel
theorem dX9_readsStands_15 : decode cX9_readsStands 15 = .ok (.isub, 1) := by decide +kernel
theorem dX9_readsStands_16 : decode cX9_readsStands 16 = .ok (.invokevirtual 86, 3) := by decide +kernel
theorem dX9_readsStands_19 : decode cX9_readsStands 19 = .ok (.istore_n 1, 1) := by decide +kernel
theorem dX9_readsStands_20 : decode cX9_readsStands 20 = .ok (.aload_n 0, 1) := by decide +kernel
theorem dX9_readsStands_21 : decode cX9_readsStands 21 = .ok (.getfield 76, 3) := by decide +kernel
theorem dX9_readsStands_24 : decode cX9_readsStands 24 = .ok (.bipush (-9), 2) := by decide +kernel
theorem dX9_readsStands_26 : decode cX9_readsStands 26 = .ok (.if_icmp .ne 15, 3) := by decide +kernel
theorem dX9_readsStands_29 : decode cX9_readsStands 29 = .ok (.aload_n 0, 1) := by decide +kernel
theorem dX9_readsStands_30 : decode cX9_readsStands 30 = .ok (.getfield 13, 3) := by decide +kernel
theorem dX9_readsStands_33 : decode cX9_readsStands 33 = .ok (.bipush 6, 2) := by decide +kernel
theorem dX9_readsStands_35 : decode cX9_readsStands 35 = .ok (.iload_n 1, 1) := by decide +kernel
theorem dX9_readsStands_36 : decode cX9_readsStands 36 = .ok (.imul, 1) := by decide +kernel
theorem dX9_readsStands_37 : decode cX9_readsStands 37 = .ok (.iconst 3, 1) := by decide +kernel
theorem dX9_readsStands_38 : decode cX9_readsStands 38 = .ok (.iadd, 1) := by decide +kernel
theorem dX9_readsStands_39 : decode cX9_readsStands 39 = .ok (.iconst 0, 1) := by decide +kernel
theorem dX9_readsStands_40 : decode cX9_readsStands 40 = .ok (.iastore, 1) := by decide +kernel
theorem dX9_readsStands_41 : decode cX9_readsStands 41 = .ok (.return_, 1) := by decide +kernel
theorem dX9_reads_0 : decode cX9_reads 0 = .ok (.iconst 0, 1) := by decide +kernel
theorem dX9_reads_1 : decode cX9_reads 1 = .ok (.istore_n 1, 1) := by decide +kernel
theorem dX9_reads_2 : decode cX9_reads 2 = .ok (.iload_n 1, 1) := by decide +kernel
theorem dX9_reads_3 : decode cX9_reads 3 = .ok (.bipush 25, 2) := by decide +kernel
theorem dX9_reads_5 : decode cX9_reads 5 = .ok (.if_icmp .ge 16, 3) := by decide +kernel
theorem dX9_reads_8 : decode cX9_reads 8 = .ok (.aload_n 0, 1) := by decide +kernel
theorem dX9_reads_9 : decode cX9_reads 9 = .ok (.getfield 13, 3) := by decide +kernel
theorem dX9_reads_12 : decode cX9_reads 12 = .ok (.iload_n 1, 1) := by decide +kernel
theorem dX9_reads_13 : decode cX9_reads 13 = .ok (.iconst 0, 1) := by decide +kernel
theorem dX9_reads_14 : decode cX9_reads 14 = .ok (.iastore, 1) := by decide +kernel
theorem dX9_reads_15 : decode cX9_reads 15 = .ok (.iinc 1 1, 3) := by decide +kernel
theorem dX9_reads_18 : decode cX9_reads 18 = .ok (.goto (-16), 3) := by decide +kernel
theorem dX9_reads_21 : decode cX9_reads 21 = .ok (.aload_n 0, 1) := by decide +kernel
theorem dX9_reads_22 : decode cX9_reads 22 = .ok (.bipush (-9), 2) := by decide +kernel
theorem dX9_reads_24 : decode cX9_reads 24 = .ok (.putfield 76, 3) := by decide +kernel
theorem dX9_reads_27 : decode cX9_reads 27 = .ok (.aload_n 0, 1) := by decide +kernel
theorem dX9_reads_28 : decode cX9_reads 28 = .ok (.iconst 0, 1) := by decide +kernel
theorem dX9_reads_29 : decode cX9_reads 29 = .ok (.putfield 50, 3) := by decide +kernel
theorem dX9_reads_32 : decode cX9_reads 32 = .ok (.aload_n 0, 1) := by decide +kernel
theorem dX9_reads_33 : decode cX9_reads 33 = .ok (.invokevirtual 79, 3) := by decide +kernel
theorem dX9_reads_36 : decode cX9_reads 36 = .ok (.iconst 0, 1) := by decide +kernel
theorem dX9_reads_37 : decode cX9_reads 37 = .ok (.istore_n 1, 1) := by decide +kernel
theorem dX9_reads_38 : decode cX9_reads 38 = .ok (.aload_n 0, 1) := by decide +kernel
theorem dX9_reads_39 : decode cX9_reads 39 = .ok (.getfield 76, 3) := by decide +kernel
theorem dX9_reads_42 : decode cX9_reads 42 = .ok (.bipush (-9), 2) := by decide +kernel
theorem dX9_reads_44 : decode cX9_reads 44 = .ok (.if_icmp .ne 68, 3) := by decide +kernel
theorem dX9_reads_47 : decode cX9_reads 47 = .ok (.aload_n 0, 1) := by decide +kernel
theorem dX9_reads_48 : decode cX9_reads 48 = .ok (.getfield 63, 3) := by decide +kernel
theorem dX9_reads_51 : decode cX9_reads 51 = .ok (.ifCond .eq 61, 3) := by decide +kernel
theorem dX9_reads_54 : decode cX9_reads 54 = .ok (.aload_n 0, 1) := by decide +kernel
theorem dX9_reads_55 : decode cX9_reads 55 = .ok (.getfield 63, 3) := by decide +kernel
theorem dX9_reads_58 : decode cX9_reads 58 = .ok (.iconst 1, 1) := by decide +kernel
theorem dX9_reads_59 : decode cX9_reads 59 = .ok (.if_icmp .ne 10, 3) := by decide +kernel
theorem dX9_reads_62 : decode cX9_reads 62 = .ok (.aload_n 0, 1) := by decide +kernel
theorem dX9_reads_63 : decode cX9_reads 63 = .ok (.invokevirtual 90, 3) := by decide +kernel
theorem dX9_reads_66 : decode cX9_reads 66 = .ok (.goto 23, 3) := by decide +kernel
theorem dX9_reads_69 : decode cX9_reads 69 = .ok (.aload_n 0, 1) := by decide +kernel
theorem dX9_reads_70 : decode cX9_reads 70 = .ok (.getfield 63, 3) := by decide +kernel
theorem dX9_reads_73 : decode cX9_reads 73 = .ok (.iconst 2, 1) := by decide +kernel
theorem dX9_reads_74 : decode cX9_reads 74 = .ok (.if_icmp .ne 10, 3) := by decide +kernel
theorem dX9_reads_77 : decode cX9_reads 77 = .ok (.aload_n 0, 1) := by decide +kernel
theorem dX9_reads_78 : decode cX9_reads 78 = .ok (.invokevirtual 93, 3) := by decide +kernel
theorem dX9_reads_81 : decode cX9_reads 81 = .ok (.goto 8, 3) := by decide +kernel
theorem dX9_reads_84 : decode cX9_reads 84 = .ok (.aload_n 0, 1) := by decide +kernel
theorem dX9_reads_85 : decode cX9_reads 85 = .ok (.iconst 0, 1) := by decide +kernel
theorem dX9_reads_86 : decode cX9_reads 86 = .ok (.invokevirtual 82, 3) := by decide +kernel
theorem dX9_reads_89 : decode cX9_reads 89 = .ok (.aload_n 0, 1) := by decide +kernel
theorem dX9_reads_90 : decode cX9_reads 90 = .ok (.aload_n 0, 1) := by decide +kernel
theorem dX9_reads_91 : decode cX9_reads 91 = .ok (.getfield 63, 3) := by decide +kernel
theorem dX9_reads_94 : decode cX9_reads 94 = .ok (.iconst 4, 1) := by decide +kernel
theorem dX9_reads_95 : decode cX9_reads 95 = .ok (.if_icmp .ne 7, 3) := by decide +kernel
theorem dX9_reads_98 : decode cX9_reads 98 = .ok (.iconst 1, 1) := by decide +kernel
theorem dX9_reads_99 : decode cX9_reads 99 = .ok (.goto 4, 3) := by decide +kernel
theorem dX9_reads_102 : decode cX9_reads 102 = .ok (.iconst 0, 1) := by decide +kernel
theorem dX9_reads_103 : decode cX9_reads 103 = .ok (.invokevirtual 82, 3) := by decide +kernel
theorem dX9_reads_106 : decode cX9_reads 106 = .ok (.iinc 1 1, 3) := by decide +kernel
theorem dX9_reads_109 : decode cX9_reads 109 = .ok (.goto (-71), 3) := by decide +kernel
theorem dX9_reads_112 : decode cX9_reads 112 = .ok (.iload_n 1, 1) := by decide +kernel
theorem dX9_reads_113 : decode cX9_reads 113 = .ok (.ireturn, 1) := by decide +kernel
theorem dX9_tells_0 : decode cX9_tells 0 = .ok (.aload_n 0, 1) := by decide +kernel
theorem dX9_tells_1 : decode cX9_tells 1 = .ok (.iconst 0, 1) := by decide +kernel
theorem dX9_tells_2 : decode cX9_tells 2 = .ok (.putfield 39, 3) := by decide +kernel
theorem dX9_tells_5 : decode cX9_tells 5 = .ok (.aload_n 0, 1) := by decide +kernel
theorem dX9_tells_6 : decode cX9_tells 6 = .ok (.invokevirtual 96, 3) := by decide +kernel
theorem dX9_tells_9 : decode cX9_tells 9 = .ok (.istore_n 1, 1) := by decide +kernel
theorem dX9_tells_10 : decode cX9_tells 10 = .ok (.aload_n 0, 1) := by decide +kernel
theorem dX9_tells_11 : decode cX9_tells 11 = .ok (.getfield 76, 3) := by decide +kernel
theorem dX9_tells_14 : decode cX9_tells 14 = .ok (.bipush (-9), 2) := by decide +kernel
theorem dX9_tells_16 : decode cX9_tells 16 = .ok (.if_icmp .eq 11, 3) := by decide +kernel
theorem dX9_tells_19 : decode cX9_tells 19 = .ok (.bipush (-10), 2) := by decide +kernel
theorem dX9_tells_21 : decode cX9_tells 21 = .ok (.aload_n 0, 1) := by decide +kernel
theorem dX9_tells_22 : decode cX9_tells 22 = .ok (.getfield 76, 3) := by decide +kernel
theorem dX9_tells_25 : decode cX9_tells 25 = .ok (.isub, 1) := by decide +kernel
theorem dX9_tells_26 : decode cX9_tells 26 = .ok (.ireturn, 1) := by decide +kernel
theorem dX9_tells_27 : decode cX9_tells 27 = .ok (.aload_n 0, 1) := by decide +kernel
theorem dX9_tells_28 : decode cX9_tells 28 = .ok (.invokevirtual 100, 3) := by decide +kernel
theorem dX9_tells_31 : decode cX9_tells 31 = .ok (.iconst 0, 1) := by decide +kernel
theorem dX9_tells_32 : decode cX9_tells 32 = .ok (.istore_n 2, 1) := by decide +kernel
theorem dX9_tells_33 : decode cX9_tells 33 = .ok (.iload_n 2, 1) := by decide +kernel
theorem dX9_tells_34 : decode cX9_tells 34 = .ok (.bipush 25, 2) := by decide +kernel
theorem dX9_tells_36 : decode cX9_tells 36 = .ok (.if_icmp .ge 21, 3) := by decide +kernel
theorem dX9_tells_39 : decode cX9_tells 39 = .ok (.aload_n 0, 1) := by decide +kernel
theorem dX9_tells_40 : decode cX9_tells 40 = .ok (.getfield 7, 3) := by decide +kernel
theorem dX9_tells_43 : decode cX9_tells 43 = .ok (.iload_n 2, 1) := by decide +kernel
theorem dX9_tells_44 : decode cX9_tells 44 = .ok (.aload_n 0, 1) := by decide +kernel
theorem dX9_tells_45 : decode cX9_tells 45 = .ok (.getfield 13, 3) := by decide +kernel
theorem dX9_tells_48 : decode cX9_tells 48 = .ok (.iload_n 2, 1) := by decide +kernel
theorem dX9_tells_49 : decode cX9_tells 49 = .ok (.iaload, 1) := by decide +kernel
theorem dX9_tells_50 : decode cX9_tells 50 = .ok (.iastore, 1) := by decide +kernel
theorem dX9_tells_51 : decode cX9_tells 51 = .ok (.iinc 2 1, 3) := by decide +kernel
theorem dX9_tells_54 : decode cX9_tells 54 = .ok (.goto (-21), 3) := by decide +kernel
theorem dX9_tells_57 : decode cX9_tells 57 = .ok (.aload_n 0, 1) := by decide +kernel
theorem dX9_tells_58 : decode cX9_tells 58 = .ok (.iconst 0, 1) := by decide +kernel
theorem dX9_tells_59 : decode cX9_tells 59 = .ok (.putfield 47, 3) := by decide +kernel
theorem dX9_tells_62 : decode cX9_tells 62 = .ok (.iload_n 1, 1) := by decide +kernel
theorem dX9_tells_63 : decode cX9_tells 63 = .ok (.ireturn, 1) := by decide +kernel
theorem dX9_isCask_0 : decode cX9_isCask 0 = .ok (.iload_n 1, 1) := by decide +kernel
theorem dX9_isCask_1 : decode cX9_isCask 1 = .ok (.iconst 0, 1) := by decide +kernel
theorem dX9_isCask_2 : decode cX9_isCask 2 = .ok (.aload_n 0, 1) := by decide +kernel
theorem dX9_isCask_3 : decode cX9_isCask 3 = .ok (.getfield 7, 3) := by decide +kernel
theorem dX9_isCask_6 : decode cX9_isCask 6 = .ok (.bipush 24, 2) := by decide +kernel
theorem dX9_isCask_8 : decode cX9_isCask 8 = .ok (.iaload, 1) := by decide +kernel
theorem dX9_isCask_9 : decode cX9_isCask 9 = .ok (.iconst 1, 1) := by decide +kernel
theorem dX9_isCask_10 : decode cX9_isCask 10 = .ok (.isub, 1) := by decide +kernel
theorem dX9_isCask_11 : decode cX9_isCask 11 = .ok (.invokestatic 43, 3) := by decide +kernel
theorem dX9_isCask_14 : decode cX9_isCask 14 = .ok (.ireturn, 1) := by decide +kernel
theorem dX9_of_0 : decode cX9_of 0 = .ok (.aload_n 0, 1) := by decide +kernel
theorem dX9_of_1 : decode cX9_of 1 = .ok (.getfield 7, 3) := by decide +kernel
theorem dX9_of_4 : decode cX9_of 4 = .ok (.bipush 6, 2) := by decide +kernel
theorem dX9_of_6 : decode cX9_of 6 = .ok (.iload_n 1, 1) := by decide +kernel
theorem dX9_of_7 : decode cX9_of 7 = .ok (.imul, 1) := by decide +kernel
theorem dX9_of_8 : decode cX9_of 8 = .ok (.iload_n 2, 1) := by decide +kernel
theorem dX9_of_9 : decode cX9_of 9 = .ok (.iadd, 1) := by decide +kernel
theorem dX9_of_10 : decode cX9_of 10 = .ok (.iaload, 1) := by decide +kernel
theorem dX9_of_11 : decode cX9_of 11 = .ok (.ireturn, 1) := by decide +kernel
theorem dX9_radius_0 : decode cX9_radius 0 = .ok (.aload_n 0, 1) := by decide +kernel
theorem dX9_radius_1 : decode cX9_radius 1 = .ok (.iload_n 1, 1) := by decide +kernel
theorem dX9_radius_2 : decode cX9_radius 2 = .ok (.iconst 0, 1) := by decide +kernel
theorem dX9_radius_3 : decode cX9_radius 3 = .ok (.invokevirtual 103, 3) := by decide +kernel
theorem dX9_radius_6 : decode cX9_radius 6 = .ok (.istore_n 3, 1) := by decide +kernel
theorem dX9_radius_7 : decode cX9_radius 7 = .ok (.iconst 2, 1) := by decide +kernel
theorem dX9_radius_8 : decode cX9_radius 8 = .ok (.iload_n 2, 1) := by decide +kernel
theorem dX9_radius_9 : decode cX9_radius 9 = .ok (.imul, 1) := by decide +kernel
theorem dX9_radius_10 : decode cX9_radius 10 = .ok (.iconst 1, 1) := by decide +kernel
theorem dX9_radius_11 : decode cX9_radius 11 = .ok (.iadd, 1) := by decide +kernel
theorem dX9_radius_12 : decode cX9_radius 12 = .ok (.iload_n 3, 1) := by decide +kernel
theorem dX9_radius_13 : decode cX9_radius 13 = .ok (.isub, 1) := by decide +kernel
theorem dX9_radius_14 : decode cX9_radius 14 = .ok (.istore 4, 2) := by decide +kernel
theorem dX9_radius_16 : decode cX9_radius 16 = .ok (.aload_n 0, 1) := by decide +kernel
theorem dX9_radius_17 : decode cX9_radius 17 = .ok (.iload_n 1, 1) := by decide +kernel
theorem dX9_radius_18 : decode cX9_radius 18 = .ok (.iconst 2, 1) := by decide +kernel
theorem dX9_radius_19 : decode cX9_radius 19 = .ok (.invokevirtual 103, 3) := by decide +kernel
theorem dX9_radius_22 : decode cX9_radius 22 = .ok (.aload_n 0, 1) := by decide +kernel
theorem dX9_radius_23 : decode cX9_radius 23 = .ok (.iload_n 1, 1) := by decide +kernel
theorem dX9_radius_24 : decode cX9_radius 24 = .ok (.iconst 2, 1) := by decide +kernel
theorem dX9_radius_25 : decode cX9_radius 25 = .ok (.invokevirtual 103, 3) := by decide +kernel
theorem dX9_radius_28 : decode cX9_radius 28 = .ok (.aload_n 0, 1) := by decide +kernel
theorem dX9_radius_29 : decode cX9_radius 29 = .ok (.iload_n 1, 1) := by decide +kernel
theorem dX9_radius_30 : decode cX9_radius 30 = .ok (.iconst 1, 1) := by decide +kernel
theorem dX9_radius_31 : decode cX9_radius 31 = .ok (.invokevirtual 103, 3) := by decide +kernel
theorem dX9_radius_34 : decode cX9_radius 34 = .ok (.isub, 1) := by decide +kernel
theorem dX9_radius_35 : decode cX9_radius 35 = .ok (.iload 4, 2) := by decide +kernel
theorem dX9_radius_37 : decode cX9_radius 37 = .ok (.imul, 1) := by decide +kernel
theorem dX9_radius_38 : decode cX9_radius 38 = .ok (.iload 4, 2) := by decide +kernel
theorem dX9_radius_40 : decode cX9_radius 40 = .ok (.imul, 1) := by decide +kernel
theorem dX9_radius_41 : decode cX9_radius 41 = .ok (.iload_n 3, 1) := by decide +kernel
theorem dX9_radius_42 : decode cX9_radius 42 = .ok (.iload_n 3, 1) := by decide +kernel
theorem dX9_radius_43 : decode cX9_radius 43 = .ok (.imul, 1) := by decide +kernel
theorem dX9_radius_44 : decode cX9_radius 44 = .ok (.idiv, 1) := by decide +kernel
theorem dX9_radius_45 : decode cX9_radius 45 = .ok (.isub, 1) := by decide +kernel
theorem dX9_radius_46 : decode cX9_radius 46 = .ok (.ireturn, 1) := by decide +kernel
theorem dX9_cellsOf_0 : decode cX9_cellsOf 0 = .ok (.iconst 2, 1) := by decide +kernel
theorem dX9_cellsOf_1 : decode cX9_cellsOf 1 = .ok (.aload_n 0, 1) := by decide +kernel
theorem dX9_cellsOf_2 : decode cX9_cellsOf 2 = .ok (.iload_n 1, 1) := by decide +kernel
theorem dX9_cellsOf_3 : decode cX9_cellsOf 3 = .ok (.iload_n 2, 1) := by decide +kernel
theorem dX9_cellsOf_4 : decode cX9_cellsOf 4 = .ok (.invokevirtual 106, 3) := by decide +kernel
theorem dX9_cellsOf_7 : decode cX9_cellsOf 7 = .ok (.imul, 1) := by decide +kernel
theorem dX9_cellsOf_8 : decode cX9_cellsOf 8 = .ok (.istore 4, 2) := by decide +kernel
theorem dX9_cellsOf_10 : decode cX9_cellsOf 10 = .ok (.iconst 2, 1) := by decide +kernel
theorem dX9_cellsOf_11 : decode cX9_cellsOf 11 = .ok (.iload_n 3, 1) := by decide +kernel
theorem dX9_cellsOf_12 : decode cX9_cellsOf 12 = .ok (.imul, 1) := by decide +kernel
theorem dX9_cellsOf_13 : decode cX9_cellsOf 13 = .ok (.iconst 1, 1) := by decide +kernel
theorem dX9_cellsOf_14 : decode cX9_cellsOf 14 = .ok (.iadd, 1) := by decide +kernel
theorem dX9_cellsOf_15 : decode cX9_cellsOf 15 = .ok (.iconst 2, 1) := by decide +kernel
theorem dX9_cellsOf_16 : decode cX9_cellsOf 16 = .ok (.aload_n 0, 1) := by decide +kernel
theorem dX9_cellsOf_17 : decode cX9_cellsOf 17 = .ok (.iload_n 1, 1) := by decide +kernel
theorem dX9_cellsOf_18 : decode cX9_cellsOf 18 = .ok (.iconst 2, 1) := by decide +kernel
theorem dX9_cellsOf_19 : decode cX9_cellsOf 19 = .ok (.invokevirtual 103, 3) := by decide +kernel
theorem dX9_cellsOf_22 : decode cX9_cellsOf 22 = .ok (.imul, 1) := by decide +kernel
theorem dX9_cellsOf_23 : decode cX9_cellsOf 23 = .ok (.isub, 1) := by decide +kernel
theorem dX9_cellsOf_24 : decode cX9_cellsOf 24 = .ok (.istore 5, 2) := by decide +kernel
theorem dX9_cellsOf_26 : decode cX9_cellsOf 26 = .ok (.iload 4, 2) := by decide +kernel
theorem dX9_cellsOf_28 : decode cX9_cellsOf 28 = .ok (.iload 4, 2) := by decide +kernel
theorem dX9_cellsOf_30 : decode cX9_cellsOf 30 = .ok (.imul, 1) := by decide +kernel
theorem dX9_cellsOf_31 : decode cX9_cellsOf 31 = .ok (.iload 5, 2) := by decide +kernel
theorem dX9_cellsOf_33 : decode cX9_cellsOf 33 = .ok (.iload 5, 2) := by decide +kernel
theorem dX9_cellsOf_35 : decode cX9_cellsOf 35 = .ok (.imul, 1) := by decide +kernel
theorem dX9_cellsOf_36 : decode cX9_cellsOf 36 = .ok (.isub, 1) := by decide +kernel
theorem dX9_cellsOf_37 : decode cX9_cellsOf 37 = .ok (.istore 6, 2) := by decide +kernel
theorem dX9_cellsOf_39 : decode cX9_cellsOf 39 = .ok (.iconst 0, 1) := by decide +kernel
theorem dX9_cellsOf_40 : decode cX9_cellsOf 40 = .ok (.istore 7, 2) := by decide +kernel
theorem dX9_cellsOf_42 : decode cX9_cellsOf 42 = .ok (.iload 6, 2) := by decide +kernel
theorem dX9_cellsOf_44 : decode cX9_cellsOf 44 = .ok (.ifCond .lt 25, 3) := by decide +kernel
theorem dX9_cellsOf_47 : decode cX9_cellsOf 47 = .ok (.iconst 4, 1) := by decide +kernel
theorem dX9_cellsOf_48 : decode cX9_cellsOf 48 = .ok (.iload 7, 2) := by decide +kernel
theorem dX9_cellsOf_50 : decode cX9_cellsOf 50 = .ok (.iconst 1, 1) := by decide +kernel
theorem dX9_cellsOf_51 : decode cX9_cellsOf 51 = .ok (.iadd, 1) := by decide +kernel
theorem dX9_cellsOf_52 : decode cX9_cellsOf 52 = .ok (.imul, 1) := by decide +kernel
theorem dX9_cellsOf_53 : decode cX9_cellsOf 53 = .ok (.iload 7, 2) := by decide +kernel
theorem dX9_cellsOf_55 : decode cX9_cellsOf 55 = .ok (.iconst 1, 1) := by decide +kernel
theorem dX9_cellsOf_56 : decode cX9_cellsOf 56 = .ok (.iadd, 1) := by decide +kernel
theorem dX9_cellsOf_57 : decode cX9_cellsOf 57 = .ok (.imul, 1) := by decide +kernel
theorem dX9_cellsOf_58 : decode cX9_cellsOf 58 = .ok (.iload 6, 2) := by decide +kernel
theorem dX9_cellsOf_60 : decode cX9_cellsOf 60 = .ok (.if_icmp .gt 9, 3) := by decide +kernel
theorem dX9_cellsOf_63 : decode cX9_cellsOf 63 = .ok (.iinc 7 1, 3) := by decide +kernel
theorem dX9_cellsOf_66 : decode cX9_cellsOf 66 = .ok (.goto (-24), 3) := by decide +kernel
theorem dX9_cellsOf_69 : decode cX9_cellsOf 69 = .ok (.iconst 2, 1) := by decide +kernel
theorem dX9_cellsOf_70 : decode cX9_cellsOf 70 = .ok (.iload 7, 2) := by decide +kernel
theorem dX9_cellsOf_72 : decode cX9_cellsOf 72 = .ok (.imul, 1) := by decide +kernel
theorem dX9_cellsOf_73 : decode cX9_cellsOf 73 = .ok (.ireturn, 1) := by decide +kernel
theorem dX9_lays_0 : decode cX9_lays 0 = .ok (.aload_n 0, 1) := by decide +kernel
theorem dX9_lays_1 : decode cX9_lays 1 = .ok (.iload_n 2, 1) := by decide +kernel
theorem dX9_lays_2 : decode cX9_lays 2 = .ok (.ifCond .eq 14, 3) := by decide +kernel
theorem dX9_lays_5 : decode cX9_lays 5 = .ok (.iconst 2, 1) := by decide +kernel
theorem dX9_lays_6 : decode cX9_lays 6 = .ok (.aload_n 0, 1) := by decide +kernel
theorem dX9_lays_7 : decode cX9_lays 7 = .ok (.iload_n 1, 1) := by decide +kernel
theorem dX9_lays_8 : decode cX9_lays 8 = .ok (.iconst 2, 1) := by decide +kernel
theorem dX9_lays_9 : decode cX9_lays 9 = .ok (.invokevirtual 103, 3) := by decide +kernel
theorem dX9_lays_12 : decode cX9_lays 12 = .ok (.imul, 1) := by decide +kernel
theorem dX9_lays_13 : decode cX9_lays 13 = .ok (.goto 9, 3) := by decide +kernel
theorem dX9_lays_16 : decode cX9_lays 16 = .ok (.aload_n 0, 1) := by decide +kernel
theorem dX9_lays_17 : decode cX9_lays 17 = .ok (.iload_n 1, 1) := by decide +kernel
theorem dX9_lays_18 : decode cX9_lays 18 = .ok (.iconst 0, 1) := by decide +kernel
theorem dX9_lays_19 : decode cX9_lays 19 = .ok (.invokevirtual 103, 3) := by decide +kernel
theorem dX9_lays_22 : decode cX9_lays 22 = .ok (.putfield 109, 3) := by decide +kernel
theorem dX9_lays_25 : decode cX9_lays 25 = .ok (.aload_n 0, 1) := by decide +kernel
theorem dX9_lays_26 : decode cX9_lays 26 = .ok (.getfield 33, 3) := by decide +kernel
theorem dX9_lays_29 : decode cX9_lays 29 = .ok (.iconst 0, 1) := by decide +kernel
theorem dX9_lays_30 : decode cX9_lays 30 = .ok (.iconst 0, 1) := by decide +kernel
theorem dX9_lays_31 : decode cX9_lays 31 = .ok (.iastore, 1) := by decide +kernel
theorem dX9_lays_32 : decode cX9_lays 32 = .ok (.iconst 0, 1) := by decide +kernel
theorem dX9_lays_33 : decode cX9_lays 33 = .ok (.istore_n 3, 1) := by decide +kernel
theorem dX9_lays_34 : decode cX9_lays 34 = .ok (.iload_n 3, 1) := by decide +kernel
theorem dX9_lays_35 : decode cX9_lays 35 = .ok (.aload_n 0, 1) := by decide +kernel
theorem dX9_lays_36 : decode cX9_lays 36 = .ok (.getfield 109, 3) := by decide +kernel
theorem dX9_lays_39 : decode cX9_lays 39 = .ok (.if_icmp .ge 92, 3) := by decide +kernel
theorem dX9_lays_42 : decode cX9_lays 42 = .ok (.iconst 0, 1) := by decide +kernel
theorem dX9_lays_43 : decode cX9_lays 43 = .ok (.istore 4, 2) := by decide +kernel
theorem dX9_lays_45 : decode cX9_lays 45 = .ok (.iconst 0, 1) := by decide +kernel
theorem dX9_lays_46 : decode cX9_lays 46 = .ok (.istore 5, 2) := by decide +kernel
theorem dX9_lays_48 : decode cX9_lays 48 = .ok (.iload 5, 2) := by decide +kernel
theorem dX9_lays_50 : decode cX9_lays 50 = .ok (.iload_n 2, 1) := by decide +kernel
theorem dX9_lays_51 : decode cX9_lays 51 = .ok (.ifCond .eq 12, 3) := by decide +kernel
theorem dX9_lays_54 : decode cX9_lays 54 = .ok (.aload_n 0, 1) := by decide +kernel
theorem dX9_lays_55 : decode cX9_lays 55 = .ok (.iload_n 1, 1) := by decide +kernel
theorem dX9_lays_56 : decode cX9_lays 56 = .ok (.iconst 0, 1) := by decide +kernel
theorem dX9_lays_57 : decode cX9_lays 57 = .ok (.invokevirtual 103, 3) := by decide +kernel
theorem dX9_lays_60 : decode cX9_lays 60 = .ok (.goto 11, 3) := by decide +kernel
theorem dX9_lays_63 : decode cX9_lays 63 = .ok (.iconst 2, 1) := by decide +kernel
theorem dX9_lays_64 : decode cX9_lays 64 = .ok (.aload_n 0, 1) := by decide +kernel
theorem dX9_lays_65 : decode cX9_lays 65 = .ok (.iload_n 1, 1) := by decide +kernel
theorem dX9_lays_66 : decode cX9_lays 66 = .ok (.iconst 2, 1) := by decide +kernel
theorem dX9_lays_67 : decode cX9_lays 67 = .ok (.invokevirtual 103, 3) := by decide +kernel
theorem dX9_lays_70 : decode cX9_lays 70 = .ok (.imul, 1) := by decide +kernel
theorem dX9_lays_71 : decode cX9_lays 71 = .ok (.if_icmp .ge 37, 3) := by decide +kernel
theorem dX9_lays_74 : decode cX9_lays 74 = .ok (.iload 4, 2) := by decide +kernel
theorem dX9_lays_76 : decode cX9_lays 76 = .ok (.iload_n 2, 1) := by decide +kernel
theorem dX9_lays_77 : decode cX9_lays 77 = .ok (.ifCond .eq 14, 3) := by decide +kernel
theorem dX9_lays_80 : decode cX9_lays 80 = .ok (.aload_n 0, 1) := by decide +kernel
theorem dX9_lays_81 : decode cX9_lays 81 = .ok (.iload_n 1, 1) := by decide +kernel
theorem dX9_lays_82 : decode cX9_lays 82 = .ok (.iload 5, 2) := by decide +kernel
theorem dX9_lays_84 : decode cX9_lays 84 = .ok (.iload_n 3, 1) := by decide +kernel
theorem dX9_lays_85 : decode cX9_lays 85 = .ok (.invokevirtual 112, 3) := by decide +kernel
theorem dX9_lays_88 : decode cX9_lays 88 = .ok (.goto 11, 3) := by decide +kernel
theorem dX9_lays_91 : decode cX9_lays 91 = .ok (.aload_n 0, 1) := by decide +kernel
theorem dX9_lays_92 : decode cX9_lays 92 = .ok (.iload_n 1, 1) := by decide +kernel
theorem dX9_lays_93 : decode cX9_lays 93 = .ok (.iload_n 3, 1) := by decide +kernel
theorem dX9_lays_94 : decode cX9_lays 94 = .ok (.iload 5, 2) := by decide +kernel
theorem dX9_lays_96 : decode cX9_lays 96 = .ok (.invokevirtual 112, 3) := by decide +kernel
theorem dX9_lays_99 : decode cX9_lays 99 = .ok (.iadd, 1) := by decide +kernel
theorem dX9_lays_100 : decode cX9_lays 100 = .ok (.istore 4, 2) := by decide +kernel
theorem dX9_lays_102 : decode cX9_lays 102 = .ok (.iinc 5 1, 3) := by decide +kernel
theorem dX9_lays_105 : decode cX9_lays 105 = .ok (.goto (-57), 3) := by decide +kernel
theorem dX9_lays_108 : decode cX9_lays 108 = .ok (.aload_n 0, 1) := by decide +kernel
theorem dX9_lays_109 : decode cX9_lays 109 = .ok (.getfield 33, 3) := by decide +kernel
theorem dX9_lays_112 : decode cX9_lays 112 = .ok (.iload_n 3, 1) := by decide +kernel
theorem dX9_lays_113 : decode cX9_lays 113 = .ok (.iconst 1, 1) := by decide +kernel
theorem dX9_lays_114 : decode cX9_lays 114 = .ok (.iadd, 1) := by decide +kernel
theorem dX9_lays_115 : decode cX9_lays 115 = .ok (.aload_n 0, 1) := by decide +kernel
theorem dX9_lays_116 : decode cX9_lays 116 = .ok (.getfield 33, 3) := by decide +kernel
theorem dX9_lays_119 : decode cX9_lays 119 = .ok (.iload_n 3, 1) := by decide +kernel
theorem dX9_lays_120 : decode cX9_lays 120 = .ok (.iaload, 1) := by decide +kernel
theorem dX9_lays_121 : decode cX9_lays 121 = .ok (.iload 4, 2) := by decide +kernel
theorem dX9_lays_123 : decode cX9_lays 123 = .ok (.iadd, 1) := by decide +kernel
theorem dX9_lays_124 : decode cX9_lays 124 = .ok (.iastore, 1) := by decide +kernel
theorem dX9_lays_125 : decode cX9_lays 125 = .ok (.iinc 3 1, 3) := by decide +kernel
theorem dX9_lays_128 : decode cX9_lays 128 = .ok (.goto (-94), 3) := by decide +kernel
theorem dX9_lays_131 : decode cX9_lays 131 = .ok (.return_, 1) := by decide +kernel
theorem dX9_laysNow_0 : decode cX9_laysNow 0 = .ok (.aload_n 0, 1) := by decide +kernel
theorem dX9_laysNow_1 : decode cX9_laysNow 1 = .ok (.iload_n 1, 1) := by decide +kernel
theorem dX9_laysNow_2 : decode cX9_laysNow 2 = .ok (.aload_n 0, 1) := by decide +kernel
theorem dX9_laysNow_3 : decode cX9_laysNow 3 = .ok (.iload_n 1, 1) := by decide +kernel
theorem dX9_laysNow_4 : decode cX9_laysNow 4 = .ok (.iconst 3, 1) := by decide +kernel
theorem dX9_laysNow_5 : decode cX9_laysNow 5 = .ok (.invokevirtual 103, 3) := by decide +kernel
theorem dX9_laysNow_8 : decode cX9_laysNow 8 = .ok (.iconst 1, 1) := by decide +kernel
theorem dX9_laysNow_9 : decode cX9_laysNow 9 = .ok (.if_icmp .ne 7, 3) := by decide +kernel
theorem dX9_laysNow_12 : decode cX9_laysNow 12 = .ok (.iconst 1, 1) := by decide +kernel
theorem dX9_laysNow_13 : decode cX9_laysNow 13 = .ok (.goto 4, 3) := by decide +kernel
theorem dX9_laysNow_16 : decode cX9_laysNow 16 = .ok (.iconst 0, 1) := by decide +kernel
theorem dX9_laysNow_17 : decode cX9_laysNow 17 = .ok (.invokevirtual 116, 3) := by decide +kernel
theorem dX9_laysNow_20 : decode cX9_laysNow 20 = .ok (.return_, 1) := by decide +kernel
theorem dX9_dipOf_0 : decode cX9_dipOf 0 = .ok (.iconst 0, 1) := by decide +kernel
theorem dX9_dipOf_1 : decode cX9_dipOf 1 = .ok (.istore_n 2, 1) := by decide +kernel
theorem dX9_dipOf_2 : decode cX9_dipOf 2 = .ok (.aload_n 0, 1) := by decide +kernel
theorem dX9_dipOf_3 : decode cX9_dipOf 3 = .ok (.getfield 33, 3) := by decide +kernel
theorem dX9_dipOf_6 : decode cX9_dipOf 6 = .ok (.iload_n 2, 1) := by decide +kernel
theorem dX9_dipOf_7 : decode cX9_dipOf 7 = .ok (.iaload, 1) := by decide +kernel
theorem dX9_dipOf_8 : decode cX9_dipOf 8 = .ok (.iload_n 1, 1) := by decide +kernel
theorem dX9_dipOf_9 : decode cX9_dipOf 9 = .ok (.if_icmp .ge 9, 3) := by decide +kernel
theorem dX9_dipOf_12 : decode cX9_dipOf 12 = .ok (.iinc 2 1, 3) := by decide +kernel
theorem dX9_dipOf_15 : decode cX9_dipOf 15 = .ok (.goto (-13), 3) := by decide +kernel
theorem dX9_dipOf_18 : decode cX9_dipOf 18 = .ok (.iload_n 2, 1) := by decide +kernel
theorem dX9_dipOf_19 : decode cX9_dipOf 19 = .ok (.ireturn, 1) := by decide +kernel
