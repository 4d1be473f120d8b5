theorem dX9_mean_0 : decode cX9_mean 0 = .ok (.fconst 0, 1) := by decide +kernel
theorem dX9_mean_1 : decode cX9_mean 1 = .ok (.fstore_n 1, 1) := by decide +kernel
theorem dX9_mean_2 : decode cX9_mean 2 = .ok (.iconst 0, 1) := by decide +kernel
theorem dX9_mean_3 : decode cX9_mean 3 = .ok (.istore_n 2, 1) := by decide +kernel
theorem dX9_mean_4 : decode cX9_mean 4 = .ok (.iconst 0, 1) := by decide +kernel
theorem dX9_mean_5 : decode cX9_mean 5 = .ok (.istore_n 3, 1) := by decide +kernel
theorem dX9_mean_6 : decode cX9_mean 6 = .ok (.iload_n 3, 1) := by decide +kernel
theorem dX9_mean_7 : decode cX9_mean 7 = .ok (.aload_n 0, 1) := by decide +kernel
theorem dX9_mean_8 : decode cX9_mean 8 = .ok (.getfield 7, 3) := by decide +kernel
theorem dX9_mean_11 : decode cX9_mean 11 = .ok (.bipush 24, 2) := by decide +kernel
theorem dX9_mean_13 : decode cX9_mean 13 = .ok (.iaload, 1) := by decide +kernel
theorem dX9_mean_14 : decode cX9_mean 14 = .ok (.if_icmp .ge 29, 3) := by decide +kernel
theorem dX9_mean_17 : decode cX9_mean 17 = .ok (.aload_n 0, 1) := by decide +kernel
theorem dX9_mean_18 : decode cX9_mean 18 = .ok (.iload_n 3, 1) := by decide +kernel
theorem dX9_mean_19 : decode cX9_mean 19 = .ok (.iconst 4, 1) := by decide +kernel
theorem dX9_mean_20 : decode cX9_mean 20 = .ok (.invokevirtual 103, 3) := by decide +kernel
theorem dX9_mean_23 : decode cX9_mean 23 = .ok (.ifCond .le 14, 3) := by decide +kernel
theorem dX9_mean_26 : decode cX9_mean 26 = .ok (.fload_n 1, 1) := by decide +kernel
theorem dX9_mean_27 : decode cX9_mean 27 = .ok (.aload_n 0, 1) := by decide +kernel
theorem dX9_mean_28 : decode cX9_mean 28 = .ok (.iload_n 3, 1) := by decide +kernel
theorem dX9_mean_29 : decode cX9_mean 29 = .ok (.invokevirtual 141, 3) := by decide +kernel
theorem dX9_mean_32 : decode cX9_mean 32 = .ok (.fadd, 1) := by decide +kernel
theorem dX9_mean_33 : decode cX9_mean 33 = .ok (.fstore_n 1, 1) := by decide +kernel
theorem dX9_mean_34 : decode cX9_mean 34 = .ok (.iinc 2 1, 3) := by decide +kernel
theorem dX9_mean_37 : decode cX9_mean 37 = .ok (.iinc 3 1, 3) := by decide +kernel
theorem dX9_mean_40 : decode cX9_mean 40 = .ok (.goto (-34), 3) := by decide +kernel
theorem dX9_mean_43 : decode cX9_mean 43 = .ok (.iload_n 2, 1) := by decide +kernel
theorem dX9_mean_44 : decode cX9_mean 44 = .ok (.ifCond .ne 8, 3) := by decide +kernel
theorem dX9_mean_47 : decode cX9_mean 47 = .ok (.bipush (-9), 2) := by decide +kernel
theorem dX9_mean_49 : decode cX9_mean 49 = .ok (.goto 11, 3) := by decide +kernel
theorem dX9_mean_52 : decode cX9_mean 52 = .ok (.ldc 140, 2) := by decide +kernel
theorem dX9_mean_54 : decode cX9_mean 54 = .ok (.fload_n 1, 1) := by decide +kernel
theorem dX9_mean_55 : decode cX9_mean 55 = .ok (.iload_n 2, 1) := by decide +kernel
theorem dX9_mean_56 : decode cX9_mean 56 = .ok (.i2f, 1) := by decide +kernel
theorem dX9_mean_57 : decode cX9_mean 57 = .ok (.fdiv, 1) := by decide +kernel
theorem dX9_mean_58 : decode cX9_mean 58 = .ok (.fmul, 1) := by decide +kernel
theorem dX9_mean_59 : decode cX9_mean 59 = .ok (.f2i, 1) := by decide +kernel
theorem dX9_mean_60 : decode cX9_mean 60 = .ok (.ireturn, 1) := by decide +kernel
theorem dX9_all_0 : decode cX9_all 0 = .ok (.aload_n 0, 1) := by decide +kernel
theorem dX9_all_1 : decode cX9_all 1 = .ok (.iconst 0, 1) := by decide +kernel
theorem dX9_all_2 : decode cX9_all 2 = .ok (.putfield 39, 3) := by decide +kernel
theorem dX9_all_5 : decode cX9_all 5 = .ok (.iload_n 1, 1) := by decide +kernel
theorem dX9_all_6 : decode cX9_all 6 = .ok (.ifCond .ne 10, 3) := by decide +kernel
theorem dX9_all_9 : decode cX9_all 9 = .ok (.aload_n 0, 1) := by decide +kernel
theorem dX9_all_10 : decode cX9_all 10 = .ok (.invokevirtual 158, 3) := by decide +kernel
theorem dX9_all_13 : decode cX9_all 13 = .ok (.goto 16, 3) := by decide +kernel
theorem dX9_all_16 : decode cX9_all 16 = .ok (.iload_n 1, 1) := by decide +kernel
theorem dX9_all_17 : decode cX9_all 17 = .ok (.iconst 1, 1) := by decide +kernel
theorem dX9_all_18 : decode cX9_all 18 = .ok (.if_icmp .ne 10, 3) := by decide +kernel
theorem dX9_all_21 : decode cX9_all 21 = .ok (.aload_n 0, 1) := by decide +kernel
theorem dX9_all_22 : decode cX9_all 22 = .ok (.invokevirtual 161, 3) := by decide +kernel
theorem dX9_all_25 : decode cX9_all 25 = .ok (.goto 4, 3) := by decide +kernel
theorem dX9_all_28 : decode cX9_all 28 = .ok (.iconst (-1), 1) := by decide +kernel
theorem dX9_all_29 : decode cX9_all 29 = .ok (.ireturn, 1) := by decide +kernel
theorem dX9_sees_0 : decode cX9_sees 0 = .ok (.aload_n 0, 1) := by decide +kernel
theorem dX9_sees_1 : decode cX9_sees 1 = .ok (.iconst 0, 1) := by decide +kernel
theorem dX9_sees_2 : decode cX9_sees 2 = .ok (.putfield 39, 3) := by decide +kernel
theorem dX9_sees_5 : decode cX9_sees 5 = .ok (.iload_n 1, 1) := by decide +kernel
theorem dX9_sees_6 : decode cX9_sees 6 = .ok (.iconst 0, 1) := by decide +kernel
theorem dX9_sees_7 : decode cX9_sees 7 = .ok (.ldc 164, 2) := by decide +kernel
theorem dX9_sees_9 : decode cX9_sees 9 = .ok (.invokestatic 43, 3) := by decide +kernel
theorem dX9_sees_12 : decode cX9_sees 12 = .ok (.ifCond .eq 13, 3) := by decide +kernel
theorem dX9_sees_15 : decode cX9_sees 15 = .ok (.iload_n 2, 1) := by decide +kernel
theorem dX9_sees_16 : decode cX9_sees 16 = .ok (.iconst 0, 1) := by decide +kernel
theorem dX9_sees_17 : decode cX9_sees 17 = .ok (.bipush 40, 2) := by decide +kernel
theorem dX9_sees_19 : decode cX9_sees 19 = .ok (.invokestatic 43, 3) := by decide +kernel
theorem dX9_sees_22 : decode cX9_sees 22 = .ok (.ifCond .ne 5, 3) := by decide +kernel
theorem dX9_sees_25 : decode cX9_sees 25 = .ok (.iconst (-1), 1) := by decide +kernel
theorem dX9_sees_26 : decode cX9_sees 26 = .ok (.ireturn, 1) := by decide +kernel
theorem dX9_sees_27 : decode cX9_sees 27 = .ok (.aload_n 0, 1) := by decide +kernel
theorem dX9_sees_28 : decode cX9_sees 28 = .ok (.getfield 165, 3) := by decide +kernel
theorem dX9_sees_31 : decode cX9_sees 31 = .ok (.bipush 6, 2) := by decide +kernel
theorem dX9_sees_33 : decode cX9_sees 33 = .ok (.if_icmp .ne 6, 3) := by decide +kernel
theorem dX9_sees_36 : decode cX9_sees 36 = .ok (.bipush (-3), 2) := by decide +kernel
theorem dX9_sees_38 : decode cX9_sees 38 = .ok (.ireturn, 1) := by decide +kernel
theorem dX9_sees_39 : decode cX9_sees 39 = .ok (.aload_n 0, 1) := by decide +kernel
theorem dX9_sees_40 : decode cX9_sees 40 = .ok (.getfield 26, 3) := by decide +kernel
theorem dX9_sees_43 : decode cX9_sees 43 = .ok (.iconst 2, 1) := by decide +kernel
theorem dX9_sees_44 : decode cX9_sees 44 = .ok (.aload_n 0, 1) := by decide +kernel
theorem dX9_sees_45 : decode cX9_sees 45 = .ok (.getfield 165, 3) := by decide +kernel
theorem dX9_sees_48 : decode cX9_sees 48 = .ok (.imul, 1) := by decide +kernel
theorem dX9_sees_49 : decode cX9_sees 49 = .ok (.iload_n 1, 1) := by decide +kernel
theorem dX9_sees_50 : decode cX9_sees 50 = .ok (.iastore, 1) := by decide +kernel
theorem dX9_sees_51 : decode cX9_sees 51 = .ok (.aload_n 0, 1) := by decide +kernel
theorem dX9_sees_52 : decode cX9_sees 52 = .ok (.getfield 26, 3) := by decide +kernel
theorem dX9_sees_55 : decode cX9_sees 55 = .ok (.iconst 2, 1) := by decide +kernel
theorem dX9_sees_56 : decode cX9_sees 56 = .ok (.aload_n 0, 1) := by decide +kernel
theorem dX9_sees_57 : decode cX9_sees 57 = .ok (.getfield 165, 3) := by decide +kernel
theorem dX9_sees_60 : decode cX9_sees 60 = .ok (.imul, 1) := by decide +kernel
theorem dX9_sees_61 : decode cX9_sees 61 = .ok (.iconst 1, 1) := by decide +kernel
theorem dX9_sees_62 : decode cX9_sees 62 = .ok (.iadd, 1) := by decide +kernel
theorem dX9_sees_63 : decode cX9_sees 63 = .ok (.iload_n 2, 1) := by decide +kernel
theorem dX9_sees_64 : decode cX9_sees 64 = .ok (.iastore, 1) := by decide +kernel
theorem dX9_sees_65 : decode cX9_sees 65 = .ok (.aload_n 0, 1) := by decide +kernel
theorem dX9_sees_66 : decode cX9_sees 66 = .ok (.dup, 1) := by decide +kernel
theorem dX9_sees_67 : decode cX9_sees 67 = .ok (.getfield 165, 3) := by decide +kernel
theorem dX9_sees_70 : decode cX9_sees 70 = .ok (.iconst 1, 1) := by decide +kernel
theorem dX9_sees_71 : decode cX9_sees 71 = .ok (.iadd, 1) := by decide +kernel
theorem dX9_sees_72 : decode cX9_sees 72 = .ok (.putfield 165, 3) := by decide +kernel
theorem dX9_sees_75 : decode cX9_sees 75 = .ok (.aload_n 0, 1) := by decide +kernel
theorem dX9_sees_76 : decode cX9_sees 76 = .ok (.getfield 165, 3) := by decide +kernel
theorem dX9_sees_79 : decode cX9_sees 79 = .ok (.ireturn, 1) := by decide +kernel
theorem dX9_forget_0 : decode cX9_forget 0 = .ok (.aload_n 0, 1) := by decide +kernel
theorem dX9_forget_1 : decode cX9_forget 1 = .ok (.iconst 0, 1) := by decide +kernel
theorem dX9_forget_2 : decode cX9_forget 2 = .ok (.putfield 39, 3) := by decide +kernel
theorem dX9_forget_5 : decode cX9_forget 5 = .ok (.aload_n 0, 1) := by decide +kernel
theorem dX9_forget_6 : decode cX9_forget 6 = .ok (.getfield 165, 3) := by decide +kernel
theorem dX9_forget_9 : decode cX9_forget 9 = .ok (.istore_n 1, 1) := by decide +kernel
theorem dX9_forget_10 : decode cX9_forget 10 = .ok (.aload_n 0, 1) := by decide +kernel
theorem dX9_forget_11 : decode cX9_forget 11 = .ok (.iconst 0, 1) := by decide +kernel
theorem dX9_forget_12 : decode cX9_forget 12 = .ok (.putfield 165, 3) := by decide +kernel
theorem dX9_forget_15 : decode cX9_forget 15 = .ok (.iload_n 1, 1) := by decide +kernel
theorem dX9_forget_16 : decode cX9_forget 16 = .ok (.ireturn, 1) := by decide +kernel
theorem dX9_suspects_0 : decode cX9_suspects 0 = .ok (.iconst 0, 1) := by decide +kernel
theorem dX9_suspects_1 : decode cX9_suspects 1 = .ok (.istore_n 1, 1) := by decide +kernel
theorem dX9_suspects_2 : decode cX9_suspects 2 = .ok (.iconst 0, 1) := by decide +kernel
theorem dX9_suspects_3 : decode cX9_suspects 3 = .ok (.istore_n 2, 1) := by decide +kernel
theorem dX9_suspects_4 : decode cX9_suspects 4 = .ok (.iload_n 2, 1) := by decide +kernel
theorem dX9_suspects_5 : decode cX9_suspects 5 = .ok (.aload_n 0, 1) := by decide +kernel
theorem dX9_suspects_6 : decode cX9_suspects 6 = .ok (.getfield 7, 3) := by decide +kernel
theorem dX9_suspects_9 : decode cX9_suspects 9 = .ok (.bipush 24, 2) := by decide +kernel
theorem dX9_suspects_11 : decode cX9_suspects 11 = .ok (.iaload, 1) := by decide +kernel
theorem dX9_suspects_12 : decode cX9_suspects 12 = .ok (.if_icmp .ge 107, 3) := by decide +kernel
theorem dX9_suspects_15 : decode cX9_suspects 15 = .ok (.aload_n 0, 1) := by decide +kernel
theorem dX9_suspects_16 : decode cX9_suspects 16 = .ok (.iload_n 2, 1) := by decide +kernel
theorem dX9_suspects_17 : decode cX9_suspects 17 = .ok (.iconst 1, 1) := by decide +kernel
theorem dX9_suspects_18 : decode cX9_suspects 18 = .ok (.invokevirtual 116, 3) := by decide +kernel
theorem dX9_suspects_21 : decode cX9_suspects 21 = .ok (.iconst 1, 1) := by decide +kernel
theorem dX9_suspects_22 : decode cX9_suspects 22 = .ok (.istore_n 3, 1) := by decide +kernel
theorem dX9_suspects_23 : decode cX9_suspects 23 = .ok (.iconst 0, 1) := by decide +kernel
theorem dX9_suspects_24 : decode cX9_suspects 24 = .ok (.istore 4, 2) := by decide +kernel
theorem dX9_suspects_26 : decode cX9_suspects 26 = .ok (.iload 4, 2) := by decide +kernel
theorem dX9_suspects_28 : decode cX9_suspects 28 = .ok (.aload_n 0, 1) := by decide +kernel
theorem dX9_suspects_29 : decode cX9_suspects 29 = .ok (.getfield 165, 3) := by decide +kernel
theorem dX9_suspects_32 : decode cX9_suspects 32 = .ok (.if_icmp .ge 67, 3) := by decide +kernel
theorem dX9_suspects_35 : decode cX9_suspects 35 = .ok (.iload_n 3, 1) := by decide +kernel
theorem dX9_suspects_36 : decode cX9_suspects 36 = .ok (.ifCond .eq 63, 3) := by decide +kernel
theorem dX9_suspects_39 : decode cX9_suspects 39 = .ok (.aload_n 0, 1) := by decide +kernel
theorem dX9_suspects_40 : decode cX9_suspects 40 = .ok (.getfield 26, 3) := by decide +kernel
theorem dX9_suspects_43 : decode cX9_suspects 43 = .ok (.iconst 2, 1) := by decide +kernel
theorem dX9_suspects_44 : decode cX9_suspects 44 = .ok (.iload 4, 2) := by decide +kernel
theorem dX9_suspects_46 : decode cX9_suspects 46 = .ok (.imul, 1) := by decide +kernel
theorem dX9_suspects_47 : decode cX9_suspects 47 = .ok (.iaload, 1) := by decide +kernel
theorem dX9_suspects_48 : decode cX9_suspects 48 = .ok (.aload_n 0, 1) := by decide +kernel
theorem dX9_suspects_49 : decode cX9_suspects 49 = .ok (.getfield 33, 3) := by decide +kernel
theorem dX9_suspects_52 : decode cX9_suspects 52 = .ok (.aload_n 0, 1) := by decide +kernel
theorem dX9_suspects_53 : decode cX9_suspects 53 = .ok (.getfield 109, 3) := by decide +kernel
theorem dX9_suspects_56 : decode cX9_suspects 56 = .ok (.iaload, 1) := by decide +kernel
theorem dX9_suspects_57 : decode cX9_suspects 57 = .ok (.if_icmp .gt 34, 3) := by decide +kernel
theorem dX9_suspects_60 : decode cX9_suspects 60 = .ok (.aload_n 0, 1) := by decide +kernel
theorem dX9_suspects_61 : decode cX9_suspects 61 = .ok (.aload_n 0, 1) := by decide +kernel
theorem dX9_suspects_62 : decode cX9_suspects 62 = .ok (.getfield 26, 3) := by decide +kernel
theorem dX9_suspects_65 : decode cX9_suspects 65 = .ok (.iconst 2, 1) := by decide +kernel
theorem dX9_suspects_66 : decode cX9_suspects 66 = .ok (.iload 4, 2) := by decide +kernel
theorem dX9_suspects_68 : decode cX9_suspects 68 = .ok (.imul, 1) := by decide +kernel
theorem dX9_suspects_69 : decode cX9_suspects 69 = .ok (.iaload, 1) := by decide +kernel
theorem dX9_suspects_70 : decode cX9_suspects 70 = .ok (.invokevirtual 137, 3) := by decide +kernel
theorem dX9_suspects_73 : decode cX9_suspects 73 = .ok (.aload_n 0, 1) := by decide +kernel
theorem dX9_suspects_74 : decode cX9_suspects 74 = .ok (.getfield 26, 3) := by decide +kernel
theorem dX9_suspects_77 : decode cX9_suspects 77 = .ok (.iconst 2, 1) := by decide +kernel
theorem dX9_suspects_78 : decode cX9_suspects 78 = .ok (.iload 4, 2) := by decide +kernel
theorem dX9_suspects_80 : decode cX9_suspects 80 = .ok (.imul, 1) := by decide +kernel
theorem dX9_suspects_81 : decode cX9_suspects 81 = .ok (.iconst 1, 1) := by decide +kernel
theorem dX9_suspects_82 : decode cX9_suspects 82 = .ok (.iadd, 1) := by decide +kernel
theorem dX9_suspects_83 : decode cX9_suspects 83 = .ok (.iaload, 1) := by decide +kernel
theorem dX9_suspects_84 : decode cX9_suspects 84 = .ok (.if_icmp .ne 7, 3) := by decide +kernel
theorem dX9_suspects_87 : decode cX9_suspects 87 = .ok (.iconst 1, 1) := by decide +kernel
theorem dX9_suspects_88 : decode cX9_suspects 88 = .ok (.goto 4, 3) := by decide +kernel
theorem dX9_suspects_91 : decode cX9_suspects 91 = .ok (.iconst 0, 1) := by decide +kernel
theorem dX9_suspects_92 : decode cX9_suspects 92 = .ok (.istore_n 3, 1) := by decide +kernel
theorem dX9_suspects_93 : decode cX9_suspects 93 = .ok (.iinc 4 1, 3) := by decide +kernel
theorem dX9_suspects_96 : decode cX9_suspects 96 = .ok (.goto (-70), 3) := by decide +kernel
theorem dX9_suspects_99 : decode cX9_suspects 99 = .ok (.iload_n 1, 1) := by decide +kernel
theorem dX9_suspects_100 : decode cX9_suspects 100 = .ok (.iload_n 3, 1) := by decide +kernel
theorem dX9_suspects_101 : decode cX9_suspects 101 = .ok (.ifCond .eq 9, 3) := by decide +kernel
theorem dX9_suspects_104 : decode cX9_suspects 104 = .ok (.iconst 1, 1) := by decide +kernel
theorem dX9_suspects_105 : decode cX9_suspects 105 = .ok (.iload_n 2, 1) := by decide +kernel
theorem dX9_suspects_106 : decode cX9_suspects 106 = .ok (.ishl, 1) := by decide +kernel
theorem dX9_suspects_107 : decode cX9_suspects 107 = .ok (.goto 4, 3) := by decide +kernel
theorem dX9_suspects_110 : decode cX9_suspects 110 = .ok (.iconst 0, 1) := by decide +kernel
theorem dX9_suspects_111 : decode cX9_suspects 111 = .ok (.ior, 1) := by decide +kernel
theorem dX9_suspects_112 : decode cX9_suspects 112 = .ok (.istore_n 1, 1) := by decide +kernel
theorem dX9_suspects_113 : decode cX9_suspects 113 = .ok (.iinc 2 1, 3) := by decide +kernel
theorem dX9_suspects_116 : decode cX9_suspects 116 = .ok (.goto (-112), 3) := by decide +kernel
theorem dX9_suspects_119 : decode cX9_suspects 119 = .ok (.iload_n 1, 1) := by decide +kernel
theorem dX9_suspects_120 : decode cX9_suspects 120 = .ok (.ireturn, 1) := by decide +kernel
theorem dX9_which_0 : decode cX9_which 0 = .ok (.aload_n 0, 1) := by decide +kernel
theorem dX9_which_1 : decode cX9_which 1 = .ok (.iconst 0, 1) := by decide +kernel
theorem dX9_which_2 : decode cX9_which 2 = .ok (.putfield 39, 3) := by decide +kernel
theorem dX9_which_5 : decode cX9_which 5 = .ok (.aload_n 0, 1) := by decide +kernel
theorem dX9_which_6 : decode cX9_which 6 = .ok (.invokevirtual 168, 3) := by decide +kernel
theorem dX9_which_9 : decode cX9_which 9 = .ok (.ireturn, 1) := by decide +kernel
theorem dX9_laysDips_0 : decode cX9_laysDips 0 = .ok (.iconst 0, 1) := by decide +kernel
theorem dX9_laysDips_1 : decode cX9_laysDips 1 = .ok (.istore_n 1, 1) := by decide +kernel
theorem dX9_laysDips_2 : decode cX9_laysDips 2 = .ok (.iload_n 1, 1) := by decide +kernel
theorem dX9_laysDips_3 : decode cX9_laysDips 3 = .ok (.aload_n 0, 1) := by decide +kernel
theorem dX9_laysDips_4 : decode cX9_laysDips 4 = .ok (.getfield 7, 3) := by decide +kernel
theorem dX9_laysDips_7 : decode cX9_laysDips 7 = .ok (.bipush 24, 2) := by decide +kernel
theorem dX9_laysDips_9 : decode cX9_laysDips 9 = .ok (.iaload, 1) := by decide +kernel
theorem dX9_laysDips_10 : decode cX9_laysDips 10 = .ok (.if_icmp .ge 63, 3) := by decide +kernel
theorem dX9_laysDips_13 : decode cX9_laysDips 13 = .ok (.aload_n 0, 1) := by decide +kernel
theorem dX9_laysDips_14 : decode cX9_laysDips 14 = .ok (.iload_n 1, 1) := by decide +kernel
theorem dX9_laysDips_15 : decode cX9_laysDips 15 = .ok (.iconst 1, 1) := by decide +kernel
theorem dX9_laysDips_16 : decode cX9_laysDips 16 = .ok (.invokevirtual 116, 3) := by decide +kernel
theorem dX9_laysDips_19 : decode cX9_laysDips 19 = .ok (.iconst 0, 1) := by decide +kernel
theorem dX9_laysDips_20 : decode cX9_laysDips 20 = .ok (.istore_n 2, 1) := by decide +kernel
theorem dX9_laysDips_21 : decode cX9_laysDips 21 = .ok (.iload_n 2, 1) := by decide +kernel
theorem dX9_laysDips_22 : decode cX9_laysDips 22 = .ok (.sipush 1000, 3) := by decide +kernel
theorem dX9_laysDips_25 : decode cX9_laysDips 25 = .ok (.if_icmp .ge 42, 3) := by decide +kernel
theorem dX9_laysDips_28 : decode cX9_laysDips 28 = .ok (.aload_n 0, 1) := by decide +kernel
theorem dX9_laysDips_29 : decode cX9_laysDips 29 = .ok (.getfield 36, 3) := by decide +kernel
theorem dX9_laysDips_32 : decode cX9_laysDips 32 = .ok (.iconst 4, 1) := by decide +kernel
theorem dX9_laysDips_33 : decode cX9_laysDips 33 = .ok (.iload_n 2, 1) := by decide +kernel
theorem dX9_laysDips_34 : decode cX9_laysDips 34 = .ok (.imul, 1) := by decide +kernel
theorem dX9_laysDips_35 : decode cX9_laysDips 35 = .ok (.iload_n 1, 1) := by decide +kernel
theorem dX9_laysDips_36 : decode cX9_laysDips 36 = .ok (.iadd, 1) := by decide +kernel
theorem dX9_laysDips_37 : decode cX9_laysDips 37 = .ok (.iload_n 2, 1) := by decide +kernel
theorem dX9_laysDips_38 : decode cX9_laysDips 38 = .ok (.aload_n 0, 1) := by decide +kernel
theorem dX9_laysDips_39 : decode cX9_laysDips 39 = .ok (.getfield 33, 3) := by decide +kernel
theorem dX9_laysDips_42 : decode cX9_laysDips 42 = .ok (.aload_n 0, 1) := by decide +kernel
theorem dX9_laysDips_43 : decode cX9_laysDips 43 = .ok (.getfield 109, 3) := by decide +kernel
theorem dX9_laysDips_46 : decode cX9_laysDips 46 = .ok (.iaload, 1) := by decide +kernel
theorem dX9_laysDips_47 : decode cX9_laysDips 47 = .ok (.if_icmp .le 8, 3) := by decide +kernel
theorem dX9_laysDips_50 : decode cX9_laysDips 50 = .ok (.bipush (-9), 2) := by decide +kernel
theorem dX9_laysDips_52 : decode cX9_laysDips 52 = .ok (.goto 8, 3) := by decide +kernel
theorem dX9_laysDips_55 : decode cX9_laysDips 55 = .ok (.aload_n 0, 1) := by decide +kernel
theorem dX9_laysDips_56 : decode cX9_laysDips 56 = .ok (.iload_n 2, 1) := by decide +kernel
theorem dX9_laysDips_57 : decode cX9_laysDips 57 = .ok (.invokevirtual 137, 3) := by decide +kernel
theorem dX9_laysDips_60 : decode cX9_laysDips 60 = .ok (.iastore, 1) := by decide +kernel
theorem dX9_laysDips_61 : decode cX9_laysDips 61 = .ok (.iinc 2 1, 3) := by decide +kernel
theorem dX9_laysDips_64 : decode cX9_laysDips 64 = .ok (.goto (-43), 3) := by decide +kernel
theorem dX9_laysDips_67 : decode cX9_laysDips 67 = .ok (.iinc 1 1, 3) := by decide +kernel
theorem dX9_laysDips_70 : decode cX9_laysDips 70 = .ok (.goto (-68), 3) := by decide +kernel
theorem dX9_laysDips_73 : decode cX9_laysDips 73 = .ok (.return_, 1) := by decide +kernel
theorem dX9_alike_0 : decode cX9_alike 0 = .ok (.iconst 0, 1) := by decide +kernel
theorem dX9_alike_1 : decode cX9_alike 1 = .ok (.istore_n 3, 1) := by decide +kernel
theorem dX9_alike_2 : decode cX9_alike 2 = .ok (.iconst 0, 1) := by decide +kernel
theorem dX9_alike_3 : decode cX9_alike 3 = .ok (.istore 4, 2) := by decide +kernel
theorem dX9_alike_5 : decode cX9_alike 5 = .ok (.iload 4, 2) := by decide +kernel
theorem dX9_alike_7 : decode cX9_alike 7 = .ok (.aload_n 0, 1) := by decide +kernel
theorem dX9_alike_8 : decode cX9_alike 8 = .ok (.getfield 7, 3) := by decide +kernel
theorem dX9_alike_11 : decode cX9_alike 11 = .ok (.bipush 24, 2) := by decide +kernel
theorem dX9_alike_13 : decode cX9_alike 13 = .ok (.iaload, 1) := by decide +kernel
theorem dX9_alike_14 : decode cX9_alike 14 = .ok (.if_icmp .ge 101, 3) := by decide +kernel
theorem dX9_alike_17 : decode cX9_alike 17 = .ok (.iconst 0, 1) := by decide +kernel
theorem dX9_alike_18 : decode cX9_alike 18 = .ok (.istore 5, 2) := by decide +kernel
theorem dX9_alike_20 : decode cX9_alike 20 = .ok (.iconst 0, 1) := by decide +kernel
theorem dX9_alike_21 : decode cX9_alike 21 = .ok (.istore 6, 2) := by decide +kernel
theorem dX9_alike_23 : decode cX9_alike 23 = .ok (.iload 6, 2) := by decide +kernel
theorem dX9_alike_25 : decode cX9_alike 25 = .ok (.aload_n 0, 1) := by decide +kernel
theorem dX9_alike_26 : decode cX9_alike 26 = .ok (.getfield 7, 3) := by decide +kernel
theorem dX9_alike_29 : decode cX9_alike 29 = .ok (.bipush 24, 2) := by decide +kernel
theorem dX9_alike_31 : decode cX9_alike 31 = .ok (.iaload, 1) := by decide +kernel
theorem dX9_alike_32 : decode cX9_alike 32 = .ok (.if_icmp .ge 64, 3) := by decide +kernel
theorem dX9_alike_35 : decode cX9_alike 35 = .ok (.iload 5, 2) := by decide +kernel
theorem dX9_alike_37 : decode cX9_alike 37 = .ok (.iload_n 1, 1) := by decide +kernel
theorem dX9_alike_38 : decode cX9_alike 38 = .ok (.iload 4, 2) := by decide +kernel
theorem dX9_alike_40 : decode cX9_alike 40 = .ok (.ishr, 1) := by decide +kernel
theorem dX9_alike_41 : decode cX9_alike 41 = .ok (.iconst 1, 1) := by decide +kernel
theorem dX9_alike_42 : decode cX9_alike 42 = .ok (.iand, 1) := by decide +kernel
theorem dX9_alike_43 : decode cX9_alike 43 = .ok (.iconst 1, 1) := by decide +kernel
theorem dX9_alike_44 : decode cX9_alike 44 = .ok (.if_icmp .ne 42, 3) := by decide +kernel
theorem dX9_alike_47 : decode cX9_alike 47 = .ok (.iload_n 1, 1) := by decide +kernel
theorem dX9_alike_48 : decode cX9_alike 48 = .ok (.iload 6, 2) := by decide +kernel
theorem dX9_alike_50 : decode cX9_alike 50 = .ok (.ishr, 1) := by decide +kernel
theorem dX9_alike_51 : decode cX9_alike 51 = .ok (.iconst 1, 1) := by decide +kernel
theorem dX9_alike_52 : decode cX9_alike 52 = .ok (.iand, 1) := by decide +kernel
theorem dX9_alike_53 : decode cX9_alike 53 = .ok (.iconst 1, 1) := by decide +kernel
theorem dX9_alike_54 : decode cX9_alike 54 = .ok (.if_icmp .ne 32, 3) := by decide +kernel
theorem dX9_alike_57 : decode cX9_alike 57 = .ok (.aload_n 0, 1) := by decide +kernel
theorem dX9_alike_58 : decode cX9_alike 58 = .ok (.getfield 36, 3) := by decide +kernel
theorem dX9_alike_61 : decode cX9_alike 61 = .ok (.iconst 4, 1) := by decide +kernel
theorem dX9_alike_62 : decode cX9_alike 62 = .ok (.iload_n 2, 1) := by decide +kernel
theorem dX9_alike_63 : decode cX9_alike 63 = .ok (.imul, 1) := by decide +kernel
theorem dX9_alike_64 : decode cX9_alike 64 = .ok (.iload 4, 2) := by decide +kernel
theorem dX9_alike_66 : decode cX9_alike 66 = .ok (.iadd, 1) := by decide +kernel
theorem dX9_alike_67 : decode cX9_alike 67 = .ok (.iaload, 1) := by decide +kernel
theorem dX9_alike_68 : decode cX9_alike 68 = .ok (.aload_n 0, 1) := by decide +kernel
theorem dX9_alike_69 : decode cX9_alike 69 = .ok (.getfield 36, 3) := by decide +kernel
theorem dX9_alike_72 : decode cX9_alike 72 = .ok (.iconst 4, 1) := by decide +kernel
theorem dX9_alike_73 : decode cX9_alike 73 = .ok (.iload_n 2, 1) := by decide +kernel
theorem dX9_alike_74 : decode cX9_alike 74 = .ok (.imul, 1) := by decide +kernel
theorem dX9_alike_75 : decode cX9_alike 75 = .ok (.iload 6, 2) := by decide +kernel
theorem dX9_alike_77 : decode cX9_alike 77 = .ok (.iadd, 1) := by decide +kernel
theorem dX9_alike_78 : decode cX9_alike 78 = .ok (.iaload, 1) := by decide +kernel
theorem dX9_alike_79 : decode cX9_alike 79 = .ok (.if_icmp .ne 7, 3) := by decide +kernel
theorem dX9_alike_82 : decode cX9_alike 82 = .ok (.iconst 1, 1) := by decide +kernel
theorem dX9_alike_83 : decode cX9_alike 83 = .ok (.goto 4, 3) := by decide +kernel
theorem dX9_alike_86 : decode cX9_alike 86 = .ok (.iconst 0, 1) := by decide +kernel
theorem dX9_alike_87 : decode cX9_alike 87 = .ok (.iadd, 1) := by decide +kernel
theorem dX9_alike_88 : decode cX9_alike 88 = .ok (.istore 5, 2) := by decide +kernel
theorem dX9_alike_90 : decode cX9_alike 90 = .ok (.iinc 6 1, 3) := by decide +kernel
theorem dX9_alike_93 : decode cX9_alike 93 = .ok (.goto (-70), 3) := by decide +kernel
theorem dX9_alike_96 : decode cX9_alike 96 = .ok (.iload 5, 2) := by decide +kernel
theorem dX9_alike_98 : decode cX9_alike 98 = .ok (.iload_n 3, 1) := by decide +kernel
theorem dX9_alike_99 : decode cX9_alike 99 = .ok (.if_icmp .le 8, 3) := by decide +kernel
theorem dX9_alike_102 : decode cX9_alike 102 = .ok (.iload 5, 2) := by decide +kernel
theorem dX9_alike_104 : decode cX9_alike 104 = .ok (.goto 4, 3) := by decide +kernel
theorem dX9_alike_107 : decode cX9_alike 107 = .ok (.iload_n 3, 1) := by decide +kernel
theorem dX9_alike_108 : decode cX9_alike 108 = .ok (.istore_n 3, 1) := by decide +kernel
theorem dX9_alike_109 : decode cX9_alike 109 = .ok (.iinc 4 1, 3) := by decide +kernel
theorem dX9_alike_112 : decode cX9_alike 112 = .ok (.goto (-107), 3) := by decide +kernel
theorem dX9_alike_115 : decode cX9_alike 115 = .ok (.iload_n 3, 1) := by decide +kernel
theorem dX9_alike_116 : decode cX9_alike 116 = .ok (.ireturn, 1) := by decide +kernel
theorem dX9_ask_0 : decode cX9_ask 0 = .ok (.aload_n 0, 1) := by decide +kernel
theorem dX9_ask_1 : decode cX9_ask 1 = .ok (.iconst 0, 1) := by decide +kernel
theorem dX9_ask_2 : decode cX9_ask 2 = .ok (.putfield 39, 3) := by decide +kernel
theorem dX9_ask_5 : decode cX9_ask 5 = .ok (.aload_n 0, 1) := by decide +kernel
theorem dX9_ask_6 : decode cX9_ask 6 = .ok (.invokevirtual 168, 3) := by decide +kernel
theorem dX9_ask_9 : decode cX9_ask 9 = .ok (.istore_n 1, 1) := by decide +kernel
theorem dX9_ask_10 : decode cX9_ask 10 = .ok (.iload_n 1, 1) := by decide +kernel
theorem dX9_ask_11 : decode cX9_ask 11 = .ok (.iload_n 1, 1) := by decide +kernel
theorem dX9_ask_12 : decode cX9_ask 12 = .ok (.iconst 1, 1) := by decide +kernel
theorem dX9_ask_13 : decode cX9_ask 13 = .ok (.isub, 1) := by decide +kernel
theorem dX9_ask_14 : decode cX9_ask 14 = .ok (.iand, 1) := by decide +kernel
theorem dX9_ask_15 : decode cX9_ask 15 = .ok (.ifCond .ne 6, 3) := by decide +kernel
theorem dX9_ask_18 : decode cX9_ask 18 = .ok (.bipush (-9), 2) := by decide +kernel
theorem dX9_ask_20 : decode cX9_ask 20 = .ok (.ireturn, 1) := by decide +kernel
theorem dX9_ask_21 : decode cX9_ask 21 = .ok (.aload_n 0, 1) := by decide +kernel
theorem dX9_ask_22 : decode cX9_ask 22 = .ok (.invokevirtual 171, 3) := by decide +kernel
theorem dX9_ask_25 : decode cX9_ask 25 = .ok (.bipush (-9), 2) := by decide +kernel
theorem dX9_ask_27 : decode cX9_ask 27 = .ok (.istore_n 2, 1) := by decide +kernel
theorem dX9_ask_28 : decode cX9_ask 28 = .ok (.iconst 5, 1) := by decide +kernel
theorem dX9_ask_29 : decode cX9_ask 29 = .ok (.istore_n 3, 1) := by decide +kernel
theorem dX9_ask_30 : decode cX9_ask 30 = .ok (.iconst 0, 1) := by decide +kernel
theorem dX9_ask_31 : decode cX9_ask 31 = .ok (.istore 4, 2) := by decide +kernel
theorem dX9_ask_33 : decode cX9_ask 33 = .ok (.iload 4, 2) := by decide +kernel
theorem dX9_ask_35 : decode cX9_ask 35 = .ok (.sipush 1000, 3) := by decide +kernel
theorem dX9_ask_38 : decode cX9_ask 38 = .ok (.if_icmp .ge 44, 3) := by decide +kernel
theorem dX9_ask_41 : decode cX9_ask 41 = .ok (.aload_n 0, 1) := by decide +kernel
theorem dX9_ask_42 : decode cX9_ask 42 = .ok (.iload_n 1, 1) := by decide +kernel
theorem dX9_ask_43 : decode cX9_ask 43 = .ok (.iload 4, 2) := by decide +kernel
theorem dX9_ask_45 : decode cX9_ask 45 = .ok (.invokevirtual 174, 3) := by decide +kernel
theorem dX9_ask_48 : decode cX9_ask 48 = .ok (.istore 5, 2) := by decide +kernel
theorem dX9_ask_50 : decode cX9_ask 50 = .ok (.iload 5, 2) := by decide +kernel
theorem dX9_ask_52 : decode cX9_ask 52 = .ok (.iload_n 3, 1) := by decide +kernel
theorem dX9_ask_53 : decode cX9_ask 53 = .ok (.if_icmp .ge 8, 3) := by decide +kernel
theorem dX9_ask_56 : decode cX9_ask 56 = .ok (.iload 4, 2) := by decide +kernel
theorem dX9_ask_58 : decode cX9_ask 58 = .ok (.goto 4, 3) := by decide +kernel
theorem dX9_ask_61 : decode cX9_ask 61 = .ok (.iload_n 2, 1) := by decide +kernel
theorem dX9_ask_62 : decode cX9_ask 62 = .ok (.istore_n 2, 1) := by decide +kernel
theorem dX9_ask_63 : decode cX9_ask 63 = .ok (.iload 5, 2) := by decide +kernel
theorem dX9_ask_65 : decode cX9_ask 65 = .ok (.iload_n 3, 1) := by decide +kernel
theorem dX9_ask_66 : decode cX9_ask 66 = .ok (.if_icmp .ge 8, 3) := by decide +kernel
theorem dX9_ask_69 : decode cX9_ask 69 = .ok (.iload 5, 2) := by decide +kernel
theorem dX9_ask_71 : decode cX9_ask 71 = .ok (.goto 4, 3) := by decide +kernel
theorem dX9_ask_74 : decode cX9_ask 74 = .ok (.iload_n 3, 1) := by decide +kernel
theorem dX9_ask_75 : decode cX9_ask 75 = .ok (.istore_n 3, 1) := by decide +kernel
theorem dX9_ask_76 : decode cX9_ask 76 = .ok (.iinc 4 1, 3) := by decide +kernel
theorem dX9_ask_79 : decode cX9_ask 79 = .ok (.goto (-46), 3) := by decide +kernel
theorem dX9_ask_82 : decode cX9_ask 82 = .ok (.iload_n 2, 1) := by decide +kernel
theorem dX9_ask_83 : decode cX9_ask 83 = .ok (.ireturn, 1) := by decide +kernel
theorem dX9_keep_0 : decode cX9_keep 0 = .ok (.aload_n 0, 1) := by decide +kernel
theorem dX9_keep_1 : decode cX9_keep 1 = .ok (.iconst 0, 1) := by decide +kernel
theorem dX9_keep_2 : decode cX9_keep 2 = .ok (.putfield 39, 3) := by decide +kernel
theorem dX9_keep_5 : decode cX9_keep 5 = .ok (.iload_n 1, 1) := by decide +kernel
theorem dX9_keep_6 : decode cX9_keep 6 = .ok (.iconst 0, 1) := by decide +kernel
theorem dX9_keep_7 : decode cX9_keep 7 = .ok (.iconst 1, 1) := by decide +kernel
theorem dX9_keep_8 : decode cX9_keep 8 = .ok (.invokestatic 43, 3) := by decide +kernel
theorem dX9_keep_11 : decode cX9_keep 11 = .ok (.ifCond .ne 5, 3) := by decide +kernel
theorem dX9_keep_14 : decode cX9_keep 14 = .ok (.iconst (-1), 1) := by decide +kernel
theorem dX9_keep_15 : decode cX9_keep 15 = .ok (.ireturn, 1) := by decide +kernel
theorem dX9_keep_16 : decode cX9_keep 16 = .ok (.iconst 0, 1) := by decide +kernel
theorem dX9_keep_17 : decode cX9_keep 17 = .ok (.istore_n 2, 1) := by decide +kernel
theorem dX9_keep_18 : decode cX9_keep 18 = .ok (.iload_n 2, 1) := by decide +kernel
theorem dX9_keep_19 : decode cX9_keep 19 = .ok (.bipush 25, 2) := by decide +kernel
theorem dX9_keep_21 : decode cX9_keep 21 = .ok (.if_icmp .ge 26, 3) := by decide +kernel
theorem dX9_keep_24 : decode cX9_keep 24 = .ok (.aload_n 0, 1) := by decide +kernel
theorem dX9_keep_25 : decode cX9_keep 25 = .ok (.getfield 19, 3) := by decide +kernel
theorem dX9_keep_28 : decode cX9_keep 28 = .ok (.bipush 25, 2) := by decide +kernel
theorem dX9_keep_30 : decode cX9_keep 30 = .ok (.iload_n 1, 1) := by decide +kernel
theorem dX9_keep_31 : decode cX9_keep 31 = .ok (.imul, 1) := by decide +kernel
theorem dX9_keep_32 : decode cX9_keep 32 = .ok (.iload_n 2, 1) := by decide +kernel
theorem dX9_keep_33 : decode cX9_keep 33 = .ok (.iadd, 1) := by decide +kernel
theorem dX9_keep_34 : decode cX9_keep 34 = .ok (.aload_n 0, 1) := by decide +kernel
theorem dX9_keep_35 : decode cX9_keep 35 = .ok (.getfield 7, 3) := by decide +kernel
theorem dX9_keep_38 : decode cX9_keep 38 = .ok (.iload_n 2, 1) := by decide +kernel
theorem dX9_keep_39 : decode cX9_keep 39 = .ok (.iaload, 1) := by decide +kernel
theorem dX9_keep_40 : decode cX9_keep 40 = .ok (.iastore, 1) := by decide +kernel
theorem dX9_keep_41 : decode cX9_keep 41 = .ok (.iinc 2 1, 3) := by decide +kernel
theorem dX9_keep_44 : decode cX9_keep 44 = .ok (.goto (-26), 3) := by decide +kernel
theorem dX9_keep_47 : decode cX9_keep 47 = .ok (.aload_n 0, 1) := by decide +kernel
theorem dX9_keep_48 : decode cX9_keep 48 = .ok (.getfield 22, 3) := by decide +kernel
theorem dX9_keep_51 : decode cX9_keep 51 = .ok (.iload_n 1, 1) := by decide +kernel
theorem dX9_keep_52 : decode cX9_keep 52 = .ok (.iconst 1, 1) := by decide +kernel
theorem dX9_keep_53 : decode cX9_keep 53 = .ok (.bastore, 1) := by decide +kernel
theorem dX9_keep_54 : decode cX9_keep 54 = .ok (.aload_n 0, 1) := by decide +kernel
theorem dX9_keep_55 : decode cX9_keep 55 = .ok (.getfield 7, 3) := by decide +kernel
theorem dX9_keep_58 : decode cX9_keep 58 = .ok (.bipush 24, 2) := by decide +kernel
theorem dX9_keep_60 : decode cX9_keep 60 = .ok (.iaload, 1) := by decide +kernel
theorem dX9_keep_61 : decode cX9_keep 61 = .ok (.ireturn, 1) := by decide +kernel
theorem dX9_back_0 : decode cX9_back 0 = .ok (.aload_n 0, 1) := by decide +kernel
theorem dX9_back_1 : decode cX9_back 1 = .ok (.iconst 0, 1) := by decide +kernel
theorem dX9_back_2 : decode cX9_back 2 = .ok (.putfield 39, 3) := by decide +kernel
theorem dX9_back_5 : decode cX9_back 5 = .ok (.iload_n 1, 1) := by decide +kernel
theorem dX9_back_6 : decode cX9_back 6 = .ok (.iconst 0, 1) := by decide +kernel
theorem dX9_back_7 : decode cX9_back 7 = .ok (.iconst 1, 1) := by decide +kernel
theorem dX9_back_8 : decode cX9_back 8 = .ok (.invokestatic 43, 3) := by decide +kernel
theorem dX9_back_11 : decode cX9_back 11 = .ok (.ifCond .ne 5, 3) := by decide +kernel
theorem dX9_back_14 : decode cX9_back 14 = .ok (.iconst (-1), 1) := by decide +kernel
theorem dX9_back_15 : decode cX9_back 15 = .ok (.ireturn, 1) := by decide +kernel
theorem dX9_back_16 : decode cX9_back 16 = .ok (.aload_n 0, 1) := by decide +kernel
theorem dX9_back_17 : decode cX9_back 17 = .ok (.getfield 22, 3) := by decide +kernel
theorem dX9_back_20 : decode cX9_back 20 = .ok (.iload_n 1, 1) := by decide +kernel
theorem dX9_back_21 : decode cX9_back 21 = .ok (.baload, 1) := by decide +kernel
theorem dX9_back_22 : decode cX9_back 22 = .ok (.ifCond .ne 6, 3) := by decide +kernel
theorem dX9_back_25 : decode cX9_back 25 = .ok (.bipush (-2), 2) := by decide +kernel
theorem dX9_back_27 : decode cX9_back 27 = .ok (.ireturn, 1) := by decide +kernel
theorem dX9_back_28 : decode cX9_back 28 = .ok (.iconst 0, 1) := by decide +kernel
theorem dX9_back_29 : decode cX9_back 29 = .ok (.istore_n 2, 1) := by decide +kernel
theorem dX9_back_30 : decode cX9_back 30 = .ok (.iload_n 2, 1) := by decide +kernel
theorem dX9_back_31 : decode cX9_back 31 = .ok (.bipush 25, 2) := by decide +kernel
theorem dX9_back_33 : decode cX9_back 33 = .ok (.if_icmp .ge 26, 3) := by decide +kernel
theorem dX9_back_36 : decode cX9_back 36 = .ok (.aload_n 0, 1) := by decide +kernel
theorem dX9_back_37 : decode cX9_back 37 = .ok (.getfield 7, 3) := by decide +kernel
theorem dX9_back_40 : decode cX9_back 40 = .ok (.iload_n 2, 1) := by decide +kernel
theorem dX9_back_41 : decode cX9_back 41 = .ok (.aload_n 0, 1) := by decide +kernel
theorem dX9_back_42 : decode cX9_back 42 = .ok (.getfield 19, 3) := by decide +kernel
theorem dX9_back_45 : decode cX9_back 45 = .ok (.bipush 25, 2) := by decide +kernel
theorem dX9_back_47 : decode cX9_back 47 = .ok (.iload_n 1, 1) := by decide +kernel
theorem dX9_back_48 : decode cX9_back 48 = .ok (.imul, 1) := by decide +kernel
theorem dX9_back_49 : decode cX9_back 49 = .ok (.iload_n 2, 1) := by decide +kernel
theorem dX9_back_50 : decode cX9_back 50 = .ok (.iadd, 1) := by decide +kernel
theorem dX9_back_51 : decode cX9_back 51 = .ok (.iaload, 1) := by decide +kernel
theorem dX9_back_52 : decode cX9_back 52 = .ok (.iastore, 1) := by decide +kernel
theorem dX9_back_53 : decode cX9_back 53 = .ok (.iinc 2 1, 3) := by decide +kernel
theorem dX9_back_56 : decode cX9_back 56 = .ok (.goto (-26), 3) := by decide +kernel
theorem dX9_back_59 : decode cX9_back 59 = .ok (.aload_n 0, 1) := by decide +kernel
theorem dX9_back_60 : decode cX9_back 60 = .ok (.iconst 0, 1) := by decide +kernel
theorem dX9_back_61 : decode cX9_back 61 = .ok (.putfield 124, 3) := by decide +kernel
theorem dX9_back_64 : decode cX9_back 64 = .ok (.aload_n 0, 1) := by decide +kernel
theorem dX9_back_65 : decode cX9_back 65 = .ok (.getfield 7, 3) := by decide +kernel
theorem dX9_back_68 : decode cX9_back 68 = .ok (.bipush 24, 2) := by decide +kernel
theorem dX9_back_70 : decode cX9_back 70 = .ok (.iaload, 1) := by decide +kernel
theorem dX9_back_71 : decode cX9_back 71 = .ok (.ireturn, 1) := by decide +kernel
theorem dX9_sum_0 : decode cX9_sum 0 = .ok (.iconst 0, 1) := by decide +kernel
theorem dX9_sum_1 : decode cX9_sum 1 = .ok (.istore_n 2, 1) := by decide +kernel
theorem dX9_sum_2 : decode cX9_sum 2 = .ok (.iconst 0, 1) := by decide +kernel
theorem dX9_sum_3 : decode cX9_sum 3 = .ok (.istore_n 3, 1) := by decide +kernel
theorem dX9_sum_4 : decode cX9_sum 4 = .ok (.iload_n 3, 1) := by decide +kernel
theorem dX9_sum_5 : decode cX9_sum 5 = .ok (.aload_n 0, 1) := by decide +kernel
theorem dX9_sum_6 : decode cX9_sum 6 = .ok (.getfield 7, 3) := by decide +kernel
theorem dX9_sum_9 : decode cX9_sum 9 = .ok (.bipush 24, 2) := by decide +kernel
theorem dX9_sum_11 : decode cX9_sum 11 = .ok (.iaload, 1) := by decide +kernel
theorem dX9_sum_12 : decode cX9_sum 12 = .ok (.if_icmp .ge 18, 3) := by decide +kernel
theorem dX9_sum_15 : decode cX9_sum 15 = .ok (.iload_n 2, 1) := by decide +kernel
theorem dX9_sum_16 : decode cX9_sum 16 = .ok (.aload_n 0, 1) := by decide +kernel
theorem dX9_sum_17 : decode cX9_sum 17 = .ok (.iload_n 3, 1) := by decide +kernel
theorem dX9_sum_18 : decode cX9_sum 18 = .ok (.iload_n 1, 1) := by decide +kernel
theorem dX9_sum_19 : decode cX9_sum 19 = .ok (.invokevirtual 103, 3) := by decide +kernel
theorem dX9_sum_22 : decode cX9_sum 22 = .ok (.iadd, 1) := by decide +kernel
theorem dX9_sum_23 : decode cX9_sum 23 = .ok (.istore_n 2, 1) := by decide +kernel
theorem dX9_sum_24 : decode cX9_sum 24 = .ok (.iinc 3 1, 3) := by decide +kernel
theorem dX9_sum_27 : decode cX9_sum 27 = .ok (.goto (-23), 3) := by decide +kernel
theorem dX9_sum_30 : decode cX9_sum 30 = .ok (.iload_n 2, 1) := by decide +kernel
theorem dX9_sum_31 : decode cX9_sum 31 = .ok (.ireturn, 1) := by decide +kernel
theorem dX9_count_0 : decode cX9_count 0 = .ok (.aload_n 0, 1) := by decide +kernel
theorem dX9_count_1 : decode cX9_count 1 = .ok (.iconst 0, 1) := by decide +kernel
theorem dX9_count_2 : decode cX9_count 2 = .ok (.putfield 39, 3) := by decide +kernel
theorem dX9_count_5 : decode cX9_count 5 = .ok (.iload_n 1, 1) := by decide +kernel
theorem dX9_count_6 : decode cX9_count 6 = .ok (.tableswitch 73 0 5 #[38, 46, 52, 58, 63, 68], 38) := by decide +kernel
theorem dX9_count_44 : decode cX9_count 44 = .ok (.aload_n 0, 1) := by decide +kernel
theorem dX9_count_45 : decode cX9_count 45 = .ok (.getfield 7, 3) := by decide +kernel
theorem dX9_count_48 : decode cX9_count 48 = .ok (.bipush 24, 2) := by decide +kernel
theorem dX9_count_50 : decode cX9_count 50 = .ok (.iaload, 1) := by decide +kernel
theorem dX9_count_51 : decode cX9_count 51 = .ok (.ireturn, 1) := by decide +kernel
theorem dX9_count_52 : decode cX9_count 52 = .ok (.aload_n 0, 1) := by decide +kernel
theorem dX9_count_53 : decode cX9_count 53 = .ok (.iconst 4, 1) := by decide +kernel
theorem dX9_count_54 : decode cX9_count 54 = .ok (.invokevirtual 177, 3) := by decide +kernel
theorem dX9_count_57 : decode cX9_count 57 = .ok (.ireturn, 1) := by decide +kernel
theorem dX9_count_58 : decode cX9_count 58 = .ok (.aload_n 0, 1) := by decide +kernel
theorem dX9_count_59 : decode cX9_count 59 = .ok (.iconst 5, 1) := by decide +kernel
theorem dX9_count_60 : decode cX9_count 60 = .ok (.invokevirtual 177, 3) := by decide +kernel
theorem dX9_count_63 : decode cX9_count 63 = .ok (.ireturn, 1) := by decide +kernel
theorem dX9_count_64 : decode cX9_count 64 = .ok (.aload_n 0, 1) := by decide +kernel
theorem dX9_count_65 : decode cX9_count 65 = .ok (.getfield 165, 3) := by decide +kernel
theorem dX9_count_68 : decode cX9_count 68 = .ok (.ireturn, 1) := by decide +kernel
theorem dX9_count_69 : decode cX9_count 69 = .ok (.aload_n 0, 1) := by decide +kernel
theorem dX9_count_70 : decode cX9_count 70 = .ok (.getfield 47, 3) := by decide +kernel
theorem dX9_count_73 : decode cX9_count 73 = .ok (.ireturn, 1) := by decide +kernel
theorem dX9_count_74 : decode cX9_count 74 = .ok (.aload_n 0, 1) := by decide +kernel
theorem dX9_count_75 : decode cX9_count 75 = .ok (.getfield 124, 3) := by decide +kernel
theorem dX9_count_78 : decode cX9_count 78 = .ok (.ireturn, 1) := by decide +kernel
theorem dX9_count_79 : decode cX9_count 79 = .ok (.iconst (-1), 1) := by decide +kernel
theorem dX9_count_80 : decode cX9_count 80 = .ok (.ireturn, 1) := by decide +kernel
theorem dJ6_bitCount_0f7a4_0 : decode cJ6_bitCount_0f7a4 0 = .ok (.iload_n 0, 1) := by decide +kernel
theorem dJ6_bitCount_0f7a4_1 : decode cJ6_bitCount_0f7a4 1 = .ok (.iload_n 0, 1) := by decide +kernel
theorem dJ6_bitCount_0f7a4_2 : decode cJ6_bitCount_0f7a4 2 = .ok (.iconst 1, 1) := by decide +kernel
theorem dJ6_bitCount_0f7a4_3 : decode cJ6_bitCount_0f7a4 3 = .ok (.iushr, 1) := by decide +kernel
theorem dJ6_bitCount_0f7a4_4 : decode cJ6_bitCount_0f7a4 4 = .ok (.ldc_w 265, 3) := by decide +kernel
theorem dJ6_bitCount_0f7a4_7 : decode cJ6_bitCount_0f7a4 7 = .ok (.iand, 1) := by decide +kernel
theorem dJ6_bitCount_0f7a4_8 : decode cJ6_bitCount_0f7a4 8 = .ok (.isub, 1) := by decide +kernel
theorem dJ6_bitCount_0f7a4_9 : decode cJ6_bitCount_0f7a4 9 = .ok (.istore_n 0, 1) := by decide +kernel
theorem dJ6_bitCount_0f7a4_10 : decode cJ6_bitCount_0f7a4 10 = .ok (.iload_n 0, 1) := by decide +kernel
theorem dJ6_bitCount_0f7a4_11 : decode cJ6_bitCount_0f7a4 11 = .ok (.ldc_w 266, 3) := by decide +kernel
theorem dJ6_bitCount_0f7a4_14 : decode cJ6_bitCount_0f7a4 14 = .ok (.iand, 1) := by decide +kernel
theorem dJ6_bitCount_0f7a4_15 : decode cJ6_bitCount_0f7a4 15 = .ok (.iload_n 0, 1) := by decide +kernel
theorem dJ6_bitCount_0f7a4_16 : decode cJ6_bitCount_0f7a4 16 = .ok (.iconst 2, 1) := by decide +kernel
theorem dJ6_bitCount_0f7a4_17 : decode cJ6_bitCount_0f7a4 17 = .ok (.iushr, 1) := by decide +kernel
theorem dJ6_bitCount_0f7a4_18 : decode cJ6_bitCount_0f7a4 18 = .ok (.ldc_w 266, 3) := by decide +kernel
theorem dJ6_bitCount_0f7a4_21 : decode cJ6_bitCount_0f7a4 21 = .ok (.iand, 1) := by decide +kernel
theorem dJ6_bitCount_0f7a4_22 : decode cJ6_bitCount_0f7a4 22 = .ok (.iadd, 1) := by decide +kernel
theorem dJ6_bitCount_0f7a4_23 : decode cJ6_bitCount_0f7a4 23 = .ok (.istore_n 0, 1) := by decide +kernel
theorem dJ6_bitCount_0f7a4_24 : decode cJ6_bitCount_0f7a4 24 = .ok (.iload_n 0, 1) := by decide +kernel
theorem dJ6_bitCount_0f7a4_25 : decode cJ6_bitCount_0f7a4 25 = .ok (.iload_n 0, 1) := by decide +kernel
theorem dJ6_bitCount_0f7a4_26 : decode cJ6_bitCount_0f7a4 26 = .ok (.iconst 4, 1) := by decide +kernel
theorem dJ6_bitCount_0f7a4_27 : decode cJ6_bitCount_0f7a4 27 = .ok (.iushr, 1) := by decide +kernel
theorem dJ6_bitCount_0f7a4_28 : decode cJ6_bitCount_0f7a4 28 = .ok (.iadd, 1) := by decide +kernel
theorem dJ6_bitCount_0f7a4_29 : decode cJ6_bitCount_0f7a4 29 = .ok (.ldc_w 267, 3) := by decide +kernel
theorem dJ6_bitCount_0f7a4_32 : decode cJ6_bitCount_0f7a4 32 = .ok (.iand, 1) := by decide +kernel
theorem dJ6_bitCount_0f7a4_33 : decode cJ6_bitCount_0f7a4 33 = .ok (.istore_n 0, 1) := by decide +kernel
theorem dJ6_bitCount_0f7a4_34 : decode cJ6_bitCount_0f7a4 34 = .ok (.iload_n 0, 1) := by decide +kernel
theorem dJ6_bitCount_0f7a4_35 : decode cJ6_bitCount_0f7a4 35 = .ok (.iload_n 0, 1) := by decide +kernel
theorem dJ6_bitCount_0f7a4_36 : decode cJ6_bitCount_0f7a4 36 = .ok (.bipush 8, 2) := by decide +kernel
theorem dJ6_bitCount_0f7a4_38 : decode cJ6_bitCount_0f7a4 38 = .ok (.iushr, 1) := by decide +kernel
theorem dJ6_bitCount_0f7a4_39 : decode cJ6_bitCount_0f7a4 39 = .ok (.iadd, 1) := by decide +kernel
theorem dJ6_bitCount_0f7a4_40 : decode cJ6_bitCount_0f7a4 40 = .ok (.istore_n 0, 1) := by decide +kernel
theorem dJ6_bitCount_0f7a4_41 : decode cJ6_bitCount_0f7a4 41 = .ok (.iload_n 0, 1) := by decide +kernel
theorem dJ6_bitCount_0f7a4_42 : decode cJ6_bitCount_0f7a4 42 = .ok (.iload_n 0, 1) := by decide +kernel
theorem dJ6_bitCount_0f7a4_43 : decode cJ6_bitCount_0f7a4 43 = .ok (.bipush 16, 2) := by decide +kernel
theorem dJ6_bitCount_0f7a4_45 : decode cJ6_bitCount_0f7a4 45 = .ok (.iushr, 1) := by decide +kernel
theorem dJ6_bitCount_0f7a4_46 : decode cJ6_bitCount_0f7a4 46 = .ok (.iadd, 1) := by decide +kernel
theorem dJ6_bitCount_0f7a4_47 : decode cJ6_bitCount_0f7a4 47 = .ok (.istore_n 0, 1) := by decide +kernel
theorem dJ6_bitCount_0f7a4_48 : decode cJ6_bitCount_0f7a4 48 = .ok (.iload_n 0, 1) := by decide +kernel
theorem dJ6_bitCount_0f7a4_49 : decode cJ6_bitCount_0f7a4 49 = .ok (.bipush 63, 2) := by decide +kernel
theorem dJ6_bitCount_0f7a4_51 : decode cJ6_bitCount_0f7a4 51 = .ok (.iand, 1) := by decide +kernel
theorem dJ6_bitCount_0f7a4_52 : decode cJ6_bitCount_0f7a4 52 = .ok (.ireturn, 1) := by decide +kernel
theorem dJ9_max_7cf53_0 : decode cJ9_max_7cf53 0 = .ok (.iload_n 0, 1) := by decide +kernel
theorem dJ9_max_7cf53_1 : decode cJ9_max_7cf53 1 = .ok (.iload_n 1, 1) := by decide +kernel
theorem dJ9_max_7cf53_2 : decode cJ9_max_7cf53 2 = .ok (.if_icmp .lt 7, 3) := by decide +kernel
theorem dJ9_max_7cf53_5 : decode cJ9_max_7cf53 5 = .ok (.iload_n 0, 1) := by decide +kernel
theorem dJ9_max_7cf53_6 : decode cJ9_max_7cf53 6 = .ok (.goto 4, 3) := by decide +kernel
theorem dJ9_max_7cf53_9 : decode cJ9_max_7cf53 9 = .ok (.iload_n 1, 1) := by decide +kernel
theorem dJ9_max_7cf53_10 : decode cJ9_max_7cf53 10 = .ok (.ireturn, 1) := by decide +kernel
theorem dJ9_min_7cf53_0 : decode cJ9_min_7cf53 0 = .ok (.iload_n 0, 1) := by decide +kernel
theorem dJ9_min_7cf53_1 : decode cJ9_min_7cf53 1 = .ok (.iload_n 1, 1) := by decide +kernel
theorem dJ9_min_7cf53_2 : decode cJ9_min_7cf53 2 = .ok (.if_icmp .gt 7, 3) := by decide +kernel
theorem dJ9_min_7cf53_5 : decode cJ9_min_7cf53 5 = .ok (.iload_n 0, 1) := by decide +kernel
theorem dJ9_min_7cf53_6 : decode cJ9_min_7cf53 6 = .ok (.goto 4, 3) := by decide +kernel
theorem dJ9_min_7cf53_9 : decode cJ9_min_7cf53 9 = .ok (.iload_n 1, 1) := by decide +kernel
theorem dJ9_min_7cf53_10 : decode cJ9_min_7cf53 10 = .ok (.ireturn, 1) := by decide +kernel
theorem dJ0_length_8abf5_0 : decode cJ0_length_8abf5 0 = .ok (.aload_n 0, 1) := by decide +kernel
theorem dJ0_length_8abf5_1 : decode cJ0_length_8abf5 1 = .ok (.getfield 9, 3) := by decide +kernel
theorem dJ0_length_8abf5_4 : decode cJ0_length_8abf5 4 = .ok (.arraylength, 1) := by decide +kernel
theorem dJ0_length_8abf5_5 : decode cJ0_length_8abf5 5 = .ok (.aload_n 0, 1) := by decide +kernel
theorem dJ0_length_8abf5_6 : decode cJ0_length_8abf5 6 = .ok (.invokevirtual 335, 3) := by decide +kernel
theorem dJ0_length_8abf5_9 : decode cJ0_length_8abf5 9 = .ok (.ishr, 1) := by decide +kernel
theorem dJ0_length_8abf5_10 : decode cJ0_length_8abf5 10 = .ok (.ireturn, 1) := by decide +kernel
theorem dJ0_charAt_5068e_0 : decode cJ0_charAt_5068e 0 = .ok (.aload_n 0, 1) := by decide +kernel
theorem dJ0_charAt_5068e_1 : decode cJ0_charAt_5068e 1 = .ok (.invokevirtual 492, 3) := by decide +kernel
theorem dJ0_charAt_5068e_4 : decode cJ0_charAt_5068e 4 = .ok (.ifCond .eq 12, 3) := by decide +kernel
theorem dJ0_charAt_5068e_7 : decode cJ0_charAt_5068e 7 = .ok (.aload_n 0, 1) := by decide +kernel
theorem dJ0_charAt_5068e_8 : decode cJ0_charAt_5068e 8 = .ok (.getfield 9, 3) := by decide +kernel
theorem dJ0_charAt_5068e_11 : decode cJ0_charAt_5068e 11 = .ok (.iload_n 1, 1) := by decide +kernel
theorem dJ0_charAt_5068e_12 : decode cJ0_charAt_5068e 12 = .ok (.invokestatic 495, 3) := by decide +kernel
theorem dJ0_charAt_5068e_15 : decode cJ0_charAt_5068e 15 = .ok (.ireturn, 1) := by decide +kernel
theorem dJ0_charAt_5068e_16 : decode cJ0_charAt_5068e 16 = .ok (.aload_n 0, 1) := by decide +kernel
theorem dJ0_charAt_5068e_17 : decode cJ0_charAt_5068e 17 = .ok (.getfield 9, 3) := by decide +kernel
theorem dJ0_charAt_5068e_20 : decode cJ0_charAt_5068e 20 = .ok (.iload_n 1, 1) := by decide +kernel
theorem dJ0_charAt_5068e_21 : decode cJ0_charAt_5068e 21 = .ok (.invokestatic 498, 3) := by decide +kernel
theorem dJ0_charAt_5068e_24 : decode cJ0_charAt_5068e 24 = .ok (.ireturn, 1) := by decide +kernel
theorem dJ0_coder_7d493_0 : decode cJ0_coder_7d493 0 = .ok (.getstatic 38, 3) := by decide +kernel
theorem dJ0_coder_7d493_3 : decode cJ0_coder_7d493 3 = .ok (.ifCond .eq 10, 3) := by decide +kernel
theorem dJ0_coder_7d493_6 : decode cJ0_coder_7d493 6 = .ok (.aload_n 0, 1) := by decide +kernel
theorem dJ0_coder_7d493_7 : decode cJ0_coder_7d493 7 = .ok (.getfield 15, 3) := by decide +kernel
theorem dJ0_coder_7d493_10 : decode cJ0_coder_7d493 10 = .ok (.goto 4, 3) := by decide +kernel
theorem dJ0_coder_7d493_13 : decode cJ0_coder_7d493 13 = .ok (.iconst 1, 1) := by decide +kernel
theorem dJ0_coder_7d493_14 : decode cJ0_coder_7d493 14 = .ok (.ireturn, 1) := by decide +kernel
theorem dJ0_isLatin1_aae02_0 : decode cJ0_isLatin1_aae02 0 = .ok (.getstatic 38, 3) := by decide +kernel
theorem dJ0_isLatin1_aae02_3 : decode cJ0_isLatin1_aae02 3 = .ok (.ifCond .eq 14, 3) := by decide +kernel
theorem dJ0_isLatin1_aae02_6 : decode cJ0_isLatin1_aae02 6 = .ok (.aload_n 0, 1) := by decide +kernel
theorem dJ0_isLatin1_aae02_7 : decode cJ0_isLatin1_aae02 7 = .ok (.getfield 15, 3) := by decide +kernel
theorem dJ0_isLatin1_aae02_10 : decode cJ0_isLatin1_aae02 10 = .ok (.ifCond .ne 7, 3) := by decide +kernel
theorem dJ0_isLatin1_aae02_13 : decode cJ0_isLatin1_aae02 13 = .ok (.iconst 1, 1) := by decide +kernel
theorem dJ0_isLatin1_aae02_14 : decode cJ0_isLatin1_aae02 14 = .ok (.goto 4, 3) := by decide +kernel
theorem dJ0_isLatin1_aae02_17 : decode cJ0_isLatin1_aae02 17 = .ok (.iconst 0, 1) := by decide +kernel
theorem dJ0_isLatin1_aae02_18 : decode cJ0_isLatin1_aae02 18 = .ok (.ireturn, 1) := by decide +kernel
theorem dJ0_checkIndex_df160_0 : decode cJ0_checkIndex_df160 0 = .ok (.iload_n 0, 1) := by decide +kernel
theorem dJ0_checkIndex_df160_1 : decode cJ0_checkIndex_df160 1 = .ok (.iload_n 1, 1) := by decide +kernel
theorem dJ0_checkIndex_df160_2 : decode cJ0_checkIndex_df160 2 = .ok (.getstatic 1053, 3) := by decide +kernel
theorem dJ0_checkIndex_df160_5 : decode cJ0_checkIndex_df160 5 = .ok (.invokestatic 1059, 3) := by decide +kernel
theorem dJ0_checkIndex_df160_8 : decode cJ0_checkIndex_df160 8 = .ok (.pop, 1) := by decide +kernel
theorem dJ0_checkIndex_df160_9 : decode cJ0_checkIndex_df160 9 = .ok (.return_, 1) := by decide +kernel
theorem dJ1_charAt_3b067_0 : decode cJ1_charAt_3b067 0 = .ok (.iload_n 1, 1) := by decide +kernel
theorem dJ1_charAt_3b067_1 : decode cJ1_charAt_3b067 1 = .ok (.aload_n 0, 1) := by decide +kernel
theorem dJ1_charAt_3b067_2 : decode cJ1_charAt_3b067 2 = .ok (.arraylength, 1) := by decide +kernel
theorem dJ1_charAt_3b067_3 : decode cJ1_charAt_3b067 3 = .ok (.invokestatic 9, 3) := by decide +kernel
theorem dJ1_charAt_3b067_6 : decode cJ1_charAt_3b067 6 = .ok (.aload_n 0, 1) := by decide +kernel
theorem dJ1_charAt_3b067_7 : decode cJ1_charAt_3b067 7 = .ok (.iload_n 1, 1) := by decide +kernel
theorem dJ1_charAt_3b067_8 : decode cJ1_charAt_3b067 8 = .ok (.baload, 1) := by decide +kernel
theorem dJ1_charAt_3b067_9 : decode cJ1_charAt_3b067 9 = .ok (.sipush 255, 3) := by decide +kernel
theorem dJ1_charAt_3b067_12 : decode cJ1_charAt_3b067 12 = .ok (.iand, 1) := by decide +kernel
theorem dJ1_charAt_3b067_13 : decode cJ1_charAt_3b067 13 = .ok (.i2c, 1) := by decide +kernel
theorem dJ1_charAt_3b067_14 : decode cJ1_charAt_3b067 14 = .ok (.ireturn, 1) := by decide +kernel
theorem dJ2_getChar_3b067_0 : decode cJ2_getChar_3b067 0 = .ok (.getstatic 44, 3) := by decide +kernel
theorem dJ2_getChar_3b067_3 : decode cJ2_getChar_3b067 3 = .ok (.ifCond .ne 25, 3) := by decide +kernel
theorem dJ2_getChar_3b067_6 : decode cJ2_getChar_3b067 6 = .ok (.iload_n 1, 1) := by decide +kernel
theorem dJ2_getChar_3b067_7 : decode cJ2_getChar_3b067 7 = .ok (.ifCond .lt 11, 3) := by decide +kernel
theorem dJ2_getChar_3b067_10 : decode cJ2_getChar_3b067 10 = .ok (.iload_n 1, 1) := by decide +kernel
theorem dJ2_getChar_3b067_11 : decode cJ2_getChar_3b067 11 = .ok (.aload_n 0, 1) := by decide +kernel
theorem dJ2_getChar_3b067_12 : decode cJ2_getChar_3b067 12 = .ok (.invokestatic 48, 3) := by decide +kernel
theorem dJ2_getChar_3b067_15 : decode cJ2_getChar_3b067 15 = .ok (.if_icmp .lt 13, 3) := by decide +kernel
theorem dJ2_getChar_3b067_18 : decode cJ2_getChar_3b067 18 = .ok (.new 52, 3) := by decide +kernel
theorem dJ2_getChar_3b067_21 : decode cJ2_getChar_3b067 21 = .ok (.dup, 1) := by decide +kernel
theorem dJ2_getChar_3b067_22 : decode cJ2_getChar_3b067 22 = .ok (.ldc 54, 2) := by decide +kernel
theorem dJ2_getChar_3b067_24 : decode cJ2_getChar_3b067 24 = .ok (.invokespecial 56, 3) := by decide +kernel
theorem dJ2_getChar_3b067_27 : decode cJ2_getChar_3b067 27 = .ok (.athrow, 1) := by decide +kernel
theorem dJ2_getChar_3b067_28 : decode cJ2_getChar_3b067 28 = .ok (.iload_n 1, 1) := by decide +kernel
theorem dJ2_getChar_3b067_29 : decode cJ2_getChar_3b067 29 = .ok (.iconst 1, 1) := by decide +kernel
theorem dJ2_getChar_3b067_30 : decode cJ2_getChar_3b067 30 = .ok (.ishl, 1) := by decide +kernel
theorem dJ2_getChar_3b067_31 : decode cJ2_getChar_3b067 31 = .ok (.istore_n 1, 1) := by decide +kernel
theorem dJ2_getChar_3b067_32 : decode cJ2_getChar_3b067 32 = .ok (.aload_n 0, 1) := by decide +kernel
theorem dJ2_getChar_3b067_33 : decode cJ2_getChar_3b067 33 = .ok (.iload_n 1, 1) := by decide +kernel
theorem dJ2_getChar_3b067_34 : decode cJ2_getChar_3b067 34 = .ok (.iinc 1 1, 3) := by decide +kernel
theorem dJ2_getChar_3b067_37 : decode cJ2_getChar_3b067 37 = .ok (.baload, 1) := by decide +kernel
theorem dJ2_getChar_3b067_38 : decode cJ2_getChar_3b067 38 = .ok (.sipush 255, 3) := by decide +kernel
theorem dJ2_getChar_3b067_41 : decode cJ2_getChar_3b067 41 = .ok (.iand, 1) := by decide +kernel
theorem dJ2_getChar_3b067_42 : decode cJ2_getChar_3b067 42 = .ok (.getstatic 59, 3) := by decide +kernel
theorem dJ2_getChar_3b067_45 : decode cJ2_getChar_3b067 45 = .ok (.ishl, 1) := by decide +kernel
theorem dJ2_getChar_3b067_46 : decode cJ2_getChar_3b067 46 = .ok (.aload_n 0, 1) := by decide +kernel
theorem dJ2_getChar_3b067_47 : decode cJ2_getChar_3b067 47 = .ok (.iload_n 1, 1) := by decide +kernel
theorem dJ2_getChar_3b067_48 : decode cJ2_getChar_3b067 48 = .ok (.baload, 1) := by decide +kernel
theorem dJ2_getChar_3b067_49 : decode cJ2_getChar_3b067 49 = .ok (.sipush 255, 3) := by decide +kernel
theorem dJ2_getChar_3b067_52 : decode cJ2_getChar_3b067 52 = .ok (.iand, 1) := by decide +kernel
theorem dJ2_getChar_3b067_53 : decode cJ2_getChar_3b067 53 = .ok (.getstatic 63, 3) := by decide +kernel
theorem dJ2_getChar_3b067_56 : decode cJ2_getChar_3b067 56 = .ok (.ishl, 1) := by decide +kernel
theorem dJ2_getChar_3b067_57 : decode cJ2_getChar_3b067 57 = .ok (.ior, 1) := by decide +kernel
theorem dJ2_getChar_3b067_58 : decode cJ2_getChar_3b067 58 = .ok (.i2c, 1) := by decide +kernel
theorem dJ2_getChar_3b067_59 : decode cJ2_getChar_3b067 59 = .ok (.ireturn, 1) := by decide +kernel
theorem dJ2_length_9d52b_0 : decode cJ2_length_9d52b 0 = .ok (.aload_n 0, 1) := by decide +kernel
theorem dJ2_length_9d52b_1 : decode cJ2_length_9d52b 1 = .ok (.arraylength, 1) := by decide +kernel
theorem dJ2_length_9d52b_2 : decode cJ2_length_9d52b 2 = .ok (.iconst 1, 1) := by decide +kernel
theorem dJ2_length_9d52b_3 : decode cJ2_length_9d52b 3 = .ok (.ishr, 1) := by decide +kernel
theorem dJ2_length_9d52b_4 : decode cJ2_length_9d52b 4 = .ok (.ireturn, 1) := by decide +kernel
theorem dJ2_charAt_3b067_0 : decode cJ2_charAt_3b067 0 = .ok (.iload_n 1, 1) := by decide +kernel
theorem dJ2_charAt_3b067_1 : decode cJ2_charAt_3b067 1 = .ok (.aload_n 0, 1) := by decide +kernel
theorem dJ2_charAt_3b067_2 : decode cJ2_charAt_3b067 2 = .ok (.invokestatic 67, 3) := by decide +kernel
theorem dJ2_charAt_3b067_5 : decode cJ2_charAt_3b067 5 = .ok (.aload_n 0, 1) := by decide +kernel
theorem dJ2_charAt_3b067_6 : decode cJ2_charAt_3b067 6 = .ok (.iload_n 1, 1) := by decide +kernel
theorem dJ2_charAt_3b067_7 : decode cJ2_charAt_3b067 7 = .ok (.invokestatic 71, 3) := by decide +kernel
theorem dJ2_charAt_3b067_10 : decode cJ2_charAt_3b067 10 = .ok (.ireturn, 1) := by decide +kernel
theorem dJ2_checkIndex_2214a_0 : decode cJ2_checkIndex_2214a 0 = .ok (.iload_n 0, 1) := by decide +kernel
theorem dJ2_checkIndex_2214a_1 : decode cJ2_checkIndex_2214a 1 = .ok (.aload_n 1, 1) := by decide +kernel
theorem dJ2_checkIndex_2214a_2 : decode cJ2_checkIndex_2214a 2 = .ok (.invokestatic 48, 3) := by decide +kernel
theorem dJ2_checkIndex_2214a_5 : decode cJ2_checkIndex_2214a 5 = .ok (.invokestatic 414, 3) := by decide +kernel
theorem dJ2_checkIndex_2214a_8 : decode cJ2_checkIndex_2214a 8 = .ok (.return_, 1) := by decide +kernel
theorem dJ3_checkIndex_8e157_0 : decode cJ3_checkIndex_8e157 0 = .ok (.iload_n 0, 1) := by decide +kernel
theorem dJ3_checkIndex_8e157_1 : decode cJ3_checkIndex_8e157 1 = .ok (.ifCond .lt 8, 3) := by decide +kernel
theorem dJ3_checkIndex_8e157_4 : decode cJ3_checkIndex_8e157 4 = .ok (.iload_n 0, 1) := by decide +kernel
theorem dJ3_checkIndex_8e157_5 : decode cJ3_checkIndex_8e157 5 = .ok (.iload_n 1, 1) := by decide +kernel
theorem dJ3_checkIndex_8e157_6 : decode cJ3_checkIndex_8e157 6 = .ok (.if_icmp .lt 10, 3) := by decide +kernel
theorem dJ3_checkIndex_8e157_9 : decode cJ3_checkIndex_8e157 9 = .ok (.aload_n 2, 1) := by decide +kernel
theorem dJ3_checkIndex_8e157_10 : decode cJ3_checkIndex_8e157 10 = .ok (.iload_n 0, 1) := by decide +kernel
theorem dJ3_checkIndex_8e157_11 : decode cJ3_checkIndex_8e157 11 = .ok (.iload_n 1, 1) := by decide +kernel
theorem dJ3_checkIndex_8e157_12 : decode cJ3_checkIndex_8e157 12 = .ok (.invokestatic 95, 3) := by decide +kernel
theorem dJ3_checkIndex_8e157_15 : decode cJ3_checkIndex_8e157 15 = .ok (.athrow, 1) := by decide +kernel
theorem dJ3_checkIndex_8e157_16 : decode cJ3_checkIndex_8e157 16 = .ok (.iload_n 0, 1) := by decide +kernel
theorem dJ3_checkIndex_8e157_17 : decode cJ3_checkIndex_8e157 17 = .ok (.ireturn, 1) := by decide +kernel
