theorem dX9_hold_0 : decode cX9_hold 0 = .ok (.aload_n 0, 1) := by decide +kernel
theorem dX9_hold_1 : decode cX9_hold 1 = .ok (.iload_n 1, 1) := by decide +kernel
theorem dX9_hold_2 : decode cX9_hold 2 = .ok (.invokevirtual 120, 3) := by decide +kernel
theorem dX9_hold_5 : decode cX9_hold 5 = .ok (.aload_n 0, 1) := by decide +kernel
theorem dX9_hold_6 : decode cX9_hold 6 = .ok (.getfield 33, 3) := by decide +kernel
theorem dX9_hold_9 : decode cX9_hold 9 = .ok (.aload_n 0, 1) := by decide +kernel
theorem dX9_hold_10 : decode cX9_hold 10 = .ok (.getfield 109, 3) := by decide +kernel
theorem dX9_hold_13 : decode cX9_hold 13 = .ok (.iaload, 1) := by decide +kernel
theorem dX9_hold_14 : decode cX9_hold 14 = .ok (.ireturn, 1) := by decide +kernel
theorem dX9_notes_0 : decode cX9_notes 0 = .ok (.aload_n 0, 1) := by decide +kernel
theorem dX9_notes_1 : decode cX9_notes 1 = .ok (.getfield 124, 3) := by decide +kernel
theorem dX9_notes_4 : decode cX9_notes 4 = .ok (.bipush 8, 2) := by decide +kernel
theorem dX9_notes_6 : decode cX9_notes 6 = .ok (.if_icmp .ne 43, 3) := by decide +kernel
theorem dX9_notes_9 : decode cX9_notes 9 = .ok (.iconst 0, 1) := by decide +kernel
theorem dX9_notes_10 : decode cX9_notes 10 = .ok (.istore_n 1, 1) := by decide +kernel
theorem dX9_notes_11 : decode cX9_notes 11 = .ok (.iload_n 1, 1) := by decide +kernel
theorem dX9_notes_12 : decode cX9_notes 12 = .ok (.sipush 175, 3) := by decide +kernel
theorem dX9_notes_15 : decode cX9_notes 15 = .ok (.if_icmp .ge 24, 3) := by decide +kernel
theorem dX9_notes_18 : decode cX9_notes 18 = .ok (.aload_n 0, 1) := by decide +kernel
theorem dX9_notes_19 : decode cX9_notes 19 = .ok (.getfield 16, 3) := by decide +kernel
theorem dX9_notes_22 : decode cX9_notes 22 = .ok (.iload_n 1, 1) := by decide +kernel
theorem dX9_notes_23 : decode cX9_notes 23 = .ok (.aload_n 0, 1) := by decide +kernel
theorem dX9_notes_24 : decode cX9_notes 24 = .ok (.getfield 16, 3) := by decide +kernel
theorem dX9_notes_27 : decode cX9_notes 27 = .ok (.iload_n 1, 1) := by decide +kernel
theorem dX9_notes_28 : decode cX9_notes 28 = .ok (.bipush 25, 2) := by decide +kernel
theorem dX9_notes_30 : decode cX9_notes 30 = .ok (.iadd, 1) := by decide +kernel
theorem dX9_notes_31 : decode cX9_notes 31 = .ok (.iaload, 1) := by decide +kernel
theorem dX9_notes_32 : decode cX9_notes 32 = .ok (.iastore, 1) := by decide +kernel
theorem dX9_notes_33 : decode cX9_notes 33 = .ok (.iinc 1 1, 3) := by decide +kernel
theorem dX9_notes_36 : decode cX9_notes 36 = .ok (.goto (-25), 3) := by decide +kernel
theorem dX9_notes_39 : decode cX9_notes 39 = .ok (.aload_n 0, 1) := by decide +kernel
theorem dX9_notes_40 : decode cX9_notes 40 = .ok (.dup, 1) := by decide +kernel
theorem dX9_notes_41 : decode cX9_notes 41 = .ok (.getfield 124, 3) := by decide +kernel
theorem dX9_notes_44 : decode cX9_notes 44 = .ok (.iconst 1, 1) := by decide +kernel
theorem dX9_notes_45 : decode cX9_notes 45 = .ok (.isub, 1) := by decide +kernel
theorem dX9_notes_46 : decode cX9_notes 46 = .ok (.putfield 124, 3) := by decide +kernel
theorem dX9_notes_49 : decode cX9_notes 49 = .ok (.iconst 0, 1) := by decide +kernel
theorem dX9_notes_50 : decode cX9_notes 50 = .ok (.istore_n 1, 1) := by decide +kernel
theorem dX9_notes_51 : decode cX9_notes 51 = .ok (.iload_n 1, 1) := by decide +kernel
theorem dX9_notes_52 : decode cX9_notes 52 = .ok (.bipush 25, 2) := by decide +kernel
theorem dX9_notes_54 : decode cX9_notes 54 = .ok (.if_icmp .ge 29, 3) := by decide +kernel
theorem dX9_notes_57 : decode cX9_notes 57 = .ok (.aload_n 0, 1) := by decide +kernel
theorem dX9_notes_58 : decode cX9_notes 58 = .ok (.getfield 16, 3) := by decide +kernel
theorem dX9_notes_61 : decode cX9_notes 61 = .ok (.bipush 25, 2) := by decide +kernel
theorem dX9_notes_63 : decode cX9_notes 63 = .ok (.aload_n 0, 1) := by decide +kernel
theorem dX9_notes_64 : decode cX9_notes 64 = .ok (.getfield 124, 3) := by decide +kernel
theorem dX9_notes_67 : decode cX9_notes 67 = .ok (.imul, 1) := by decide +kernel
theorem dX9_notes_68 : decode cX9_notes 68 = .ok (.iload_n 1, 1) := by decide +kernel
theorem dX9_notes_69 : decode cX9_notes 69 = .ok (.iadd, 1) := by decide +kernel
theorem dX9_notes_70 : decode cX9_notes 70 = .ok (.aload_n 0, 1) := by decide +kernel
theorem dX9_notes_71 : decode cX9_notes 71 = .ok (.getfield 7, 3) := by decide +kernel
theorem dX9_notes_74 : decode cX9_notes 74 = .ok (.iload_n 1, 1) := by decide +kernel
theorem dX9_notes_75 : decode cX9_notes 75 = .ok (.iaload, 1) := by decide +kernel
theorem dX9_notes_76 : decode cX9_notes 76 = .ok (.iastore, 1) := by decide +kernel
theorem dX9_notes_77 : decode cX9_notes 77 = .ok (.iinc 1 1, 3) := by decide +kernel
theorem dX9_notes_80 : decode cX9_notes 80 = .ok (.goto (-29), 3) := by decide +kernel
theorem dX9_notes_83 : decode cX9_notes 83 = .ok (.aload_n 0, 1) := by decide +kernel
theorem dX9_notes_84 : decode cX9_notes 84 = .ok (.dup, 1) := by decide +kernel
theorem dX9_notes_85 : decode cX9_notes 85 = .ok (.getfield 124, 3) := by decide +kernel
theorem dX9_notes_88 : decode cX9_notes 88 = .ok (.iconst 1, 1) := by decide +kernel
theorem dX9_notes_89 : decode cX9_notes 89 = .ok (.iadd, 1) := by decide +kernel
theorem dX9_notes_90 : decode cX9_notes 90 = .ok (.putfield 124, 3) := by decide +kernel
theorem dX9_notes_93 : decode cX9_notes 93 = .ok (.return_, 1) := by decide +kernel
theorem dX9_fills_0 : decode cX9_fills 0 = .ok (.aload_n 0, 1) := by decide +kernel
theorem dX9_fills_1 : decode cX9_fills 1 = .ok (.iconst 0, 1) := by decide +kernel
theorem dX9_fills_2 : decode cX9_fills 2 = .ok (.putfield 39, 3) := by decide +kernel
theorem dX9_fills_5 : decode cX9_fills 5 = .ok (.aload_n 0, 1) := by decide +kernel
theorem dX9_fills_6 : decode cX9_fills 6 = .ok (.iload_n 1, 1) := by decide +kernel
theorem dX9_fills_7 : decode cX9_fills 7 = .ok (.invokevirtual 127, 3) := by decide +kernel
theorem dX9_fills_10 : decode cX9_fills 10 = .ok (.ifCond .eq 17, 3) := by decide +kernel
theorem dX9_fills_13 : decode cX9_fills 13 = .ok (.iload_n 2, 1) := by decide +kernel
theorem dX9_fills_14 : decode cX9_fills 14 = .ok (.iconst 1, 1) := by decide +kernel
theorem dX9_fills_15 : decode cX9_fills 15 = .ok (.if_icmp .lt 12, 3) := by decide +kernel
theorem dX9_fills_18 : decode cX9_fills 18 = .ok (.iload_n 3, 1) := by decide +kernel
theorem dX9_fills_19 : decode cX9_fills 19 = .ok (.iconst 0, 1) := by decide +kernel
theorem dX9_fills_20 : decode cX9_fills 20 = .ok (.iload_n 2, 1) := by decide +kernel
theorem dX9_fills_21 : decode cX9_fills 21 = .ok (.invokestatic 43, 3) := by decide +kernel
theorem dX9_fills_24 : decode cX9_fills 24 = .ok (.ifCond .ne 5, 3) := by decide +kernel
theorem dX9_fills_27 : decode cX9_fills 27 = .ok (.iconst (-1), 1) := by decide +kernel
theorem dX9_fills_28 : decode cX9_fills 28 = .ok (.ireturn, 1) := by decide +kernel
theorem dX9_fills_29 : decode cX9_fills 29 = .ok (.iload_n 2, 1) := by decide +kernel
theorem dX9_fills_30 : decode cX9_fills 30 = .ok (.aload_n 0, 1) := by decide +kernel
theorem dX9_fills_31 : decode cX9_fills 31 = .ok (.iload_n 1, 1) := by decide +kernel
theorem dX9_fills_32 : decode cX9_fills 32 = .ok (.invokevirtual 131, 3) := by decide +kernel
theorem dX9_fills_35 : decode cX9_fills 35 = .ok (.aload_n 0, 1) := by decide +kernel
theorem dX9_fills_36 : decode cX9_fills 36 = .ok (.iload_n 1, 1) := by decide +kernel
theorem dX9_fills_37 : decode cX9_fills 37 = .ok (.iconst 4, 1) := by decide +kernel
theorem dX9_fills_38 : decode cX9_fills 38 = .ok (.invokevirtual 103, 3) := by decide +kernel
theorem dX9_fills_41 : decode cX9_fills 41 = .ok (.isub, 1) := by decide +kernel
theorem dX9_fills_42 : decode cX9_fills 42 = .ok (.if_icmp .le 6, 3) := by decide +kernel
theorem dX9_fills_45 : decode cX9_fills 45 = .ok (.bipush (-3), 2) := by decide +kernel
theorem dX9_fills_47 : decode cX9_fills 47 = .ok (.ireturn, 1) := by decide +kernel
theorem dX9_fills_48 : decode cX9_fills 48 = .ok (.aload_n 0, 1) := by decide +kernel
theorem dX9_fills_49 : decode cX9_fills 49 = .ok (.invokevirtual 100, 3) := by decide +kernel
theorem dX9_fills_52 : decode cX9_fills 52 = .ok (.aload_n 0, 1) := by decide +kernel
theorem dX9_fills_53 : decode cX9_fills 53 = .ok (.getfield 7, 3) := by decide +kernel
theorem dX9_fills_56 : decode cX9_fills 56 = .ok (.bipush 6, 2) := by decide +kernel
theorem dX9_fills_58 : decode cX9_fills 58 = .ok (.iload_n 1, 1) := by decide +kernel
theorem dX9_fills_59 : decode cX9_fills 59 = .ok (.imul, 1) := by decide +kernel
theorem dX9_fills_60 : decode cX9_fills 60 = .ok (.iconst 4, 1) := by decide +kernel
theorem dX9_fills_61 : decode cX9_fills 61 = .ok (.iadd, 1) := by decide +kernel
theorem dX9_fills_62 : decode cX9_fills 62 = .ok (.dup2, 1) := by decide +kernel
theorem dX9_fills_63 : decode cX9_fills 63 = .ok (.iaload, 1) := by decide +kernel
theorem dX9_fills_64 : decode cX9_fills 64 = .ok (.iload_n 2, 1) := by decide +kernel
theorem dX9_fills_65 : decode cX9_fills 65 = .ok (.iadd, 1) := by decide +kernel
theorem dX9_fills_66 : decode cX9_fills 66 = .ok (.iastore, 1) := by decide +kernel
theorem dX9_fills_67 : decode cX9_fills 67 = .ok (.aload_n 0, 1) := by decide +kernel
theorem dX9_fills_68 : decode cX9_fills 68 = .ok (.getfield 7, 3) := by decide +kernel
theorem dX9_fills_71 : decode cX9_fills 71 = .ok (.bipush 6, 2) := by decide +kernel
theorem dX9_fills_73 : decode cX9_fills 73 = .ok (.iload_n 1, 1) := by decide +kernel
theorem dX9_fills_74 : decode cX9_fills 74 = .ok (.imul, 1) := by decide +kernel
theorem dX9_fills_75 : decode cX9_fills 75 = .ok (.iconst 5, 1) := by decide +kernel
theorem dX9_fills_76 : decode cX9_fills 76 = .ok (.iadd, 1) := by decide +kernel
theorem dX9_fills_77 : decode cX9_fills 77 = .ok (.dup2, 1) := by decide +kernel
theorem dX9_fills_78 : decode cX9_fills 78 = .ok (.iaload, 1) := by decide +kernel
theorem dX9_fills_79 : decode cX9_fills 79 = .ok (.iload_n 3, 1) := by decide +kernel
theorem dX9_fills_80 : decode cX9_fills 80 = .ok (.iadd, 1) := by decide +kernel
theorem dX9_fills_81 : decode cX9_fills 81 = .ok (.iastore, 1) := by decide +kernel
theorem dX9_fills_82 : decode cX9_fills 82 = .ok (.aload_n 0, 1) := by decide +kernel
theorem dX9_fills_83 : decode cX9_fills 83 = .ok (.iload_n 1, 1) := by decide +kernel
theorem dX9_fills_84 : decode cX9_fills 84 = .ok (.iconst 4, 1) := by decide +kernel
theorem dX9_fills_85 : decode cX9_fills 85 = .ok (.invokevirtual 103, 3) := by decide +kernel
theorem dX9_fills_88 : decode cX9_fills 88 = .ok (.ireturn, 1) := by decide +kernel
theorem dX9_goes_0 : decode cX9_goes 0 = .ok (.aload_n 0, 1) := by decide +kernel
theorem dX9_goes_1 : decode cX9_goes 1 = .ok (.iload_n 1, 1) := by decide +kernel
theorem dX9_goes_2 : decode cX9_goes 2 = .ok (.iconst 5, 1) := by decide +kernel
theorem dX9_goes_3 : decode cX9_goes 3 = .ok (.invokevirtual 103, 3) := by decide +kernel
theorem dX9_goes_6 : decode cX9_goes 6 = .ok (.iload_n 2, 1) := by decide +kernel
theorem dX9_goes_7 : decode cX9_goes 7 = .ok (.imul, 1) := by decide +kernel
theorem dX9_goes_8 : decode cX9_goes 8 = .ok (.aload_n 0, 1) := by decide +kernel
theorem dX9_goes_9 : decode cX9_goes 9 = .ok (.iload_n 1, 1) := by decide +kernel
theorem dX9_goes_10 : decode cX9_goes 10 = .ok (.iconst 4, 1) := by decide +kernel
theorem dX9_goes_11 : decode cX9_goes 11 = .ok (.invokevirtual 103, 3) := by decide +kernel
theorem dX9_goes_14 : decode cX9_goes 14 = .ok (.idiv, 1) := by decide +kernel
theorem dX9_goes_15 : decode cX9_goes 15 = .ok (.istore_n 3, 1) := by decide +kernel
theorem dX9_goes_16 : decode cX9_goes 16 = .ok (.aload_n 0, 1) := by decide +kernel
theorem dX9_goes_17 : decode cX9_goes 17 = .ok (.getfield 7, 3) := by decide +kernel
theorem dX9_goes_20 : decode cX9_goes 20 = .ok (.bipush 6, 2) := by decide +kernel
theorem dX9_goes_22 : decode cX9_goes 22 = .ok (.iload_n 1, 1) := by decide +kernel
theorem dX9_goes_23 : decode cX9_goes 23 = .ok (.imul, 1) := by decide +kernel
theorem dX9_goes_24 : decode cX9_goes 24 = .ok (.iconst 4, 1) := by decide +kernel
theorem dX9_goes_25 : decode cX9_goes 25 = .ok (.iadd, 1) := by decide +kernel
theorem dX9_goes_26 : decode cX9_goes 26 = .ok (.dup2, 1) := by decide +kernel
theorem dX9_goes_27 : decode cX9_goes 27 = .ok (.iaload, 1) := by decide +kernel
theorem dX9_goes_28 : decode cX9_goes 28 = .ok (.iload_n 2, 1) := by decide +kernel
theorem dX9_goes_29 : decode cX9_goes 29 = .ok (.isub, 1) := by decide +kernel
theorem dX9_goes_30 : decode cX9_goes 30 = .ok (.iastore, 1) := by decide +kernel
theorem dX9_goes_31 : decode cX9_goes 31 = .ok (.aload_n 0, 1) := by decide +kernel
theorem dX9_goes_32 : decode cX9_goes 32 = .ok (.getfield 7, 3) := by decide +kernel
theorem dX9_goes_35 : decode cX9_goes 35 = .ok (.bipush 6, 2) := by decide +kernel
theorem dX9_goes_37 : decode cX9_goes 37 = .ok (.iload_n 1, 1) := by decide +kernel
theorem dX9_goes_38 : decode cX9_goes 38 = .ok (.imul, 1) := by decide +kernel
theorem dX9_goes_39 : decode cX9_goes 39 = .ok (.iconst 5, 1) := by decide +kernel
theorem dX9_goes_40 : decode cX9_goes 40 = .ok (.iadd, 1) := by decide +kernel
theorem dX9_goes_41 : decode cX9_goes 41 = .ok (.dup2, 1) := by decide +kernel
theorem dX9_goes_42 : decode cX9_goes 42 = .ok (.iaload, 1) := by decide +kernel
theorem dX9_goes_43 : decode cX9_goes 43 = .ok (.iload_n 3, 1) := by decide +kernel
theorem dX9_goes_44 : decode cX9_goes 44 = .ok (.isub, 1) := by decide +kernel
theorem dX9_goes_45 : decode cX9_goes 45 = .ok (.iastore, 1) := by decide +kernel
theorem dX9_goes_46 : decode cX9_goes 46 = .ok (.iload_n 3, 1) := by decide +kernel
theorem dX9_goes_47 : decode cX9_goes 47 = .ok (.ireturn, 1) := by decide +kernel
theorem dX9_draws_0 : decode cX9_draws 0 = .ok (.aload_n 0, 1) := by decide +kernel
theorem dX9_draws_1 : decode cX9_draws 1 = .ok (.iconst 0, 1) := by decide +kernel
theorem dX9_draws_2 : decode cX9_draws 2 = .ok (.putfield 39, 3) := by decide +kernel
theorem dX9_draws_5 : decode cX9_draws 5 = .ok (.aload_n 0, 1) := by decide +kernel
theorem dX9_draws_6 : decode cX9_draws 6 = .ok (.iload_n 1, 1) := by decide +kernel
theorem dX9_draws_7 : decode cX9_draws 7 = .ok (.invokevirtual 127, 3) := by decide +kernel
theorem dX9_draws_10 : decode cX9_draws 10 = .ok (.ifCond .eq 8, 3) := by decide +kernel
theorem dX9_draws_13 : decode cX9_draws 13 = .ok (.iload_n 2, 1) := by decide +kernel
theorem dX9_draws_14 : decode cX9_draws 14 = .ok (.iconst 1, 1) := by decide +kernel
theorem dX9_draws_15 : decode cX9_draws 15 = .ok (.if_icmp .ge 5, 3) := by decide +kernel
theorem dX9_draws_18 : decode cX9_draws 18 = .ok (.iconst (-1), 1) := by decide +kernel
theorem dX9_draws_19 : decode cX9_draws 19 = .ok (.ireturn, 1) := by decide +kernel
theorem dX9_draws_20 : decode cX9_draws 20 = .ok (.aload_n 0, 1) := by decide +kernel
theorem dX9_draws_21 : decode cX9_draws 21 = .ok (.iload_n 1, 1) := by decide +kernel
theorem dX9_draws_22 : decode cX9_draws 22 = .ok (.iconst 4, 1) := by decide +kernel
theorem dX9_draws_23 : decode cX9_draws 23 = .ok (.invokevirtual 103, 3) := by decide +kernel
theorem dX9_draws_26 : decode cX9_draws 26 = .ok (.iload_n 2, 1) := by decide +kernel
theorem dX9_draws_27 : decode cX9_draws 27 = .ok (.if_icmp .ge 6, 3) := by decide +kernel
theorem dX9_draws_30 : decode cX9_draws 30 = .ok (.bipush (-2), 2) := by decide +kernel
theorem dX9_draws_32 : decode cX9_draws 32 = .ok (.ireturn, 1) := by decide +kernel
theorem dX9_draws_33 : decode cX9_draws 33 = .ok (.aload_n 0, 1) := by decide +kernel
theorem dX9_draws_34 : decode cX9_draws 34 = .ok (.invokevirtual 100, 3) := by decide +kernel
theorem dX9_draws_37 : decode cX9_draws 37 = .ok (.aload_n 0, 1) := by decide +kernel
theorem dX9_draws_38 : decode cX9_draws 38 = .ok (.iload_n 1, 1) := by decide +kernel
theorem dX9_draws_39 : decode cX9_draws 39 = .ok (.iload_n 2, 1) := by decide +kernel
theorem dX9_draws_40 : decode cX9_draws 40 = .ok (.invokevirtual 134, 3) := by decide +kernel
theorem dX9_draws_43 : decode cX9_draws 43 = .ok (.istore_n 3, 1) := by decide +kernel
theorem dX9_draws_44 : decode cX9_draws 44 = .ok (.iload_n 3, 1) := by decide +kernel
theorem dX9_draws_45 : decode cX9_draws 45 = .ok (.ifCond .ge 7, 3) := by decide +kernel
theorem dX9_draws_48 : decode cX9_draws 48 = .ok (.iconst (-1), 1) := by decide +kernel
theorem dX9_draws_49 : decode cX9_draws 49 = .ok (.goto 9, 3) := by decide +kernel
theorem dX9_draws_52 : decode cX9_draws 52 = .ok (.aload_n 0, 1) := by decide +kernel
theorem dX9_draws_53 : decode cX9_draws 53 = .ok (.iload_n 1, 1) := by decide +kernel
theorem dX9_draws_54 : decode cX9_draws 54 = .ok (.iconst 4, 1) := by decide +kernel
theorem dX9_draws_55 : decode cX9_draws 55 = .ok (.invokevirtual 103, 3) := by decide +kernel
theorem dX9_draws_58 : decode cX9_draws 58 = .ok (.ireturn, 1) := by decide +kernel
theorem dX9_pours_0 : decode cX9_pours 0 = .ok (.aload_n 0, 1) := by decide +kernel
theorem dX9_pours_1 : decode cX9_pours 1 = .ok (.iconst 0, 1) := by decide +kernel
theorem dX9_pours_2 : decode cX9_pours 2 = .ok (.putfield 39, 3) := by decide +kernel
theorem dX9_pours_5 : decode cX9_pours 5 = .ok (.aload_n 0, 1) := by decide +kernel
theorem dX9_pours_6 : decode cX9_pours 6 = .ok (.iload_n 1, 1) := by decide +kernel
theorem dX9_pours_7 : decode cX9_pours 7 = .ok (.invokevirtual 127, 3) := by decide +kernel
theorem dX9_pours_10 : decode cX9_pours 10 = .ok (.ifCond .eq 21, 3) := by decide +kernel
theorem dX9_pours_13 : decode cX9_pours 13 = .ok (.aload_n 0, 1) := by decide +kernel
theorem dX9_pours_14 : decode cX9_pours 14 = .ok (.iload_n 2, 1) := by decide +kernel
theorem dX9_pours_15 : decode cX9_pours 15 = .ok (.invokevirtual 127, 3) := by decide +kernel
theorem dX9_pours_18 : decode cX9_pours 18 = .ok (.ifCond .eq 13, 3) := by decide +kernel
theorem dX9_pours_21 : decode cX9_pours 21 = .ok (.iload_n 1, 1) := by decide +kernel
theorem dX9_pours_22 : decode cX9_pours 22 = .ok (.iload_n 2, 1) := by decide +kernel
theorem dX9_pours_23 : decode cX9_pours 23 = .ok (.if_icmp .eq 8, 3) := by decide +kernel
theorem dX9_pours_26 : decode cX9_pours 26 = .ok (.iload_n 3, 1) := by decide +kernel
theorem dX9_pours_27 : decode cX9_pours 27 = .ok (.iconst 1, 1) := by decide +kernel
theorem dX9_pours_28 : decode cX9_pours 28 = .ok (.if_icmp .ge 5, 3) := by decide +kernel
theorem dX9_pours_31 : decode cX9_pours 31 = .ok (.iconst (-1), 1) := by decide +kernel
theorem dX9_pours_32 : decode cX9_pours 32 = .ok (.ireturn, 1) := by decide +kernel
theorem dX9_pours_33 : decode cX9_pours 33 = .ok (.aload_n 0, 1) := by decide +kernel
theorem dX9_pours_34 : decode cX9_pours 34 = .ok (.iload_n 1, 1) := by decide +kernel
theorem dX9_pours_35 : decode cX9_pours 35 = .ok (.iconst 4, 1) := by decide +kernel
theorem dX9_pours_36 : decode cX9_pours 36 = .ok (.invokevirtual 103, 3) := by decide +kernel
theorem dX9_pours_39 : decode cX9_pours 39 = .ok (.iload_n 3, 1) := by decide +kernel
theorem dX9_pours_40 : decode cX9_pours 40 = .ok (.if_icmp .ge 6, 3) := by decide +kernel
theorem dX9_pours_43 : decode cX9_pours 43 = .ok (.bipush (-2), 2) := by decide +kernel
theorem dX9_pours_45 : decode cX9_pours 45 = .ok (.ireturn, 1) := by decide +kernel
theorem dX9_pours_46 : decode cX9_pours 46 = .ok (.iload_n 3, 1) := by decide +kernel
theorem dX9_pours_47 : decode cX9_pours 47 = .ok (.aload_n 0, 1) := by decide +kernel
theorem dX9_pours_48 : decode cX9_pours 48 = .ok (.iload_n 2, 1) := by decide +kernel
theorem dX9_pours_49 : decode cX9_pours 49 = .ok (.invokevirtual 131, 3) := by decide +kernel
theorem dX9_pours_52 : decode cX9_pours 52 = .ok (.aload_n 0, 1) := by decide +kernel
theorem dX9_pours_53 : decode cX9_pours 53 = .ok (.iload_n 2, 1) := by decide +kernel
theorem dX9_pours_54 : decode cX9_pours 54 = .ok (.iconst 4, 1) := by decide +kernel
theorem dX9_pours_55 : decode cX9_pours 55 = .ok (.invokevirtual 103, 3) := by decide +kernel
theorem dX9_pours_58 : decode cX9_pours 58 = .ok (.isub, 1) := by decide +kernel
theorem dX9_pours_59 : decode cX9_pours 59 = .ok (.if_icmp .le 6, 3) := by decide +kernel
theorem dX9_pours_62 : decode cX9_pours 62 = .ok (.bipush (-3), 2) := by decide +kernel
theorem dX9_pours_64 : decode cX9_pours 64 = .ok (.ireturn, 1) := by decide +kernel
theorem dX9_pours_65 : decode cX9_pours 65 = .ok (.aload_n 0, 1) := by decide +kernel
theorem dX9_pours_66 : decode cX9_pours 66 = .ok (.invokevirtual 100, 3) := by decide +kernel
theorem dX9_pours_69 : decode cX9_pours 69 = .ok (.aload_n 0, 1) := by decide +kernel
theorem dX9_pours_70 : decode cX9_pours 70 = .ok (.getfield 7, 3) := by decide +kernel
theorem dX9_pours_73 : decode cX9_pours 73 = .ok (.bipush 6, 2) := by decide +kernel
theorem dX9_pours_75 : decode cX9_pours 75 = .ok (.iload_n 2, 1) := by decide +kernel
theorem dX9_pours_76 : decode cX9_pours 76 = .ok (.imul, 1) := by decide +kernel
theorem dX9_pours_77 : decode cX9_pours 77 = .ok (.iconst 5, 1) := by decide +kernel
theorem dX9_pours_78 : decode cX9_pours 78 = .ok (.iadd, 1) := by decide +kernel
theorem dX9_pours_79 : decode cX9_pours 79 = .ok (.dup2, 1) := by decide +kernel
theorem dX9_pours_80 : decode cX9_pours 80 = .ok (.iaload, 1) := by decide +kernel
theorem dX9_pours_81 : decode cX9_pours 81 = .ok (.aload_n 0, 1) := by decide +kernel
theorem dX9_pours_82 : decode cX9_pours 82 = .ok (.iload_n 1, 1) := by decide +kernel
theorem dX9_pours_83 : decode cX9_pours 83 = .ok (.iload_n 3, 1) := by decide +kernel
theorem dX9_pours_84 : decode cX9_pours 84 = .ok (.invokevirtual 134, 3) := by decide +kernel
theorem dX9_pours_87 : decode cX9_pours 87 = .ok (.iadd, 1) := by decide +kernel
theorem dX9_pours_88 : decode cX9_pours 88 = .ok (.iastore, 1) := by decide +kernel
theorem dX9_pours_89 : decode cX9_pours 89 = .ok (.aload_n 0, 1) := by decide +kernel
theorem dX9_pours_90 : decode cX9_pours 90 = .ok (.getfield 7, 3) := by decide +kernel
theorem dX9_pours_93 : decode cX9_pours 93 = .ok (.bipush 6, 2) := by decide +kernel
theorem dX9_pours_95 : decode cX9_pours 95 = .ok (.iload_n 2, 1) := by decide +kernel
theorem dX9_pours_96 : decode cX9_pours 96 = .ok (.imul, 1) := by decide +kernel
theorem dX9_pours_97 : decode cX9_pours 97 = .ok (.iconst 4, 1) := by decide +kernel
theorem dX9_pours_98 : decode cX9_pours 98 = .ok (.iadd, 1) := by decide +kernel
theorem dX9_pours_99 : decode cX9_pours 99 = .ok (.dup2, 1) := by decide +kernel
theorem dX9_pours_100 : decode cX9_pours 100 = .ok (.iaload, 1) := by decide +kernel
theorem dX9_pours_101 : decode cX9_pours 101 = .ok (.iload_n 3, 1) := by decide +kernel
theorem dX9_pours_102 : decode cX9_pours 102 = .ok (.iadd, 1) := by decide +kernel
theorem dX9_pours_103 : decode cX9_pours 103 = .ok (.iastore, 1) := by decide +kernel
theorem dX9_pours_104 : decode cX9_pours 104 = .ok (.aload_n 0, 1) := by decide +kernel
theorem dX9_pours_105 : decode cX9_pours 105 = .ok (.iload_n 2, 1) := by decide +kernel
theorem dX9_pours_106 : decode cX9_pours 106 = .ok (.iconst 4, 1) := by decide +kernel
theorem dX9_pours_107 : decode cX9_pours 107 = .ok (.invokevirtual 103, 3) := by decide +kernel
theorem dX9_pours_110 : decode cX9_pours 110 = .ok (.ireturn, 1) := by decide +kernel
theorem dX9_turnsOver_0 : decode cX9_turnsOver 0 = .ok (.aload_n 0, 1) := by decide +kernel
theorem dX9_turnsOver_1 : decode cX9_turnsOver 1 = .ok (.iconst 0, 1) := by decide +kernel
theorem dX9_turnsOver_2 : decode cX9_turnsOver 2 = .ok (.putfield 39, 3) := by decide +kernel
theorem dX9_turnsOver_5 : decode cX9_turnsOver 5 = .ok (.aload_n 0, 1) := by decide +kernel
theorem dX9_turnsOver_6 : decode cX9_turnsOver 6 = .ok (.iload_n 1, 1) := by decide +kernel
theorem dX9_turnsOver_7 : decode cX9_turnsOver 7 = .ok (.invokevirtual 127, 3) := by decide +kernel
theorem dX9_turnsOver_10 : decode cX9_turnsOver 10 = .ok (.ifCond .ne 5, 3) := by decide +kernel
theorem dX9_turnsOver_13 : decode cX9_turnsOver 13 = .ok (.iconst (-1), 1) := by decide +kernel
theorem dX9_turnsOver_14 : decode cX9_turnsOver 14 = .ok (.ireturn, 1) := by decide +kernel
theorem dX9_turnsOver_15 : decode cX9_turnsOver 15 = .ok (.aload_n 0, 1) := by decide +kernel
theorem dX9_turnsOver_16 : decode cX9_turnsOver 16 = .ok (.invokevirtual 100, 3) := by decide +kernel
theorem dX9_turnsOver_19 : decode cX9_turnsOver 19 = .ok (.aload_n 0, 1) := by decide +kernel
theorem dX9_turnsOver_20 : decode cX9_turnsOver 20 = .ok (.getfield 7, 3) := by decide +kernel
theorem dX9_turnsOver_23 : decode cX9_turnsOver 23 = .ok (.bipush 6, 2) := by decide +kernel
theorem dX9_turnsOver_25 : decode cX9_turnsOver 25 = .ok (.iload_n 1, 1) := by decide +kernel
theorem dX9_turnsOver_26 : decode cX9_turnsOver 26 = .ok (.imul, 1) := by decide +kernel
theorem dX9_turnsOver_27 : decode cX9_turnsOver 27 = .ok (.iconst 3, 1) := by decide +kernel
theorem dX9_turnsOver_28 : decode cX9_turnsOver 28 = .ok (.iadd, 1) := by decide +kernel
theorem dX9_turnsOver_29 : decode cX9_turnsOver 29 = .ok (.iconst 1, 1) := by decide +kernel
theorem dX9_turnsOver_30 : decode cX9_turnsOver 30 = .ok (.aload_n 0, 1) := by decide +kernel
theorem dX9_turnsOver_31 : decode cX9_turnsOver 31 = .ok (.iload_n 1, 1) := by decide +kernel
theorem dX9_turnsOver_32 : decode cX9_turnsOver 32 = .ok (.iconst 3, 1) := by decide +kernel
theorem dX9_turnsOver_33 : decode cX9_turnsOver 33 = .ok (.invokevirtual 103, 3) := by decide +kernel
theorem dX9_turnsOver_36 : decode cX9_turnsOver 36 = .ok (.isub, 1) := by decide +kernel
theorem dX9_turnsOver_37 : decode cX9_turnsOver 37 = .ok (.iastore, 1) := by decide +kernel
theorem dX9_turnsOver_38 : decode cX9_turnsOver 38 = .ok (.aload_n 0, 1) := by decide +kernel
theorem dX9_turnsOver_39 : decode cX9_turnsOver 39 = .ok (.iload_n 1, 1) := by decide +kernel
theorem dX9_turnsOver_40 : decode cX9_turnsOver 40 = .ok (.iconst 3, 1) := by decide +kernel
theorem dX9_turnsOver_41 : decode cX9_turnsOver 41 = .ok (.invokevirtual 103, 3) := by decide +kernel
theorem dX9_turnsOver_44 : decode cX9_turnsOver 44 = .ok (.ireturn, 1) := by decide +kernel
theorem dX9_undo_0 : decode cX9_undo 0 = .ok (.aload_n 0, 1) := by decide +kernel
theorem dX9_undo_1 : decode cX9_undo 1 = .ok (.iconst 0, 1) := by decide +kernel
theorem dX9_undo_2 : decode cX9_undo 2 = .ok (.putfield 39, 3) := by decide +kernel
theorem dX9_undo_5 : decode cX9_undo 5 = .ok (.aload_n 0, 1) := by decide +kernel
theorem dX9_undo_6 : decode cX9_undo 6 = .ok (.getfield 124, 3) := by decide +kernel
theorem dX9_undo_9 : decode cX9_undo 9 = .ok (.ifCond .ne 6, 3) := by decide +kernel
theorem dX9_undo_12 : decode cX9_undo 12 = .ok (.bipush (-2), 2) := by decide +kernel
theorem dX9_undo_14 : decode cX9_undo 14 = .ok (.ireturn, 1) := by decide +kernel
theorem dX9_undo_15 : decode cX9_undo 15 = .ok (.aload_n 0, 1) := by decide +kernel
theorem dX9_undo_16 : decode cX9_undo 16 = .ok (.dup, 1) := by decide +kernel
theorem dX9_undo_17 : decode cX9_undo 17 = .ok (.getfield 124, 3) := by decide +kernel
theorem dX9_undo_20 : decode cX9_undo 20 = .ok (.iconst 1, 1) := by decide +kernel
theorem dX9_undo_21 : decode cX9_undo 21 = .ok (.isub, 1) := by decide +kernel
theorem dX9_undo_22 : decode cX9_undo 22 = .ok (.putfield 124, 3) := by decide +kernel
theorem dX9_undo_25 : decode cX9_undo 25 = .ok (.iconst 0, 1) := by decide +kernel
theorem dX9_undo_26 : decode cX9_undo 26 = .ok (.istore_n 1, 1) := by decide +kernel
theorem dX9_undo_27 : decode cX9_undo 27 = .ok (.iload_n 1, 1) := by decide +kernel
theorem dX9_undo_28 : decode cX9_undo 28 = .ok (.bipush 25, 2) := by decide +kernel
theorem dX9_undo_30 : decode cX9_undo 30 = .ok (.if_icmp .ge 29, 3) := by decide +kernel
theorem dX9_undo_33 : decode cX9_undo 33 = .ok (.aload_n 0, 1) := by decide +kernel
theorem dX9_undo_34 : decode cX9_undo 34 = .ok (.getfield 7, 3) := by decide +kernel
theorem dX9_undo_37 : decode cX9_undo 37 = .ok (.iload_n 1, 1) := by decide +kernel
theorem dX9_undo_38 : decode cX9_undo 38 = .ok (.aload_n 0, 1) := by decide +kernel
theorem dX9_undo_39 : decode cX9_undo 39 = .ok (.getfield 16, 3) := by decide +kernel
theorem dX9_undo_42 : decode cX9_undo 42 = .ok (.bipush 25, 2) := by decide +kernel
theorem dX9_undo_44 : decode cX9_undo 44 = .ok (.aload_n 0, 1) := by decide +kernel
theorem dX9_undo_45 : decode cX9_undo 45 = .ok (.getfield 124, 3) := by decide +kernel
theorem dX9_undo_48 : decode cX9_undo 48 = .ok (.imul, 1) := by decide +kernel
theorem dX9_undo_49 : decode cX9_undo 49 = .ok (.iload_n 1, 1) := by decide +kernel
theorem dX9_undo_50 : decode cX9_undo 50 = .ok (.iadd, 1) := by decide +kernel
theorem dX9_undo_51 : decode cX9_undo 51 = .ok (.iaload, 1) := by decide +kernel
theorem dX9_undo_52 : decode cX9_undo 52 = .ok (.iastore, 1) := by decide +kernel
theorem dX9_undo_53 : decode cX9_undo 53 = .ok (.iinc 1 1, 3) := by decide +kernel
theorem dX9_undo_56 : decode cX9_undo 56 = .ok (.goto (-29), 3) := by decide +kernel
theorem dX9_undo_59 : decode cX9_undo 59 = .ok (.aload_n 0, 1) := by decide +kernel
theorem dX9_undo_60 : decode cX9_undo 60 = .ok (.getfield 124, 3) := by decide +kernel
theorem dX9_undo_63 : decode cX9_undo 63 = .ok (.ireturn, 1) := by decide +kernel
theorem dX9_strength_0 : decode cX9_strength 0 = .ok (.aload_n 0, 1) := by decide +kernel
theorem dX9_strength_1 : decode cX9_strength 1 = .ok (.iload_n 1, 1) := by decide +kernel
theorem dX9_strength_2 : decode cX9_strength 2 = .ok (.iconst 5, 1) := by decide +kernel
theorem dX9_strength_3 : decode cX9_strength 3 = .ok (.invokevirtual 103, 3) := by decide +kernel
theorem dX9_strength_6 : decode cX9_strength 6 = .ok (.i2f, 1) := by decide +kernel
theorem dX9_strength_7 : decode cX9_strength 7 = .ok (.aload_n 0, 1) := by decide +kernel
theorem dX9_strength_8 : decode cX9_strength 8 = .ok (.iload_n 1, 1) := by decide +kernel
theorem dX9_strength_9 : decode cX9_strength 9 = .ok (.iconst 4, 1) := by decide +kernel
theorem dX9_strength_10 : decode cX9_strength 10 = .ok (.invokevirtual 103, 3) := by decide +kernel
theorem dX9_strength_13 : decode cX9_strength 13 = .ok (.i2f, 1) := by decide +kernel
theorem dX9_strength_14 : decode cX9_strength 14 = .ok (.fdiv, 1) := by decide +kernel
theorem dX9_strength_15 : decode cX9_strength 15 = .ok (.freturn, 1) := by decide +kernel
theorem dX9_cask_0 : decode cX9_cask 0 = .ok (.aload_n 0, 1) := by decide +kernel
theorem dX9_cask_1 : decode cX9_cask 1 = .ok (.iconst 0, 1) := by decide +kernel
theorem dX9_cask_2 : decode cX9_cask 2 = .ok (.putfield 39, 3) := by decide +kernel
theorem dX9_cask_5 : decode cX9_cask 5 = .ok (.aload_n 0, 1) := by decide +kernel
theorem dX9_cask_6 : decode cX9_cask 6 = .ok (.iload_n 1, 1) := by decide +kernel
theorem dX9_cask_7 : decode cX9_cask 7 = .ok (.invokevirtual 127, 3) := by decide +kernel
theorem dX9_cask_10 : decode cX9_cask 10 = .ok (.ifCond .eq 13, 3) := by decide +kernel
theorem dX9_cask_13 : decode cX9_cask 13 = .ok (.iload_n 2, 1) := by decide +kernel
theorem dX9_cask_14 : decode cX9_cask 14 = .ok (.iconst 0, 1) := by decide +kernel
theorem dX9_cask_15 : decode cX9_cask 15 = .ok (.bipush 8, 2) := by decide +kernel
theorem dX9_cask_17 : decode cX9_cask 17 = .ok (.invokestatic 43, 3) := by decide +kernel
theorem dX9_cask_20 : decode cX9_cask 20 = .ok (.ifCond .ne 5, 3) := by decide +kernel
theorem dX9_cask_23 : decode cX9_cask 23 = .ok (.iconst (-1), 1) := by decide +kernel
theorem dX9_cask_24 : decode cX9_cask 24 = .ok (.ireturn, 1) := by decide +kernel
theorem dX9_cask_25 : decode cX9_cask 25 = .ok (.aload_n 0, 1) := by decide +kernel
theorem dX9_cask_26 : decode cX9_cask 26 = .ok (.iload_n 1, 1) := by decide +kernel
theorem dX9_cask_27 : decode cX9_cask 27 = .ok (.invokevirtual 120, 3) := by decide +kernel
theorem dX9_cask_30 : decode cX9_cask 30 = .ok (.iload_n 2, 1) := by decide +kernel
theorem dX9_cask_31 : decode cX9_cask 31 = .ok (.tableswitch 92 4 8 #[33, 43, 50, 57, 68], 33) := by decide +kernel
theorem dX9_cask_64 : decode cX9_cask 64 = .ok (.aload_n 0, 1) := by decide +kernel
theorem dX9_cask_65 : decode cX9_cask 65 = .ok (.getfield 33, 3) := by decide +kernel
theorem dX9_cask_68 : decode cX9_cask 68 = .ok (.aload_n 0, 1) := by decide +kernel
theorem dX9_cask_69 : decode cX9_cask 69 = .ok (.getfield 109, 3) := by decide +kernel
theorem dX9_cask_72 : decode cX9_cask 72 = .ok (.iaload, 1) := by decide +kernel
theorem dX9_cask_73 : decode cX9_cask 73 = .ok (.ireturn, 1) := by decide +kernel
theorem dX9_cask_74 : decode cX9_cask 74 = .ok (.aload_n 0, 1) := by decide +kernel
theorem dX9_cask_75 : decode cX9_cask 75 = .ok (.iload_n 1, 1) := by decide +kernel
theorem dX9_cask_76 : decode cX9_cask 76 = .ok (.iconst 4, 1) := by decide +kernel
theorem dX9_cask_77 : decode cX9_cask 77 = .ok (.invokevirtual 103, 3) := by decide +kernel
theorem dX9_cask_80 : decode cX9_cask 80 = .ok (.ireturn, 1) := by decide +kernel
theorem dX9_cask_81 : decode cX9_cask 81 = .ok (.aload_n 0, 1) := by decide +kernel
theorem dX9_cask_82 : decode cX9_cask 82 = .ok (.iload_n 1, 1) := by decide +kernel
theorem dX9_cask_83 : decode cX9_cask 83 = .ok (.iconst 5, 1) := by decide +kernel
theorem dX9_cask_84 : decode cX9_cask 84 = .ok (.invokevirtual 103, 3) := by decide +kernel
theorem dX9_cask_87 : decode cX9_cask 87 = .ok (.ireturn, 1) := by decide +kernel
theorem dX9_cask_88 : decode cX9_cask 88 = .ok (.aload_n 0, 1) := by decide +kernel
theorem dX9_cask_89 : decode cX9_cask 89 = .ok (.aload_n 0, 1) := by decide +kernel
theorem dX9_cask_90 : decode cX9_cask 90 = .ok (.iload_n 1, 1) := by decide +kernel
theorem dX9_cask_91 : decode cX9_cask 91 = .ok (.iconst 4, 1) := by decide +kernel
theorem dX9_cask_92 : decode cX9_cask 92 = .ok (.invokevirtual 103, 3) := by decide +kernel
theorem dX9_cask_95 : decode cX9_cask 95 = .ok (.invokevirtual 137, 3) := by decide +kernel
theorem dX9_cask_98 : decode cX9_cask 98 = .ok (.ireturn, 1) := by decide +kernel
theorem dX9_cask_99 : decode cX9_cask 99 = .ok (.aload_n 0, 1) := by decide +kernel
theorem dX9_cask_100 : decode cX9_cask 100 = .ok (.iload_n 1, 1) := by decide +kernel
theorem dX9_cask_101 : decode cX9_cask 101 = .ok (.iconst 4, 1) := by decide +kernel
theorem dX9_cask_102 : decode cX9_cask 102 = .ok (.invokevirtual 103, 3) := by decide +kernel
theorem dX9_cask_105 : decode cX9_cask 105 = .ok (.ifCond .ne 8, 3) := by decide +kernel
theorem dX9_cask_108 : decode cX9_cask 108 = .ok (.bipush (-9), 2) := by decide +kernel
theorem dX9_cask_110 : decode cX9_cask 110 = .ok (.goto 12, 3) := by decide +kernel
theorem dX9_cask_113 : decode cX9_cask 113 = .ok (.ldc 140, 2) := by decide +kernel
theorem dX9_cask_115 : decode cX9_cask 115 = .ok (.aload_n 0, 1) := by decide +kernel
theorem dX9_cask_116 : decode cX9_cask 116 = .ok (.iload_n 1, 1) := by decide +kernel
theorem dX9_cask_117 : decode cX9_cask 117 = .ok (.invokevirtual 141, 3) := by decide +kernel
theorem dX9_cask_120 : decode cX9_cask 120 = .ok (.fmul, 1) := by decide +kernel
theorem dX9_cask_121 : decode cX9_cask 121 = .ok (.f2i, 1) := by decide +kernel
theorem dX9_cask_122 : decode cX9_cask 122 = .ok (.ireturn, 1) := by decide +kernel
theorem dX9_cask_123 : decode cX9_cask 123 = .ok (.aload_n 0, 1) := by decide +kernel
theorem dX9_cask_124 : decode cX9_cask 124 = .ok (.iload_n 1, 1) := by decide +kernel
theorem dX9_cask_125 : decode cX9_cask 125 = .ok (.iload_n 2, 1) := by decide +kernel
theorem dX9_cask_126 : decode cX9_cask 126 = .ok (.invokevirtual 103, 3) := by decide +kernel
theorem dX9_cask_129 : decode cX9_cask 129 = .ok (.ireturn, 1) := by decide +kernel
theorem dX9_slice_0 : decode cX9_slice 0 = .ok (.aload_n 0, 1) := by decide +kernel
theorem dX9_slice_1 : decode cX9_slice 1 = .ok (.iconst 0, 1) := by decide +kernel
theorem dX9_slice_2 : decode cX9_slice 2 = .ok (.putfield 39, 3) := by decide +kernel
theorem dX9_slice_5 : decode cX9_slice 5 = .ok (.aload_n 0, 1) := by decide +kernel
theorem dX9_slice_6 : decode cX9_slice 6 = .ok (.iload_n 1, 1) := by decide +kernel
theorem dX9_slice_7 : decode cX9_slice 7 = .ok (.invokevirtual 127, 3) := by decide +kernel
theorem dX9_slice_10 : decode cX9_slice 10 = .ok (.ifCond .eq 37, 3) := by decide +kernel
theorem dX9_slice_13 : decode cX9_slice 13 = .ok (.iload_n 2, 1) := by decide +kernel
theorem dX9_slice_14 : decode cX9_slice 14 = .ok (.iconst 0, 1) := by decide +kernel
theorem dX9_slice_15 : decode cX9_slice 15 = .ok (.aload_n 0, 1) := by decide +kernel
theorem dX9_slice_16 : decode cX9_slice 16 = .ok (.iload_n 1, 1) := by decide +kernel
theorem dX9_slice_17 : decode cX9_slice 17 = .ok (.iconst 0, 1) := by decide +kernel
theorem dX9_slice_18 : decode cX9_slice 18 = .ok (.invokevirtual 103, 3) := by decide +kernel
theorem dX9_slice_21 : decode cX9_slice 21 = .ok (.iconst 1, 1) := by decide +kernel
theorem dX9_slice_22 : decode cX9_slice 22 = .ok (.isub, 1) := by decide +kernel
theorem dX9_slice_23 : decode cX9_slice 23 = .ok (.invokestatic 43, 3) := by decide +kernel
theorem dX9_slice_26 : decode cX9_slice 26 = .ok (.ifCond .eq 21, 3) := by decide +kernel
theorem dX9_slice_29 : decode cX9_slice 29 = .ok (.iload_n 3, 1) := by decide +kernel
theorem dX9_slice_30 : decode cX9_slice 30 = .ok (.iconst (-1), 1) := by decide +kernel
theorem dX9_slice_31 : decode cX9_slice 31 = .ok (.iconst 2, 1) := by decide +kernel
theorem dX9_slice_32 : decode cX9_slice 32 = .ok (.aload_n 0, 1) := by decide +kernel
theorem dX9_slice_33 : decode cX9_slice 33 = .ok (.iload_n 1, 1) := by decide +kernel
theorem dX9_slice_34 : decode cX9_slice 34 = .ok (.iconst 2, 1) := by decide +kernel
theorem dX9_slice_35 : decode cX9_slice 35 = .ok (.invokevirtual 103, 3) := by decide +kernel
theorem dX9_slice_38 : decode cX9_slice 38 = .ok (.imul, 1) := by decide +kernel
theorem dX9_slice_39 : decode cX9_slice 39 = .ok (.iconst 1, 1) := by decide +kernel
theorem dX9_slice_40 : decode cX9_slice 40 = .ok (.isub, 1) := by decide +kernel
theorem dX9_slice_41 : decode cX9_slice 41 = .ok (.invokestatic 43, 3) := by decide +kernel
theorem dX9_slice_44 : decode cX9_slice 44 = .ok (.ifCond .ne 5, 3) := by decide +kernel
theorem dX9_slice_47 : decode cX9_slice 47 = .ok (.iconst (-1), 1) := by decide +kernel
theorem dX9_slice_48 : decode cX9_slice 48 = .ok (.ireturn, 1) := by decide +kernel
theorem dX9_slice_49 : decode cX9_slice 49 = .ok (.iload_n 3, 1) := by decide +kernel
theorem dX9_slice_50 : decode cX9_slice 50 = .ok (.iconst (-1), 1) := by decide +kernel
theorem dX9_slice_51 : decode cX9_slice 51 = .ok (.if_icmp .ne 12, 3) := by decide +kernel
theorem dX9_slice_54 : decode cX9_slice 54 = .ok (.aload_n 0, 1) := by decide +kernel
theorem dX9_slice_55 : decode cX9_slice 55 = .ok (.iload_n 1, 1) := by decide +kernel
theorem dX9_slice_56 : decode cX9_slice 56 = .ok (.iload_n 2, 1) := by decide +kernel
theorem dX9_slice_57 : decode cX9_slice 57 = .ok (.invokevirtual 106, 3) := by decide +kernel
theorem dX9_slice_60 : decode cX9_slice 60 = .ok (.goto 10, 3) := by decide +kernel
theorem dX9_slice_63 : decode cX9_slice 63 = .ok (.aload_n 0, 1) := by decide +kernel
theorem dX9_slice_64 : decode cX9_slice 64 = .ok (.iload_n 1, 1) := by decide +kernel
theorem dX9_slice_65 : decode cX9_slice 65 = .ok (.iload_n 2, 1) := by decide +kernel
theorem dX9_slice_66 : decode cX9_slice 66 = .ok (.iload_n 3, 1) := by decide +kernel
theorem dX9_slice_67 : decode cX9_slice 67 = .ok (.invokevirtual 112, 3) := by decide +kernel
theorem dX9_slice_70 : decode cX9_slice 70 = .ok (.ireturn, 1) := by decide +kernel
theorem dX9_isHeight_0 : decode cX9_isHeight 0 = .ok (.aload_n 0, 1) := by decide +kernel
theorem dX9_isHeight_1 : decode cX9_isHeight 1 = .ok (.iload_n 1, 1) := by decide +kernel
theorem dX9_isHeight_2 : decode cX9_isHeight 2 = .ok (.invokevirtual 127, 3) := by decide +kernel
theorem dX9_isHeight_5 : decode cX9_isHeight 5 = .ok (.ifCond .ne 5, 3) := by decide +kernel
theorem dX9_isHeight_8 : decode cX9_isHeight 8 = .ok (.iconst 0, 1) := by decide +kernel
theorem dX9_isHeight_9 : decode cX9_isHeight 9 = .ok (.ireturn, 1) := by decide +kernel
theorem dX9_isHeight_10 : decode cX9_isHeight 10 = .ok (.aload_n 0, 1) := by decide +kernel
theorem dX9_isHeight_11 : decode cX9_isHeight 11 = .ok (.iload_n 1, 1) := by decide +kernel
theorem dX9_isHeight_12 : decode cX9_isHeight 12 = .ok (.invokevirtual 120, 3) := by decide +kernel
theorem dX9_isHeight_15 : decode cX9_isHeight 15 = .ok (.iload_n 2, 1) := by decide +kernel
theorem dX9_isHeight_16 : decode cX9_isHeight 16 = .ok (.iconst 0, 1) := by decide +kernel
theorem dX9_isHeight_17 : decode cX9_isHeight 17 = .ok (.aload_n 0, 1) := by decide +kernel
theorem dX9_isHeight_18 : decode cX9_isHeight 18 = .ok (.getfield 109, 3) := by decide +kernel
theorem dX9_isHeight_21 : decode cX9_isHeight 21 = .ok (.invokestatic 43, 3) := by decide +kernel
theorem dX9_isHeight_24 : decode cX9_isHeight 24 = .ok (.ireturn, 1) := by decide +kernel
theorem dX9_under_0 : decode cX9_under 0 = .ok (.aload_n 0, 1) := by decide +kernel
theorem dX9_under_1 : decode cX9_under 1 = .ok (.iconst 0, 1) := by decide +kernel
theorem dX9_under_2 : decode cX9_under 2 = .ok (.putfield 39, 3) := by decide +kernel
theorem dX9_under_5 : decode cX9_under 5 = .ok (.aload_n 0, 1) := by decide +kernel
theorem dX9_under_6 : decode cX9_under 6 = .ok (.iload_n 1, 1) := by decide +kernel
theorem dX9_under_7 : decode cX9_under 7 = .ok (.iload_n 2, 1) := by decide +kernel
theorem dX9_under_8 : decode cX9_under 8 = .ok (.invokevirtual 145, 3) := by decide +kernel
theorem dX9_under_11 : decode cX9_under 11 = .ok (.ifCond .eq 12, 3) := by decide +kernel
theorem dX9_under_14 : decode cX9_under 14 = .ok (.aload_n 0, 1) := by decide +kernel
theorem dX9_under_15 : decode cX9_under 15 = .ok (.getfield 33, 3) := by decide +kernel
theorem dX9_under_18 : decode cX9_under 18 = .ok (.iload_n 2, 1) := by decide +kernel
theorem dX9_under_19 : decode cX9_under 19 = .ok (.iaload, 1) := by decide +kernel
theorem dX9_under_20 : decode cX9_under 20 = .ok (.goto 4, 3) := by decide +kernel
theorem dX9_under_23 : decode cX9_under 23 = .ok (.iconst (-1), 1) := by decide +kernel
theorem dX9_under_24 : decode cX9_under 24 = .ok (.ireturn, 1) := by decide +kernel
theorem dX9_dip_0 : decode cX9_dip 0 = .ok (.aload_n 0, 1) := by decide +kernel
theorem dX9_dip_1 : decode cX9_dip 1 = .ok (.iconst 0, 1) := by decide +kernel
theorem dX9_dip_2 : decode cX9_dip 2 = .ok (.putfield 39, 3) := by decide +kernel
theorem dX9_dip_5 : decode cX9_dip 5 = .ok (.aload_n 0, 1) := by decide +kernel
theorem dX9_dip_6 : decode cX9_dip 6 = .ok (.iload_n 1, 1) := by decide +kernel
theorem dX9_dip_7 : decode cX9_dip 7 = .ok (.invokevirtual 127, 3) := by decide +kernel
theorem dX9_dip_10 : decode cX9_dip 10 = .ok (.ifCond .eq 24, 3) := by decide +kernel
theorem dX9_dip_13 : decode cX9_dip 13 = .ok (.iload_n 2, 1) := by decide +kernel
theorem dX9_dip_14 : decode cX9_dip 14 = .ok (.iconst 0, 1) := by decide +kernel
theorem dX9_dip_15 : decode cX9_dip 15 = .ok (.aload_n 0, 1) := by decide +kernel
theorem dX9_dip_16 : decode cX9_dip 16 = .ok (.iload_n 1, 1) := by decide +kernel
theorem dX9_dip_17 : decode cX9_dip 17 = .ok (.invokevirtual 131, 3) := by decide +kernel
theorem dX9_dip_20 : decode cX9_dip 20 = .ok (.invokestatic 43, 3) := by decide +kernel
theorem dX9_dip_23 : decode cX9_dip 23 = .ok (.ifCond .eq 11, 3) := by decide +kernel
theorem dX9_dip_26 : decode cX9_dip 26 = .ok (.aload_n 0, 1) := by decide +kernel
theorem dX9_dip_27 : decode cX9_dip 27 = .ok (.iload_n 2, 1) := by decide +kernel
theorem dX9_dip_28 : decode cX9_dip 28 = .ok (.invokevirtual 137, 3) := by decide +kernel
theorem dX9_dip_31 : decode cX9_dip 31 = .ok (.goto 4, 3) := by decide +kernel
theorem dX9_dip_34 : decode cX9_dip 34 = .ok (.iconst (-1), 1) := by decide +kernel
theorem dX9_dip_35 : decode cX9_dip 35 = .ok (.ireturn, 1) := by decide +kernel
theorem dX9_stick_0 : decode cX9_stick 0 = .ok (.aload_n 0, 1) := by decide +kernel
theorem dX9_stick_1 : decode cX9_stick 1 = .ok (.iconst 0, 1) := by decide +kernel
theorem dX9_stick_2 : decode cX9_stick 2 = .ok (.putfield 39, 3) := by decide +kernel
theorem dX9_stick_5 : decode cX9_stick 5 = .ok (.aload_n 0, 1) := by decide +kernel
theorem dX9_stick_6 : decode cX9_stick 6 = .ok (.iload_n 1, 1) := by decide +kernel
theorem dX9_stick_7 : decode cX9_stick 7 = .ok (.invokevirtual 127, 3) := by decide +kernel
theorem dX9_stick_10 : decode cX9_stick 10 = .ok (.ifCond .eq 22, 3) := by decide +kernel
theorem dX9_stick_13 : decode cX9_stick 13 = .ok (.iload_n 2, 1) := by decide +kernel
theorem dX9_stick_14 : decode cX9_stick 14 = .ok (.iconst 2, 1) := by decide +kernel
theorem dX9_stick_15 : decode cX9_stick 15 = .ok (.bipush 9, 2) := by decide +kernel
theorem dX9_stick_17 : decode cX9_stick 17 = .ok (.invokestatic 43, 3) := by decide +kernel
theorem dX9_stick_20 : decode cX9_stick 20 = .ok (.ifCond .eq 12, 3) := by decide +kernel
theorem dX9_stick_23 : decode cX9_stick 23 = .ok (.iload_n 3, 1) := by decide +kernel
theorem dX9_stick_24 : decode cX9_stick 24 = .ok (.iconst 1, 1) := by decide +kernel
theorem dX9_stick_25 : decode cX9_stick 25 = .ok (.iload_n 2, 1) := by decide +kernel
theorem dX9_stick_26 : decode cX9_stick 26 = .ok (.invokestatic 43, 3) := by decide +kernel
theorem dX9_stick_29 : decode cX9_stick 29 = .ok (.ifCond .ne 5, 3) := by decide +kernel
theorem dX9_stick_32 : decode cX9_stick 32 = .ok (.iconst (-1), 1) := by decide +kernel
theorem dX9_stick_33 : decode cX9_stick 33 = .ok (.ireturn, 1) := by decide +kernel
theorem dX9_stick_34 : decode cX9_stick 34 = .ok (.aload_n 0, 1) := by decide +kernel
theorem dX9_stick_35 : decode cX9_stick 35 = .ok (.iload_n 1, 1) := by decide +kernel
theorem dX9_stick_36 : decode cX9_stick 36 = .ok (.invokevirtual 131, 3) := by decide +kernel
theorem dX9_stick_39 : decode cX9_stick 39 = .ok (.iload_n 3, 1) := by decide +kernel
theorem dX9_stick_40 : decode cX9_stick 40 = .ok (.imul, 1) := by decide +kernel
theorem dX9_stick_41 : decode cX9_stick 41 = .ok (.istore 4, 2) := by decide +kernel
theorem dX9_stick_43 : decode cX9_stick 43 = .ok (.iconst 0, 1) := by decide +kernel
theorem dX9_stick_44 : decode cX9_stick 44 = .ok (.istore 5, 2) := by decide +kernel
theorem dX9_stick_46 : decode cX9_stick 46 = .ok (.aload_n 0, 1) := by decide +kernel
theorem dX9_stick_47 : decode cX9_stick 47 = .ok (.getfield 33, 3) := by decide +kernel
theorem dX9_stick_50 : decode cX9_stick 50 = .ok (.iload 5, 2) := by decide +kernel
theorem dX9_stick_52 : decode cX9_stick 52 = .ok (.iaload, 1) := by decide +kernel
theorem dX9_stick_53 : decode cX9_stick 53 = .ok (.iload_n 2, 1) := by decide +kernel
theorem dX9_stick_54 : decode cX9_stick 54 = .ok (.imul, 1) := by decide +kernel
theorem dX9_stick_55 : decode cX9_stick 55 = .ok (.iload 4, 2) := by decide +kernel
theorem dX9_stick_57 : decode cX9_stick 57 = .ok (.if_icmp .ge 9, 3) := by decide +kernel
theorem dX9_stick_60 : decode cX9_stick 60 = .ok (.iinc 5 1, 3) := by decide +kernel
theorem dX9_stick_63 : decode cX9_stick 63 = .ok (.goto (-17), 3) := by decide +kernel
theorem dX9_stick_66 : decode cX9_stick 66 = .ok (.iload 5, 2) := by decide +kernel
theorem dX9_stick_68 : decode cX9_stick 68 = .ok (.ireturn, 1) := by decide +kernel
theorem dX9_known_0 : decode cX9_known 0 = .ok (.aload_n 0, 1) := by decide +kernel
theorem dX9_known_1 : decode cX9_known 1 = .ok (.iconst 0, 1) := by decide +kernel
theorem dX9_known_2 : decode cX9_known 2 = .ok (.putfield 39, 3) := by decide +kernel
theorem dX9_known_5 : decode cX9_known 5 = .ok (.aload_n 0, 1) := by decide +kernel
theorem dX9_known_6 : decode cX9_known 6 = .ok (.iload_n 1, 1) := by decide +kernel
theorem dX9_known_7 : decode cX9_known 7 = .ok (.iload_n 2, 1) := by decide +kernel
theorem dX9_known_8 : decode cX9_known 8 = .ok (.invokevirtual 145, 3) := by decide +kernel
theorem dX9_known_11 : decode cX9_known 11 = .ok (.ifCond .eq 12, 3) := by decide +kernel
theorem dX9_known_14 : decode cX9_known 14 = .ok (.iload_n 3, 1) := by decide +kernel
theorem dX9_known_15 : decode cX9_known 15 = .ok (.iconst 0, 1) := by decide +kernel
theorem dX9_known_16 : decode cX9_known 16 = .ok (.iconst 1, 1) := by decide +kernel
theorem dX9_known_17 : decode cX9_known 17 = .ok (.invokestatic 43, 3) := by decide +kernel
theorem dX9_known_20 : decode cX9_known 20 = .ok (.ifCond .ne 5, 3) := by decide +kernel
theorem dX9_known_23 : decode cX9_known 23 = .ok (.iconst (-1), 1) := by decide +kernel
theorem dX9_known_24 : decode cX9_known 24 = .ok (.ireturn, 1) := by decide +kernel
theorem dX9_known_25 : decode cX9_known 25 = .ok (.iload_n 2, 1) := by decide +kernel
theorem dX9_known_26 : decode cX9_known 26 = .ok (.ifCond .ne 7, 3) := by decide +kernel
theorem dX9_known_29 : decode cX9_known 29 = .ok (.iconst 0, 1) := by decide +kernel
theorem dX9_known_30 : decode cX9_known 30 = .ok (.goto 13, 3) := by decide +kernel
theorem dX9_known_33 : decode cX9_known 33 = .ok (.aload_n 0, 1) := by decide +kernel
theorem dX9_known_34 : decode cX9_known 34 = .ok (.getfield 33, 3) := by decide +kernel
theorem dX9_known_37 : decode cX9_known 37 = .ok (.iload_n 2, 1) := by decide +kernel
theorem dX9_known_38 : decode cX9_known 38 = .ok (.iconst 1, 1) := by decide +kernel
theorem dX9_known_39 : decode cX9_known 39 = .ok (.isub, 1) := by decide +kernel
theorem dX9_known_40 : decode cX9_known 40 = .ok (.iaload, 1) := by decide +kernel
theorem dX9_known_41 : decode cX9_known 41 = .ok (.iconst 1, 1) := by decide +kernel
theorem dX9_known_42 : decode cX9_known 42 = .ok (.iadd, 1) := by decide +kernel
theorem dX9_known_43 : decode cX9_known 43 = .ok (.istore 4, 2) := by decide +kernel
theorem dX9_known_45 : decode cX9_known 45 = .ok (.iload 4, 2) := by decide +kernel
theorem dX9_known_47 : decode cX9_known 47 = .ok (.aload_n 0, 1) := by decide +kernel
theorem dX9_known_48 : decode cX9_known 48 = .ok (.getfield 33, 3) := by decide +kernel
theorem dX9_known_51 : decode cX9_known 51 = .ok (.iload_n 2, 1) := by decide +kernel
theorem dX9_known_52 : decode cX9_known 52 = .ok (.iaload, 1) := by decide +kernel
theorem dX9_known_53 : decode cX9_known 53 = .ok (.if_icmp .le 8, 3) := by decide +kernel
theorem dX9_known_56 : decode cX9_known 56 = .ok (.bipush (-9), 2) := by decide +kernel
theorem dX9_known_58 : decode cX9_known 58 = .ok (.goto 18, 3) := by decide +kernel
theorem dX9_known_61 : decode cX9_known 61 = .ok (.iload_n 3, 1) := by decide +kernel
theorem dX9_known_62 : decode cX9_known 62 = .ok (.ifCond .ne 8, 3) := by decide +kernel
theorem dX9_known_65 : decode cX9_known 65 = .ok (.iload 4, 2) := by decide +kernel
theorem dX9_known_67 : decode cX9_known 67 = .ok (.goto 9, 3) := by decide +kernel
theorem dX9_known_70 : decode cX9_known 70 = .ok (.aload_n 0, 1) := by decide +kernel
theorem dX9_known_71 : decode cX9_known 71 = .ok (.getfield 33, 3) := by decide +kernel
theorem dX9_known_74 : decode cX9_known 74 = .ok (.iload_n 2, 1) := by decide +kernel
theorem dX9_known_75 : decode cX9_known 75 = .ok (.iaload, 1) := by decide +kernel
theorem dX9_known_76 : decode cX9_known 76 = .ok (.ireturn, 1) := by decide +kernel
theorem dX9_mostBy_0 : decode cX9_mostBy 0 = .ok (.aload_n 0, 1) := by decide +kernel
theorem dX9_mostBy_1 : decode cX9_mostBy 1 = .ok (.iload_n 1, 1) := by decide +kernel
theorem dX9_mostBy_2 : decode cX9_mostBy 2 = .ok (.aload_n 0, 1) := by decide +kernel
theorem dX9_mostBy_3 : decode cX9_mostBy 3 = .ok (.getfield 33, 3) := by decide +kernel
theorem dX9_mostBy_6 : decode cX9_mostBy 6 = .ok (.iload_n 2, 1) := by decide +kernel
theorem dX9_mostBy_7 : decode cX9_mostBy 7 = .ok (.iaload, 1) := by decide +kernel
theorem dX9_mostBy_8 : decode cX9_mostBy 8 = .ok (.if_icmp .le 14, 3) := by decide +kernel
theorem dX9_mostBy_11 : decode cX9_mostBy 11 = .ok (.iload_n 1, 1) := by decide +kernel
theorem dX9_mostBy_12 : decode cX9_mostBy 12 = .ok (.aload_n 0, 1) := by decide +kernel
theorem dX9_mostBy_13 : decode cX9_mostBy 13 = .ok (.getfield 33, 3) := by decide +kernel
theorem dX9_mostBy_16 : decode cX9_mostBy 16 = .ok (.iload_n 2, 1) := by decide +kernel
theorem dX9_mostBy_17 : decode cX9_mostBy 17 = .ok (.iaload, 1) := by decide +kernel
theorem dX9_mostBy_18 : decode cX9_mostBy 18 = .ok (.isub, 1) := by decide +kernel
theorem dX9_mostBy_19 : decode cX9_mostBy 19 = .ok (.goto 4, 3) := by decide +kernel
theorem dX9_mostBy_22 : decode cX9_mostBy 22 = .ok (.iconst 0, 1) := by decide +kernel
theorem dX9_mostBy_23 : decode cX9_mostBy 23 = .ok (.putfield 149, 3) := by decide +kernel
theorem dX9_mostBy_26 : decode cX9_mostBy 26 = .ok (.aload_n 0, 1) := by decide +kernel
theorem dX9_mostBy_27 : decode cX9_mostBy 27 = .ok (.aload_n 0, 1) := by decide +kernel
theorem dX9_mostBy_28 : decode cX9_mostBy 28 = .ok (.getfield 33, 3) := by decide +kernel
theorem dX9_mostBy_31 : decode cX9_mostBy 31 = .ok (.iload_n 3, 1) := by decide +kernel
theorem dX9_mostBy_32 : decode cX9_mostBy 32 = .ok (.iaload, 1) := by decide +kernel
theorem dX9_mostBy_33 : decode cX9_mostBy 33 = .ok (.iload_n 1, 1) := by decide +kernel
theorem dX9_mostBy_34 : decode cX9_mostBy 34 = .ok (.if_icmp .ge 12, 3) := by decide +kernel
theorem dX9_mostBy_37 : decode cX9_mostBy 37 = .ok (.aload_n 0, 1) := by decide +kernel
theorem dX9_mostBy_38 : decode cX9_mostBy 38 = .ok (.getfield 33, 3) := by decide +kernel
theorem dX9_mostBy_41 : decode cX9_mostBy 41 = .ok (.iload_n 3, 1) := by decide +kernel
theorem dX9_mostBy_42 : decode cX9_mostBy 42 = .ok (.iaload, 1) := by decide +kernel
theorem dX9_mostBy_43 : decode cX9_mostBy 43 = .ok (.goto 4, 3) := by decide +kernel
theorem dX9_mostBy_46 : decode cX9_mostBy 46 = .ok (.iload_n 1, 1) := by decide +kernel
theorem dX9_mostBy_47 : decode cX9_mostBy 47 = .ok (.putfield 152, 3) := by decide +kernel
theorem dX9_mostBy_50 : decode cX9_mostBy 50 = .ok (.iload_n 1, 1) := by decide +kernel
theorem dX9_mostBy_51 : decode cX9_mostBy 51 = .ok (.aload_n 0, 1) := by decide +kernel
theorem dX9_mostBy_52 : decode cX9_mostBy 52 = .ok (.getfield 149, 3) := by decide +kernel
theorem dX9_mostBy_55 : decode cX9_mostBy 55 = .ok (.isub, 1) := by decide +kernel
theorem dX9_mostBy_56 : decode cX9_mostBy 56 = .ok (.aload_n 0, 1) := by decide +kernel
theorem dX9_mostBy_57 : decode cX9_mostBy 57 = .ok (.getfield 152, 3) := by decide +kernel
theorem dX9_mostBy_60 : decode cX9_mostBy 60 = .ok (.isub, 1) := by decide +kernel
theorem dX9_mostBy_61 : decode cX9_mostBy 61 = .ok (.istore 4, 2) := by decide +kernel
theorem dX9_mostBy_63 : decode cX9_mostBy 63 = .ok (.aload_n 0, 1) := by decide +kernel
theorem dX9_mostBy_64 : decode cX9_mostBy 64 = .ok (.getfield 149, 3) := by decide +kernel
theorem dX9_mostBy_67 : decode cX9_mostBy 67 = .ok (.aload_n 0, 1) := by decide +kernel
theorem dX9_mostBy_68 : decode cX9_mostBy 68 = .ok (.getfield 152, 3) := by decide +kernel
theorem dX9_mostBy_71 : decode cX9_mostBy 71 = .ok (.if_icmp .le 10, 3) := by decide +kernel
theorem dX9_mostBy_74 : decode cX9_mostBy 74 = .ok (.aload_n 0, 1) := by decide +kernel
theorem dX9_mostBy_75 : decode cX9_mostBy 75 = .ok (.getfield 149, 3) := by decide +kernel
theorem dX9_mostBy_78 : decode cX9_mostBy 78 = .ok (.goto 7, 3) := by decide +kernel
theorem dX9_mostBy_81 : decode cX9_mostBy 81 = .ok (.aload_n 0, 1) := by decide +kernel
theorem dX9_mostBy_82 : decode cX9_mostBy 82 = .ok (.getfield 152, 3) := by decide +kernel
theorem dX9_mostBy_85 : decode cX9_mostBy 85 = .ok (.istore 5, 2) := by decide +kernel
theorem dX9_mostBy_87 : decode cX9_mostBy 87 = .ok (.iload 4, 2) := by decide +kernel
theorem dX9_mostBy_89 : decode cX9_mostBy 89 = .ok (.iload 5, 2) := by decide +kernel
theorem dX9_mostBy_91 : decode cX9_mostBy 91 = .ok (.if_icmp .le 8, 3) := by decide +kernel
theorem dX9_mostBy_94 : decode cX9_mostBy 94 = .ok (.iload 4, 2) := by decide +kernel
theorem dX9_mostBy_96 : decode cX9_mostBy 96 = .ok (.goto 5, 3) := by decide +kernel
theorem dX9_mostBy_99 : decode cX9_mostBy 99 = .ok (.iload 5, 2) := by decide +kernel
theorem dX9_mostBy_101 : decode cX9_mostBy 101 = .ok (.ireturn, 1) := by decide +kernel
theorem dX9_shares_0 : decode cX9_shares 0 = .ok (.aload_n 0, 1) := by decide +kernel
theorem dX9_shares_1 : decode cX9_shares 1 = .ok (.iconst 0, 1) := by decide +kernel
theorem dX9_shares_2 : decode cX9_shares 2 = .ok (.putfield 39, 3) := by decide +kernel
theorem dX9_shares_5 : decode cX9_shares 5 = .ok (.aload_n 0, 1) := by decide +kernel
theorem dX9_shares_6 : decode cX9_shares 6 = .ok (.iload_n 1, 1) := by decide +kernel
theorem dX9_shares_7 : decode cX9_shares 7 = .ok (.invokevirtual 127, 3) := by decide +kernel
theorem dX9_shares_10 : decode cX9_shares 10 = .ok (.ifCond .eq 31, 3) := by decide +kernel
theorem dX9_shares_13 : decode cX9_shares 13 = .ok (.iload_n 2, 1) := by decide +kernel
theorem dX9_shares_14 : decode cX9_shares 14 = .ok (.iconst 2, 1) := by decide +kernel
theorem dX9_shares_15 : decode cX9_shares 15 = .ok (.iconst 3, 1) := by decide +kernel
theorem dX9_shares_16 : decode cX9_shares 16 = .ok (.invokestatic 43, 3) := by decide +kernel
theorem dX9_shares_19 : decode cX9_shares 19 = .ok (.ifCond .eq 22, 3) := by decide +kernel
theorem dX9_shares_22 : decode cX9_shares 22 = .ok (.iload_n 3, 1) := by decide +kernel
theorem dX9_shares_23 : decode cX9_shares 23 = .ok (.iconst (-1), 1) := by decide +kernel
theorem dX9_shares_24 : decode cX9_shares 24 = .ok (.iconst 3, 1) := by decide +kernel
theorem dX9_shares_25 : decode cX9_shares 25 = .ok (.invokestatic 43, 3) := by decide +kernel
theorem dX9_shares_28 : decode cX9_shares 28 = .ok (.ifCond .eq 13, 3) := by decide +kernel
theorem dX9_shares_31 : decode cX9_shares 31 = .ok (.iload_n 2, 1) := by decide +kernel
theorem dX9_shares_32 : decode cX9_shares 32 = .ok (.iconst 2, 1) := by decide +kernel
theorem dX9_shares_33 : decode cX9_shares 33 = .ok (.if_icmp .ne 10, 3) := by decide +kernel
theorem dX9_shares_36 : decode cX9_shares 36 = .ok (.iload_n 3, 1) := by decide +kernel
theorem dX9_shares_37 : decode cX9_shares 37 = .ok (.iconst 1, 1) := by decide +kernel
theorem dX9_shares_38 : decode cX9_shares 38 = .ok (.if_icmp .ne 5, 3) := by decide +kernel
theorem dX9_shares_41 : decode cX9_shares 41 = .ok (.iconst (-1), 1) := by decide +kernel
theorem dX9_shares_42 : decode cX9_shares 42 = .ok (.ireturn, 1) := by decide +kernel
theorem dX9_shares_43 : decode cX9_shares 43 = .ok (.aload_n 0, 1) := by decide +kernel
theorem dX9_shares_44 : decode cX9_shares 44 = .ok (.iload_n 1, 1) := by decide +kernel
theorem dX9_shares_45 : decode cX9_shares 45 = .ok (.iconst 4, 1) := by decide +kernel
theorem dX9_shares_46 : decode cX9_shares 46 = .ok (.invokevirtual 103, 3) := by decide +kernel
theorem dX9_shares_49 : decode cX9_shares 49 = .ok (.istore 4, 2) := by decide +kernel
theorem dX9_shares_51 : decode cX9_shares 51 = .ok (.iload 4, 2) := by decide +kernel
theorem dX9_shares_53 : decode cX9_shares 53 = .ok (.ifCond .ne 6, 3) := by decide +kernel
theorem dX9_shares_56 : decode cX9_shares 56 = .ok (.bipush (-2), 2) := by decide +kernel
theorem dX9_shares_58 : decode cX9_shares 58 = .ok (.ireturn, 1) := by decide +kernel
theorem dX9_shares_59 : decode cX9_shares 59 = .ok (.aload_n 0, 1) := by decide +kernel
theorem dX9_shares_60 : decode cX9_shares 60 = .ok (.iload_n 1, 1) := by decide +kernel
theorem dX9_shares_61 : decode cX9_shares 61 = .ok (.invokevirtual 120, 3) := by decide +kernel
theorem dX9_shares_64 : decode cX9_shares 64 = .ok (.iload 4, 2) := by decide +kernel
theorem dX9_shares_66 : decode cX9_shares 66 = .ok (.iconst 1, 1) := by decide +kernel
theorem dX9_shares_67 : decode cX9_shares 67 = .ok (.iadd, 1) := by decide +kernel
theorem dX9_shares_68 : decode cX9_shares 68 = .ok (.istore 5, 2) := by decide +kernel
theorem dX9_shares_70 : decode cX9_shares 70 = .ok (.iconst 0, 1) := by decide +kernel
theorem dX9_shares_71 : decode cX9_shares 71 = .ok (.istore 6, 2) := by decide +kernel
theorem dX9_shares_73 : decode cX9_shares 73 = .ok (.iconst 0, 1) := by decide +kernel
theorem dX9_shares_74 : decode cX9_shares 74 = .ok (.istore 7, 2) := by decide +kernel
theorem dX9_shares_76 : decode cX9_shares 76 = .ok (.iconst 0, 1) := by decide +kernel
theorem dX9_shares_77 : decode cX9_shares 77 = .ok (.istore 8, 2) := by decide +kernel
theorem dX9_shares_79 : decode cX9_shares 79 = .ok (.iload 8, 2) := by decide +kernel
theorem dX9_shares_81 : decode cX9_shares 81 = .ok (.aload_n 0, 1) := by decide +kernel
theorem dX9_shares_82 : decode cX9_shares 82 = .ok (.iload 4, 2) := by decide +kernel
theorem dX9_shares_84 : decode cX9_shares 84 = .ok (.invokevirtual 137, 3) := by decide +kernel
theorem dX9_shares_87 : decode cX9_shares 87 = .ok (.if_icmp .gt 66, 3) := by decide +kernel
theorem dX9_shares_90 : decode cX9_shares 90 = .ok (.iload_n 2, 1) := by decide +kernel
theorem dX9_shares_91 : decode cX9_shares 91 = .ok (.iconst 2, 1) := by decide +kernel
theorem dX9_shares_92 : decode cX9_shares 92 = .ok (.if_icmp .ne 8, 3) := by decide +kernel
theorem dX9_shares_95 : decode cX9_shares 95 = .ok (.iload 8, 2) := by decide +kernel
theorem dX9_shares_97 : decode cX9_shares 97 = .ok (.goto 4, 3) := by decide +kernel
theorem dX9_shares_100 : decode cX9_shares 100 = .ok (.iconst 0, 1) := by decide +kernel
theorem dX9_shares_101 : decode cX9_shares 101 = .ok (.istore 9, 2) := by decide +kernel
theorem dX9_shares_103 : decode cX9_shares 103 = .ok (.iload 9, 2) := by decide +kernel
theorem dX9_shares_105 : decode cX9_shares 105 = .ok (.iload 8, 2) := by decide +kernel
theorem dX9_shares_107 : decode cX9_shares 107 = .ok (.if_icmp .gt 40, 3) := by decide +kernel
theorem dX9_shares_110 : decode cX9_shares 110 = .ok (.aload_n 0, 1) := by decide +kernel
theorem dX9_shares_111 : decode cX9_shares 111 = .ok (.iload 4, 2) := by decide +kernel
theorem dX9_shares_113 : decode cX9_shares 113 = .ok (.iload 8, 2) := by decide +kernel
theorem dX9_shares_115 : decode cX9_shares 115 = .ok (.iload 9, 2) := by decide +kernel
theorem dX9_shares_117 : decode cX9_shares 117 = .ok (.invokevirtual 155, 3) := by decide +kernel
theorem dX9_shares_120 : decode cX9_shares 120 = .ok (.istore 10, 2) := by decide +kernel
theorem dX9_shares_122 : decode cX9_shares 122 = .ok (.iload 10, 2) := by decide +kernel
theorem dX9_shares_124 : decode cX9_shares 124 = .ok (.iload 5, 2) := by decide +kernel
theorem dX9_shares_126 : decode cX9_shares 126 = .ok (.if_icmp .ge 15, 3) := by decide +kernel
theorem dX9_shares_129 : decode cX9_shares 129 = .ok (.iload 10, 2) := by decide +kernel
theorem dX9_shares_131 : decode cX9_shares 131 = .ok (.istore 5, 2) := by decide +kernel
theorem dX9_shares_133 : decode cX9_shares 133 = .ok (.iload 8, 2) := by decide +kernel
theorem dX9_shares_135 : decode cX9_shares 135 = .ok (.istore 6, 2) := by decide +kernel
theorem dX9_shares_137 : decode cX9_shares 137 = .ok (.iload 9, 2) := by decide +kernel
theorem dX9_shares_139 : decode cX9_shares 139 = .ok (.istore 7, 2) := by decide +kernel
theorem dX9_shares_141 : decode cX9_shares 141 = .ok (.iinc 9 1, 3) := by decide +kernel
theorem dX9_shares_144 : decode cX9_shares 144 = .ok (.goto (-41), 3) := by decide +kernel
theorem dX9_shares_147 : decode cX9_shares 147 = .ok (.iinc 8 1, 3) := by decide +kernel
theorem dX9_shares_150 : decode cX9_shares 150 = .ok (.goto (-71), 3) := by decide +kernel
theorem dX9_shares_153 : decode cX9_shares 153 = .ok (.aload_n 0, 1) := by decide +kernel
theorem dX9_shares_154 : decode cX9_shares 154 = .ok (.iload 4, 2) := by decide +kernel
theorem dX9_shares_156 : decode cX9_shares 156 = .ok (.iload 6, 2) := by decide +kernel
theorem dX9_shares_158 : decode cX9_shares 158 = .ok (.iload 7, 2) := by decide +kernel
theorem dX9_shares_160 : decode cX9_shares 160 = .ok (.invokevirtual 155, 3) := by decide +kernel
theorem dX9_shares_163 : decode cX9_shares 163 = .ok (.pop, 1) := by decide +kernel
theorem dX9_shares_164 : decode cX9_shares 164 = .ok (.iload_n 3, 1) := by decide +kernel
theorem dX9_shares_165 : decode cX9_shares 165 = .ok (.iconst (-1), 1) := by decide +kernel
theorem dX9_shares_166 : decode cX9_shares 166 = .ok (.if_icmp .ne 8, 3) := by decide +kernel
theorem dX9_shares_169 : decode cX9_shares 169 = .ok (.iload 5, 2) := by decide +kernel
theorem dX9_shares_171 : decode cX9_shares 171 = .ok (.goto 38, 3) := by decide +kernel
theorem dX9_shares_174 : decode cX9_shares 174 = .ok (.iload_n 3, 1) := by decide +kernel
theorem dX9_shares_175 : decode cX9_shares 175 = .ok (.ifCond .ne 8, 3) := by decide +kernel
theorem dX9_shares_178 : decode cX9_shares 178 = .ok (.iload 6, 2) := by decide +kernel
theorem dX9_shares_180 : decode cX9_shares 180 = .ok (.goto 29, 3) := by decide +kernel
theorem dX9_shares_183 : decode cX9_shares 183 = .ok (.iload_n 3, 1) := by decide +kernel
theorem dX9_shares_184 : decode cX9_shares 184 = .ok (.iconst 1, 1) := by decide +kernel
theorem dX9_shares_185 : decode cX9_shares 185 = .ok (.if_icmp .ne 8, 3) := by decide +kernel
theorem dX9_shares_188 : decode cX9_shares 188 = .ok (.iload 7, 2) := by decide +kernel
theorem dX9_shares_190 : decode cX9_shares 190 = .ok (.goto 19, 3) := by decide +kernel
theorem dX9_shares_193 : decode cX9_shares 193 = .ok (.iload_n 3, 1) := by decide +kernel
theorem dX9_shares_194 : decode cX9_shares 194 = .ok (.iconst 2, 1) := by decide +kernel
theorem dX9_shares_195 : decode cX9_shares 195 = .ok (.if_icmp .ne 10, 3) := by decide +kernel
theorem dX9_shares_198 : decode cX9_shares 198 = .ok (.aload_n 0, 1) := by decide +kernel
theorem dX9_shares_199 : decode cX9_shares 199 = .ok (.getfield 149, 3) := by decide +kernel
theorem dX9_shares_202 : decode cX9_shares 202 = .ok (.goto 7, 3) := by decide +kernel
theorem dX9_shares_205 : decode cX9_shares 205 = .ok (.aload_n 0, 1) := by decide +kernel
theorem dX9_shares_206 : decode cX9_shares 206 = .ok (.getfield 152, 3) := by decide +kernel
theorem dX9_shares_209 : decode cX9_shares 209 = .ok (.ireturn, 1) := by decide +kernel
theorem dX9_strongest_0 : decode cX9_strongest 0 = .ok (.bipush (-9), 2) := by decide +kernel
theorem dX9_strongest_2 : decode cX9_strongest 2 = .ok (.istore_n 1, 1) := by decide +kernel
theorem dX9_strongest_3 : decode cX9_strongest 3 = .ok (.iconst 0, 1) := by decide +kernel
theorem dX9_strongest_4 : decode cX9_strongest 4 = .ok (.istore_n 2, 1) := by decide +kernel
theorem dX9_strongest_5 : decode cX9_strongest 5 = .ok (.iload_n 2, 1) := by decide +kernel
theorem dX9_strongest_6 : decode cX9_strongest 6 = .ok (.aload_n 0, 1) := by decide +kernel
theorem dX9_strongest_7 : decode cX9_strongest 7 = .ok (.getfield 7, 3) := by decide +kernel
theorem dX9_strongest_10 : decode cX9_strongest 10 = .ok (.bipush 24, 2) := by decide +kernel
theorem dX9_strongest_12 : decode cX9_strongest 12 = .ok (.iaload, 1) := by decide +kernel
theorem dX9_strongest_13 : decode cX9_strongest 13 = .ok (.if_icmp .ge 40, 3) := by decide +kernel
theorem dX9_strongest_16 : decode cX9_strongest 16 = .ok (.aload_n 0, 1) := by decide +kernel
theorem dX9_strongest_17 : decode cX9_strongest 17 = .ok (.iload_n 2, 1) := by decide +kernel
theorem dX9_strongest_18 : decode cX9_strongest 18 = .ok (.iconst 4, 1) := by decide +kernel
theorem dX9_strongest_19 : decode cX9_strongest 19 = .ok (.invokevirtual 103, 3) := by decide +kernel
theorem dX9_strongest_22 : decode cX9_strongest 22 = .ok (.ifCond .le 25, 3) := by decide +kernel
theorem dX9_strongest_25 : decode cX9_strongest 25 = .ok (.iload_n 1, 1) := by decide +kernel
theorem dX9_strongest_26 : decode cX9_strongest 26 = .ok (.bipush (-9), 2) := by decide +kernel
theorem dX9_strongest_28 : decode cX9_strongest 28 = .ok (.if_icmp .eq 17, 3) := by decide +kernel
theorem dX9_strongest_31 : decode cX9_strongest 31 = .ok (.aload_n 0, 1) := by decide +kernel
theorem dX9_strongest_32 : decode cX9_strongest 32 = .ok (.iload_n 2, 1) := by decide +kernel
theorem dX9_strongest_33 : decode cX9_strongest 33 = .ok (.invokevirtual 141, 3) := by decide +kernel
theorem dX9_strongest_36 : decode cX9_strongest 36 = .ok (.aload_n 0, 1) := by decide +kernel
theorem dX9_strongest_37 : decode cX9_strongest 37 = .ok (.iload_n 1, 1) := by decide +kernel
theorem dX9_strongest_38 : decode cX9_strongest 38 = .ok (.invokevirtual 141, 3) := by decide +kernel
theorem dX9_strongest_41 : decode cX9_strongest 41 = .ok (.fcmp .l, 1) := by decide +kernel
theorem dX9_strongest_42 : decode cX9_strongest 42 = .ok (.ifCond .le 5, 3) := by decide +kernel
theorem dX9_strongest_45 : decode cX9_strongest 45 = .ok (.iload_n 2, 1) := by decide +kernel
theorem dX9_strongest_46 : decode cX9_strongest 46 = .ok (.istore_n 1, 1) := by decide +kernel
theorem dX9_strongest_47 : decode cX9_strongest 47 = .ok (.iinc 2 1, 3) := by decide +kernel
theorem dX9_strongest_50 : decode cX9_strongest 50 = .ok (.goto (-45), 3) := by decide +kernel
theorem dX9_strongest_53 : decode cX9_strongest 53 = .ok (.iload_n 1, 1) := by decide +kernel
theorem dX9_strongest_54 : decode cX9_strongest 54 = .ok (.ireturn, 1) := by decide +kernel
