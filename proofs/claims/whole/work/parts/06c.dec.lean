theorem dX8_pours_0 : decode cX8_pours 0 = .ok (.aload_n 0, 1) := by decide +kernel
theorem dX8_pours_1 : decode cX8_pours 1 = .ok (.getfield 28, 3) := by decide +kernel
theorem dX8_pours_4 : decode cX8_pours 4 = .ok (.iload_n 1, 1) := by decide +kernel
theorem dX8_pours_5 : decode cX8_pours 5 = .ok (.invokevirtual 106, 3) := by decide +kernel
theorem dX8_pours_8 : decode cX8_pours 8 = .ok (.ifCond .eq 24, 3) := by decide +kernel
theorem dX8_pours_11 : decode cX8_pours 11 = .ok (.aload_n 0, 1) := by decide +kernel
theorem dX8_pours_12 : decode cX8_pours 12 = .ok (.getfield 28, 3) := by decide +kernel
theorem dX8_pours_15 : decode cX8_pours 15 = .ok (.iload_n 2, 1) := by decide +kernel
theorem dX8_pours_16 : decode cX8_pours 16 = .ok (.invokevirtual 106, 3) := by decide +kernel
theorem dX8_pours_19 : decode cX8_pours 19 = .ok (.ifCond .eq 13, 3) := by decide +kernel
theorem dX8_pours_22 : decode cX8_pours 22 = .ok (.iload_n 1, 1) := by decide +kernel
theorem dX8_pours_23 : decode cX8_pours 23 = .ok (.iload_n 2, 1) := by decide +kernel
theorem dX8_pours_24 : decode cX8_pours 24 = .ok (.if_icmp .eq 8, 3) := by decide +kernel
theorem dX8_pours_27 : decode cX8_pours 27 = .ok (.iload_n 3, 1) := by decide +kernel
theorem dX8_pours_28 : decode cX8_pours 28 = .ok (.iconst 1, 1) := by decide +kernel
theorem dX8_pours_29 : decode cX8_pours 29 = .ok (.if_icmp .ge 5, 3) := by decide +kernel
theorem dX8_pours_32 : decode cX8_pours 32 = .ok (.iconst (-1), 1) := by decide +kernel
theorem dX8_pours_33 : decode cX8_pours 33 = .ok (.ireturn, 1) := by decide +kernel
theorem dX8_pours_34 : decode cX8_pours 34 = .ok (.iload_n 3, 1) := by decide +kernel
theorem dX8_pours_35 : decode cX8_pours 35 = .ok (.aload_n 0, 1) := by decide +kernel
theorem dX8_pours_36 : decode cX8_pours 36 = .ok (.getfield 28, 3) := by decide +kernel
theorem dX8_pours_39 : decode cX8_pours 39 = .ok (.getfield 113, 3) := by decide +kernel
theorem dX8_pours_42 : decode cX8_pours 42 = .ok (.iload_n 1, 1) := by decide +kernel
theorem dX8_pours_43 : decode cX8_pours 43 = .ok (.aaload, 1) := by decide +kernel
theorem dX8_pours_44 : decode cX8_pours 44 = .ok (.getfield 123, 3) := by decide +kernel
theorem dX8_pours_47 : decode cX8_pours 47 = .ok (.if_icmp .le 6, 3) := by decide +kernel
theorem dX8_pours_50 : decode cX8_pours 50 = .ok (.bipush (-2), 2) := by decide +kernel
theorem dX8_pours_52 : decode cX8_pours 52 = .ok (.ireturn, 1) := by decide +kernel
theorem dX8_pours_53 : decode cX8_pours 53 = .ok (.iload_n 3, 1) := by decide +kernel
theorem dX8_pours_54 : decode cX8_pours 54 = .ok (.aload_n 0, 1) := by decide +kernel
theorem dX8_pours_55 : decode cX8_pours 55 = .ok (.iload_n 2, 1) := by decide +kernel
theorem dX8_pours_56 : decode cX8_pours 56 = .ok (.invokevirtual 109, 3) := by decide +kernel
theorem dX8_pours_59 : decode cX8_pours 59 = .ok (.if_icmp .le 6, 3) := by decide +kernel
theorem dX8_pours_62 : decode cX8_pours 62 = .ok (.bipush (-3), 2) := by decide +kernel
theorem dX8_pours_64 : decode cX8_pours 64 = .ok (.ireturn, 1) := by decide +kernel
theorem dX8_pours_65 : decode cX8_pours 65 = .ok (.aload_n 0, 1) := by decide +kernel
theorem dX8_pours_66 : decode cX8_pours 66 = .ok (.getfield 35, 3) := by decide +kernel
theorem dX8_pours_69 : decode cX8_pours 69 = .ok (.aload_n 0, 1) := by decide +kernel
theorem dX8_pours_70 : decode cX8_pours 70 = .ok (.getfield 28, 3) := by decide +kernel
theorem dX8_pours_73 : decode cX8_pours 73 = .ok (.invokevirtual 93, 3) := by decide +kernel
theorem dX8_pours_76 : decode cX8_pours 76 = .ok (.aload_n 0, 1) := by decide +kernel
theorem dX8_pours_77 : decode cX8_pours 77 = .ok (.getfield 28, 3) := by decide +kernel
theorem dX8_pours_80 : decode cX8_pours 80 = .ok (.getfield 113, 3) := by decide +kernel
theorem dX8_pours_83 : decode cX8_pours 83 = .ok (.iload_n 1, 1) := by decide +kernel
theorem dX8_pours_84 : decode cX8_pours 84 = .ok (.aaload, 1) := by decide +kernel
theorem dX8_pours_85 : decode cX8_pours 85 = .ok (.iload_n 3, 1) := by decide +kernel
theorem dX8_pours_86 : decode cX8_pours 86 = .ok (.invokevirtual 126, 3) := by decide +kernel
theorem dX8_pours_89 : decode cX8_pours 89 = .ok (.istore 4, 2) := by decide +kernel
theorem dX8_pours_91 : decode cX8_pours 91 = .ok (.aload_n 0, 1) := by decide +kernel
theorem dX8_pours_92 : decode cX8_pours 92 = .ok (.getfield 28, 3) := by decide +kernel
theorem dX8_pours_95 : decode cX8_pours 95 = .ok (.getfield 113, 3) := by decide +kernel
theorem dX8_pours_98 : decode cX8_pours 98 = .ok (.iload_n 2, 1) := by decide +kernel
theorem dX8_pours_99 : decode cX8_pours 99 = .ok (.aaload, 1) := by decide +kernel
theorem dX8_pours_100 : decode cX8_pours 100 = .ok (.iload_n 3, 1) := by decide +kernel
theorem dX8_pours_101 : decode cX8_pours 101 = .ok (.iload 4, 2) := by decide +kernel
theorem dX8_pours_103 : decode cX8_pours 103 = .ok (.invokevirtual 117, 3) := by decide +kernel
theorem dX8_pours_106 : decode cX8_pours 106 = .ok (.aload_n 0, 1) := by decide +kernel
theorem dX8_pours_107 : decode cX8_pours 107 = .ok (.getfield 28, 3) := by decide +kernel
theorem dX8_pours_110 : decode cX8_pours 110 = .ok (.getfield 113, 3) := by decide +kernel
theorem dX8_pours_113 : decode cX8_pours 113 = .ok (.iload_n 2, 1) := by decide +kernel
theorem dX8_pours_114 : decode cX8_pours 114 = .ok (.aaload, 1) := by decide +kernel
theorem dX8_pours_115 : decode cX8_pours 115 = .ok (.getfield 123, 3) := by decide +kernel
theorem dX8_pours_118 : decode cX8_pours 118 = .ok (.ireturn, 1) := by decide +kernel
theorem dX8_turnsOver_0 : decode cX8_turnsOver 0 = .ok (.aload_n 0, 1) := by decide +kernel
theorem dX8_turnsOver_1 : decode cX8_turnsOver 1 = .ok (.getfield 28, 3) := by decide +kernel
theorem dX8_turnsOver_4 : decode cX8_turnsOver 4 = .ok (.iload_n 1, 1) := by decide +kernel
theorem dX8_turnsOver_5 : decode cX8_turnsOver 5 = .ok (.invokevirtual 106, 3) := by decide +kernel
theorem dX8_turnsOver_8 : decode cX8_turnsOver 8 = .ok (.ifCond .ne 5, 3) := by decide +kernel
theorem dX8_turnsOver_11 : decode cX8_turnsOver 11 = .ok (.iconst (-1), 1) := by decide +kernel
theorem dX8_turnsOver_12 : decode cX8_turnsOver 12 = .ok (.ireturn, 1) := by decide +kernel
theorem dX8_turnsOver_13 : decode cX8_turnsOver 13 = .ok (.aload_n 0, 1) := by decide +kernel
theorem dX8_turnsOver_14 : decode cX8_turnsOver 14 = .ok (.getfield 35, 3) := by decide +kernel
theorem dX8_turnsOver_17 : decode cX8_turnsOver 17 = .ok (.aload_n 0, 1) := by decide +kernel
theorem dX8_turnsOver_18 : decode cX8_turnsOver 18 = .ok (.getfield 28, 3) := by decide +kernel
theorem dX8_turnsOver_21 : decode cX8_turnsOver 21 = .ok (.invokevirtual 93, 3) := by decide +kernel
theorem dX8_turnsOver_24 : decode cX8_turnsOver 24 = .ok (.aload_n 0, 1) := by decide +kernel
theorem dX8_turnsOver_25 : decode cX8_turnsOver 25 = .ok (.getfield 28, 3) := by decide +kernel
theorem dX8_turnsOver_28 : decode cX8_turnsOver 28 = .ok (.getfield 113, 3) := by decide +kernel
theorem dX8_turnsOver_31 : decode cX8_turnsOver 31 = .ok (.iload_n 1, 1) := by decide +kernel
theorem dX8_turnsOver_32 : decode cX8_turnsOver 32 = .ok (.aaload, 1) := by decide +kernel
theorem dX8_turnsOver_33 : decode cX8_turnsOver 33 = .ok (.aload_n 0, 1) := by decide +kernel
theorem dX8_turnsOver_34 : decode cX8_turnsOver 34 = .ok (.getfield 28, 3) := by decide +kernel
theorem dX8_turnsOver_37 : decode cX8_turnsOver 37 = .ok (.getfield 113, 3) := by decide +kernel
theorem dX8_turnsOver_40 : decode cX8_turnsOver 40 = .ok (.iload_n 1, 1) := by decide +kernel
theorem dX8_turnsOver_41 : decode cX8_turnsOver 41 = .ok (.aaload, 1) := by decide +kernel
theorem dX8_turnsOver_42 : decode cX8_turnsOver 42 = .ok (.getfield 129, 3) := by decide +kernel
theorem dX8_turnsOver_45 : decode cX8_turnsOver 45 = .ok (.ifCond .ne 7, 3) := by decide +kernel
theorem dX8_turnsOver_48 : decode cX8_turnsOver 48 = .ok (.iconst 1, 1) := by decide +kernel
theorem dX8_turnsOver_49 : decode cX8_turnsOver 49 = .ok (.goto 4, 3) := by decide +kernel
theorem dX8_turnsOver_52 : decode cX8_turnsOver 52 = .ok (.iconst 0, 1) := by decide +kernel
theorem dX8_turnsOver_53 : decode cX8_turnsOver 53 = .ok (.putfield 129, 3) := by decide +kernel
theorem dX8_turnsOver_56 : decode cX8_turnsOver 56 = .ok (.aload_n 0, 1) := by decide +kernel
theorem dX8_turnsOver_57 : decode cX8_turnsOver 57 = .ok (.getfield 28, 3) := by decide +kernel
theorem dX8_turnsOver_60 : decode cX8_turnsOver 60 = .ok (.getfield 113, 3) := by decide +kernel
theorem dX8_turnsOver_63 : decode cX8_turnsOver 63 = .ok (.iload_n 1, 1) := by decide +kernel
theorem dX8_turnsOver_64 : decode cX8_turnsOver 64 = .ok (.aaload, 1) := by decide +kernel
theorem dX8_turnsOver_65 : decode cX8_turnsOver 65 = .ok (.getfield 129, 3) := by decide +kernel
theorem dX8_turnsOver_68 : decode cX8_turnsOver 68 = .ok (.ifCond .eq 7, 3) := by decide +kernel
theorem dX8_turnsOver_71 : decode cX8_turnsOver 71 = .ok (.iconst 1, 1) := by decide +kernel
theorem dX8_turnsOver_72 : decode cX8_turnsOver 72 = .ok (.goto 4, 3) := by decide +kernel
theorem dX8_turnsOver_75 : decode cX8_turnsOver 75 = .ok (.iconst 0, 1) := by decide +kernel
theorem dX8_turnsOver_76 : decode cX8_turnsOver 76 = .ok (.ireturn, 1) := by decide +kernel
theorem dX8_undo_0 : decode cX8_undo 0 = .ok (.aload_n 0, 1) := by decide +kernel
theorem dX8_undo_1 : decode cX8_undo 1 = .ok (.getfield 35, 3) := by decide +kernel
theorem dX8_undo_4 : decode cX8_undo 4 = .ok (.aload_n 0, 1) := by decide +kernel
theorem dX8_undo_5 : decode cX8_undo 5 = .ok (.getfield 28, 3) := by decide +kernel
theorem dX8_undo_8 : decode cX8_undo 8 = .ok (.invokevirtual 133, 3) := by decide +kernel
theorem dX8_undo_11 : decode cX8_undo 11 = .ok (.ifCond .eq 13, 3) := by decide +kernel
theorem dX8_undo_14 : decode cX8_undo 14 = .ok (.aload_n 0, 1) := by decide +kernel
theorem dX8_undo_15 : decode cX8_undo 15 = .ok (.getfield 35, 3) := by decide +kernel
theorem dX8_undo_18 : decode cX8_undo 18 = .ok (.getfield 137, 3) := by decide +kernel
theorem dX8_undo_21 : decode cX8_undo 21 = .ok (.goto 5, 3) := by decide +kernel
theorem dX8_undo_24 : decode cX8_undo 24 = .ok (.bipush (-2), 2) := by decide +kernel
theorem dX8_undo_26 : decode cX8_undo 26 = .ok (.ireturn, 1) := by decide +kernel
theorem dX8_cask_0 : decode cX8_cask 0 = .ok (.aload_n 0, 1) := by decide +kernel
theorem dX8_cask_1 : decode cX8_cask 1 = .ok (.getfield 28, 3) := by decide +kernel
theorem dX8_cask_4 : decode cX8_cask 4 = .ok (.iload_n 1, 1) := by decide +kernel
theorem dX8_cask_5 : decode cX8_cask 5 = .ok (.invokevirtual 106, 3) := by decide +kernel
theorem dX8_cask_8 : decode cX8_cask 8 = .ok (.ifCond .ne 5, 3) := by decide +kernel
theorem dX8_cask_11 : decode cX8_cask 11 = .ok (.iconst (-1), 1) := by decide +kernel
theorem dX8_cask_12 : decode cX8_cask 12 = .ok (.ireturn, 1) := by decide +kernel
theorem dX8_cask_13 : decode cX8_cask 13 = .ok (.aload_n 0, 1) := by decide +kernel
theorem dX8_cask_14 : decode cX8_cask 14 = .ok (.getfield 28, 3) := by decide +kernel
theorem dX8_cask_17 : decode cX8_cask 17 = .ok (.getfield 113, 3) := by decide +kernel
theorem dX8_cask_20 : decode cX8_cask 20 = .ok (.iload_n 1, 1) := by decide +kernel
theorem dX8_cask_21 : decode cX8_cask 21 = .ok (.aaload, 1) := by decide +kernel
theorem dX8_cask_22 : decode cX8_cask 22 = .ok (.astore_n 3, 1) := by decide +kernel
theorem dX8_cask_23 : decode cX8_cask 23 = .ok (.iload_n 2, 1) := by decide +kernel
theorem dX8_cask_24 : decode cX8_cask 24 = .ok (.tableswitch 132 0 8 #[52, 57, 62, 67, 80, 89, 94, 99, 112], 52) := by decide +kernel
theorem dX8_cask_76 : decode cX8_cask 76 = .ok (.aload_n 3, 1) := by decide +kernel
theorem dX8_cask_77 : decode cX8_cask 77 = .ok (.getfield 140, 3) := by decide +kernel
theorem dX8_cask_80 : decode cX8_cask 80 = .ok (.ireturn, 1) := by decide +kernel
theorem dX8_cask_81 : decode cX8_cask 81 = .ok (.aload_n 3, 1) := by decide +kernel
theorem dX8_cask_82 : decode cX8_cask 82 = .ok (.getfield 143, 3) := by decide +kernel
theorem dX8_cask_85 : decode cX8_cask 85 = .ok (.ireturn, 1) := by decide +kernel
theorem dX8_cask_86 : decode cX8_cask 86 = .ok (.aload_n 3, 1) := by decide +kernel
theorem dX8_cask_87 : decode cX8_cask 87 = .ok (.getfield 146, 3) := by decide +kernel
theorem dX8_cask_90 : decode cX8_cask 90 = .ok (.ireturn, 1) := by decide +kernel
theorem dX8_cask_91 : decode cX8_cask 91 = .ok (.aload_n 3, 1) := by decide +kernel
theorem dX8_cask_92 : decode cX8_cask 92 = .ok (.getfield 129, 3) := by decide +kernel
theorem dX8_cask_95 : decode cX8_cask 95 = .ok (.ifCond .eq 7, 3) := by decide +kernel
theorem dX8_cask_98 : decode cX8_cask 98 = .ok (.iconst 1, 1) := by decide +kernel
theorem dX8_cask_99 : decode cX8_cask 99 = .ok (.goto 4, 3) := by decide +kernel
theorem dX8_cask_102 : decode cX8_cask 102 = .ok (.iconst 0, 1) := by decide +kernel
theorem dX8_cask_103 : decode cX8_cask 103 = .ok (.ireturn, 1) := by decide +kernel
theorem dX8_cask_104 : decode cX8_cask 104 = .ok (.aload_n 0, 1) := by decide +kernel
theorem dX8_cask_105 : decode cX8_cask 105 = .ok (.iload_n 1, 1) := by decide +kernel
theorem dX8_cask_106 : decode cX8_cask 106 = .ok (.invokevirtual 149, 3) := by decide +kernel
theorem dX8_cask_109 : decode cX8_cask 109 = .ok (.invokevirtual 153, 3) := by decide +kernel
theorem dX8_cask_112 : decode cX8_cask 112 = .ok (.ireturn, 1) := by decide +kernel
theorem dX8_cask_113 : decode cX8_cask 113 = .ok (.aload_n 3, 1) := by decide +kernel
theorem dX8_cask_114 : decode cX8_cask 114 = .ok (.getfield 123, 3) := by decide +kernel
theorem dX8_cask_117 : decode cX8_cask 117 = .ok (.ireturn, 1) := by decide +kernel
theorem dX8_cask_118 : decode cX8_cask 118 = .ok (.aload_n 3, 1) := by decide +kernel
theorem dX8_cask_119 : decode cX8_cask 119 = .ok (.getfield 156, 3) := by decide +kernel
theorem dX8_cask_122 : decode cX8_cask 122 = .ok (.ireturn, 1) := by decide +kernel
theorem dX8_cask_123 : decode cX8_cask 123 = .ok (.aload_n 0, 1) := by decide +kernel
theorem dX8_cask_124 : decode cX8_cask 124 = .ok (.iload_n 1, 1) := by decide +kernel
theorem dX8_cask_125 : decode cX8_cask 125 = .ok (.invokevirtual 149, 3) := by decide +kernel
theorem dX8_cask_128 : decode cX8_cask 128 = .ok (.aload_n 3, 1) := by decide +kernel
theorem dX8_cask_129 : decode cX8_cask 129 = .ok (.getfield 123, 3) := by decide +kernel
theorem dX8_cask_132 : decode cX8_cask 132 = .ok (.invokevirtual 159, 3) := by decide +kernel
theorem dX8_cask_135 : decode cX8_cask 135 = .ok (.ireturn, 1) := by decide +kernel
theorem dX8_cask_136 : decode cX8_cask 136 = .ok (.aload_n 3, 1) := by decide +kernel
theorem dX8_cask_137 : decode cX8_cask 137 = .ok (.getfield 123, 3) := by decide +kernel
theorem dX8_cask_140 : decode cX8_cask 140 = .ok (.ifCond .le 13, 3) := by decide +kernel
theorem dX8_cask_143 : decode cX8_cask 143 = .ok (.aload_n 3, 1) := by decide +kernel
theorem dX8_cask_144 : decode cX8_cask 144 = .ok (.invokevirtual 162, 3) := by decide +kernel
theorem dX8_cask_147 : decode cX8_cask 147 = .ok (.invokestatic 166, 3) := by decide +kernel
theorem dX8_cask_150 : decode cX8_cask 150 = .ok (.goto 5, 3) := by decide +kernel
theorem dX8_cask_153 : decode cX8_cask 153 = .ok (.bipush (-9), 2) := by decide +kernel
theorem dX8_cask_155 : decode cX8_cask 155 = .ok (.ireturn, 1) := by decide +kernel
theorem dX8_cask_156 : decode cX8_cask 156 = .ok (.iconst (-1), 1) := by decide +kernel
theorem dX8_cask_157 : decode cX8_cask 157 = .ok (.ireturn, 1) := by decide +kernel
theorem dX8_slice_0 : decode cX8_slice 0 = .ok (.aload_n 0, 1) := by decide +kernel
theorem dX8_slice_1 : decode cX8_slice 1 = .ok (.getfield 28, 3) := by decide +kernel
theorem dX8_slice_4 : decode cX8_slice 4 = .ok (.iload_n 1, 1) := by decide +kernel
theorem dX8_slice_5 : decode cX8_slice 5 = .ok (.invokevirtual 106, 3) := by decide +kernel
theorem dX8_slice_8 : decode cX8_slice 8 = .ok (.ifCond .ne 5, 3) := by decide +kernel
theorem dX8_slice_11 : decode cX8_slice 11 = .ok (.iconst (-1), 1) := by decide +kernel
theorem dX8_slice_12 : decode cX8_slice 12 = .ok (.ireturn, 1) := by decide +kernel
theorem dX8_slice_13 : decode cX8_slice 13 = .ok (.aload_n 0, 1) := by decide +kernel
theorem dX8_slice_14 : decode cX8_slice 14 = .ok (.getfield 28, 3) := by decide +kernel
theorem dX8_slice_17 : decode cX8_slice 17 = .ok (.getfield 113, 3) := by decide +kernel
theorem dX8_slice_20 : decode cX8_slice 20 = .ok (.iload_n 1, 1) := by decide +kernel
theorem dX8_slice_21 : decode cX8_slice 21 = .ok (.aaload, 1) := by decide +kernel
theorem dX8_slice_22 : decode cX8_slice 22 = .ok (.astore 4, 2) := by decide +kernel
theorem dX8_slice_24 : decode cX8_slice 24 = .ok (.iload_n 2, 1) := by decide +kernel
theorem dX8_slice_25 : decode cX8_slice 25 = .ok (.ifCond .lt 28, 3) := by decide +kernel
theorem dX8_slice_28 : decode cX8_slice 28 = .ok (.iload_n 2, 1) := by decide +kernel
theorem dX8_slice_29 : decode cX8_slice 29 = .ok (.aload 4, 2) := by decide +kernel
theorem dX8_slice_31 : decode cX8_slice 31 = .ok (.getfield 140, 3) := by decide +kernel
theorem dX8_slice_34 : decode cX8_slice 34 = .ok (.if_icmp .ge 19, 3) := by decide +kernel
theorem dX8_slice_37 : decode cX8_slice 37 = .ok (.iload_n 3, 1) := by decide +kernel
theorem dX8_slice_38 : decode cX8_slice 38 = .ok (.iconst (-1), 1) := by decide +kernel
theorem dX8_slice_39 : decode cX8_slice 39 = .ok (.if_icmp .lt 14, 3) := by decide +kernel
theorem dX8_slice_42 : decode cX8_slice 42 = .ok (.iload_n 3, 1) := by decide +kernel
theorem dX8_slice_43 : decode cX8_slice 43 = .ok (.iconst 2, 1) := by decide +kernel
theorem dX8_slice_44 : decode cX8_slice 44 = .ok (.aload 4, 2) := by decide +kernel
theorem dX8_slice_46 : decode cX8_slice 46 = .ok (.getfield 146, 3) := by decide +kernel
theorem dX8_slice_49 : decode cX8_slice 49 = .ok (.imul, 1) := by decide +kernel
theorem dX8_slice_50 : decode cX8_slice 50 = .ok (.if_icmp .lt 5, 3) := by decide +kernel
theorem dX8_slice_53 : decode cX8_slice 53 = .ok (.iconst (-1), 1) := by decide +kernel
theorem dX8_slice_54 : decode cX8_slice 54 = .ok (.ireturn, 1) := by decide +kernel
theorem dX8_slice_55 : decode cX8_slice 55 = .ok (.iload_n 3, 1) := by decide +kernel
theorem dX8_slice_56 : decode cX8_slice 56 = .ok (.iconst (-1), 1) := by decide +kernel
theorem dX8_slice_57 : decode cX8_slice 57 = .ok (.if_icmp .ne 12, 3) := by decide +kernel
theorem dX8_slice_60 : decode cX8_slice 60 = .ok (.aload 4, 2) := by decide +kernel
theorem dX8_slice_62 : decode cX8_slice 62 = .ok (.iload_n 2, 1) := by decide +kernel
theorem dX8_slice_63 : decode cX8_slice 63 = .ok (.invokevirtual 170, 3) := by decide +kernel
theorem dX8_slice_66 : decode cX8_slice 66 = .ok (.goto 15, 3) := by decide +kernel
theorem dX8_slice_69 : decode cX8_slice 69 = .ok (.aload 4, 2) := by decide +kernel
theorem dX8_slice_71 : decode cX8_slice 71 = .ok (.aload 4, 2) := by decide +kernel
theorem dX8_slice_73 : decode cX8_slice 73 = .ok (.iload_n 2, 1) := by decide +kernel
theorem dX8_slice_74 : decode cX8_slice 74 = .ok (.invokevirtual 170, 3) := by decide +kernel
theorem dX8_slice_77 : decode cX8_slice 77 = .ok (.iload_n 3, 1) := by decide +kernel
theorem dX8_slice_78 : decode cX8_slice 78 = .ok (.invokevirtual 173, 3) := by decide +kernel
theorem dX8_slice_81 : decode cX8_slice 81 = .ok (.ireturn, 1) := by decide +kernel
theorem dX8_under_0 : decode cX8_under 0 = .ok (.aload_n 0, 1) := by decide +kernel
theorem dX8_under_1 : decode cX8_under 1 = .ok (.getfield 28, 3) := by decide +kernel
theorem dX8_under_4 : decode cX8_under 4 = .ok (.iload_n 1, 1) := by decide +kernel
theorem dX8_under_5 : decode cX8_under 5 = .ok (.invokevirtual 106, 3) := by decide +kernel
theorem dX8_under_8 : decode cX8_under 8 = .ok (.ifCond .ne 5, 3) := by decide +kernel
theorem dX8_under_11 : decode cX8_under 11 = .ok (.iconst (-1), 1) := by decide +kernel
theorem dX8_under_12 : decode cX8_under 12 = .ok (.ireturn, 1) := by decide +kernel
theorem dX8_under_13 : decode cX8_under 13 = .ok (.aload_n 0, 1) := by decide +kernel
theorem dX8_under_14 : decode cX8_under 14 = .ok (.iload_n 1, 1) := by decide +kernel
theorem dX8_under_15 : decode cX8_under 15 = .ok (.invokevirtual 149, 3) := by decide +kernel
theorem dX8_under_18 : decode cX8_under 18 = .ok (.astore_n 3, 1) := by decide +kernel
theorem dX8_under_19 : decode cX8_under 19 = .ok (.aload_n 3, 1) := by decide +kernel
theorem dX8_under_20 : decode cX8_under 20 = .ok (.iload_n 2, 1) := by decide +kernel
theorem dX8_under_21 : decode cX8_under 21 = .ok (.invokevirtual 177, 3) := by decide +kernel
theorem dX8_under_24 : decode cX8_under 24 = .ok (.ifCond .eq 11, 3) := by decide +kernel
theorem dX8_under_27 : decode cX8_under 27 = .ok (.aload_n 3, 1) := by decide +kernel
theorem dX8_under_28 : decode cX8_under 28 = .ok (.iload_n 2, 1) := by decide +kernel
theorem dX8_under_29 : decode cX8_under 29 = .ok (.invokevirtual 180, 3) := by decide +kernel
theorem dX8_under_32 : decode cX8_under 32 = .ok (.goto 4, 3) := by decide +kernel
theorem dX8_under_35 : decode cX8_under 35 = .ok (.iconst (-1), 1) := by decide +kernel
theorem dX8_under_36 : decode cX8_under 36 = .ok (.ireturn, 1) := by decide +kernel
theorem dX8_dip_0 : decode cX8_dip 0 = .ok (.aload_n 0, 1) := by decide +kernel
theorem dX8_dip_1 : decode cX8_dip 1 = .ok (.getfield 28, 3) := by decide +kernel
theorem dX8_dip_4 : decode cX8_dip 4 = .ok (.iload_n 1, 1) := by decide +kernel
theorem dX8_dip_5 : decode cX8_dip 5 = .ok (.invokevirtual 106, 3) := by decide +kernel
theorem dX8_dip_8 : decode cX8_dip 8 = .ok (.ifCond .eq 7, 3) := by decide +kernel
theorem dX8_dip_11 : decode cX8_dip 11 = .ok (.iload_n 2, 1) := by decide +kernel
theorem dX8_dip_12 : decode cX8_dip 12 = .ok (.ifCond .ge 5, 3) := by decide +kernel
theorem dX8_dip_15 : decode cX8_dip 15 = .ok (.iconst (-1), 1) := by decide +kernel
theorem dX8_dip_16 : decode cX8_dip 16 = .ok (.ireturn, 1) := by decide +kernel
theorem dX8_dip_17 : decode cX8_dip 17 = .ok (.aload_n 0, 1) := by decide +kernel
theorem dX8_dip_18 : decode cX8_dip 18 = .ok (.iload_n 1, 1) := by decide +kernel
theorem dX8_dip_19 : decode cX8_dip 19 = .ok (.invokevirtual 149, 3) := by decide +kernel
theorem dX8_dip_22 : decode cX8_dip 22 = .ok (.iload_n 2, 1) := by decide +kernel
theorem dX8_dip_23 : decode cX8_dip 23 = .ok (.invokevirtual 159, 3) := by decide +kernel
theorem dX8_dip_26 : decode cX8_dip 26 = .ok (.istore_n 3, 1) := by decide +kernel
theorem dX8_dip_27 : decode cX8_dip 27 = .ok (.iload_n 3, 1) := by decide +kernel
theorem dX8_dip_28 : decode cX8_dip 28 = .ok (.bipush 41, 2) := by decide +kernel
theorem dX8_dip_30 : decode cX8_dip 30 = .ok (.if_icmp .ne 7, 3) := by decide +kernel
theorem dX8_dip_33 : decode cX8_dip 33 = .ok (.iconst (-1), 1) := by decide +kernel
theorem dX8_dip_34 : decode cX8_dip 34 = .ok (.goto 4, 3) := by decide +kernel
theorem dX8_dip_37 : decode cX8_dip 37 = .ok (.iload_n 3, 1) := by decide +kernel
theorem dX8_dip_38 : decode cX8_dip 38 = .ok (.ireturn, 1) := by decide +kernel
theorem dX8_stick_0 : decode cX8_stick 0 = .ok (.aload_n 0, 1) := by decide +kernel
theorem dX8_stick_1 : decode cX8_stick 1 = .ok (.getfield 28, 3) := by decide +kernel
theorem dX8_stick_4 : decode cX8_stick 4 = .ok (.iload_n 1, 1) := by decide +kernel
theorem dX8_stick_5 : decode cX8_stick 5 = .ok (.invokevirtual 106, 3) := by decide +kernel
theorem dX8_stick_8 : decode cX8_stick 8 = .ok (.ifCond .eq 24, 3) := by decide +kernel
theorem dX8_stick_11 : decode cX8_stick 11 = .ok (.iload_n 2, 1) := by decide +kernel
theorem dX8_stick_12 : decode cX8_stick 12 = .ok (.iconst 2, 1) := by decide +kernel
theorem dX8_stick_13 : decode cX8_stick 13 = .ok (.if_icmp .lt 19, 3) := by decide +kernel
theorem dX8_stick_16 : decode cX8_stick 16 = .ok (.iload_n 2, 1) := by decide +kernel
theorem dX8_stick_17 : decode cX8_stick 17 = .ok (.bipush 9, 2) := by decide +kernel
theorem dX8_stick_19 : decode cX8_stick 19 = .ok (.if_icmp .gt 13, 3) := by decide +kernel
theorem dX8_stick_22 : decode cX8_stick 22 = .ok (.iload_n 3, 1) := by decide +kernel
theorem dX8_stick_23 : decode cX8_stick 23 = .ok (.iconst 1, 1) := by decide +kernel
theorem dX8_stick_24 : decode cX8_stick 24 = .ok (.if_icmp .lt 8, 3) := by decide +kernel
theorem dX8_stick_27 : decode cX8_stick 27 = .ok (.iload_n 3, 1) := by decide +kernel
theorem dX8_stick_28 : decode cX8_stick 28 = .ok (.iload_n 2, 1) := by decide +kernel
theorem dX8_stick_29 : decode cX8_stick 29 = .ok (.if_icmp .le 5, 3) := by decide +kernel
theorem dX8_stick_32 : decode cX8_stick 32 = .ok (.iconst (-1), 1) := by decide +kernel
theorem dX8_stick_33 : decode cX8_stick 33 = .ok (.ireturn, 1) := by decide +kernel
theorem dX8_stick_34 : decode cX8_stick 34 = .ok (.aload_n 0, 1) := by decide +kernel
theorem dX8_stick_35 : decode cX8_stick 35 = .ok (.iload_n 1, 1) := by decide +kernel
theorem dX8_stick_36 : decode cX8_stick 36 = .ok (.invokevirtual 149, 3) := by decide +kernel
theorem dX8_stick_39 : decode cX8_stick 39 = .ok (.iload_n 2, 1) := by decide +kernel
theorem dX8_stick_40 : decode cX8_stick 40 = .ok (.iload_n 3, 1) := by decide +kernel
theorem dX8_stick_41 : decode cX8_stick 41 = .ok (.invokevirtual 183, 3) := by decide +kernel
theorem dX8_stick_44 : decode cX8_stick 44 = .ok (.ireturn, 1) := by decide +kernel
theorem dX8_known_0 : decode cX8_known 0 = .ok (.aload_n 0, 1) := by decide +kernel
theorem dX8_known_1 : decode cX8_known 1 = .ok (.getfield 28, 3) := by decide +kernel
theorem dX8_known_4 : decode cX8_known 4 = .ok (.iload_n 1, 1) := by decide +kernel
theorem dX8_known_5 : decode cX8_known 5 = .ok (.invokevirtual 106, 3) := by decide +kernel
theorem dX8_known_8 : decode cX8_known 8 = .ok (.ifCond .eq 12, 3) := by decide +kernel
theorem dX8_known_11 : decode cX8_known 11 = .ok (.iload_n 3, 1) := by decide +kernel
theorem dX8_known_12 : decode cX8_known 12 = .ok (.ifCond .lt 8, 3) := by decide +kernel
theorem dX8_known_15 : decode cX8_known 15 = .ok (.iload_n 3, 1) := by decide +kernel
theorem dX8_known_16 : decode cX8_known 16 = .ok (.iconst 1, 1) := by decide +kernel
theorem dX8_known_17 : decode cX8_known 17 = .ok (.if_icmp .le 5, 3) := by decide +kernel
theorem dX8_known_20 : decode cX8_known 20 = .ok (.iconst (-1), 1) := by decide +kernel
theorem dX8_known_21 : decode cX8_known 21 = .ok (.ireturn, 1) := by decide +kernel
theorem dX8_known_22 : decode cX8_known 22 = .ok (.aload_n 0, 1) := by decide +kernel
theorem dX8_known_23 : decode cX8_known 23 = .ok (.iload_n 1, 1) := by decide +kernel
theorem dX8_known_24 : decode cX8_known 24 = .ok (.invokevirtual 149, 3) := by decide +kernel
theorem dX8_known_27 : decode cX8_known 27 = .ok (.astore 4, 2) := by decide +kernel
theorem dX8_known_29 : decode cX8_known 29 = .ok (.aload 4, 2) := by decide +kernel
theorem dX8_known_31 : decode cX8_known 31 = .ok (.iload_n 2, 1) := by decide +kernel
theorem dX8_known_32 : decode cX8_known 32 = .ok (.invokevirtual 177, 3) := by decide +kernel
theorem dX8_known_35 : decode cX8_known 35 = .ok (.ifCond .ne 5, 3) := by decide +kernel
theorem dX8_known_38 : decode cX8_known 38 = .ok (.iconst (-1), 1) := by decide +kernel
theorem dX8_known_39 : decode cX8_known 39 = .ok (.ireturn, 1) := by decide +kernel
theorem dX8_known_40 : decode cX8_known 40 = .ok (.aload 4, 2) := by decide +kernel
theorem dX8_known_42 : decode cX8_known 42 = .ok (.iload_n 2, 1) := by decide +kernel
theorem dX8_known_43 : decode cX8_known 43 = .ok (.invokevirtual 180, 3) := by decide +kernel
theorem dX8_known_46 : decode cX8_known 46 = .ok (.istore 5, 2) := by decide +kernel
theorem dX8_known_48 : decode cX8_known 48 = .ok (.iload_n 2, 1) := by decide +kernel
theorem dX8_known_49 : decode cX8_known 49 = .ok (.ifCond .ne 7, 3) := by decide +kernel
theorem dX8_known_52 : decode cX8_known 52 = .ok (.iconst 0, 1) := by decide +kernel
theorem dX8_known_53 : decode cX8_known 53 = .ok (.goto 13, 3) := by decide +kernel
theorem dX8_known_56 : decode cX8_known 56 = .ok (.aload 4, 2) := by decide +kernel
theorem dX8_known_58 : decode cX8_known 58 = .ok (.iload_n 2, 1) := by decide +kernel
theorem dX8_known_59 : decode cX8_known 59 = .ok (.iconst 1, 1) := by decide +kernel
theorem dX8_known_60 : decode cX8_known 60 = .ok (.isub, 1) := by decide +kernel
theorem dX8_known_61 : decode cX8_known 61 = .ok (.invokevirtual 180, 3) := by decide +kernel
theorem dX8_known_64 : decode cX8_known 64 = .ok (.iconst 1, 1) := by decide +kernel
theorem dX8_known_65 : decode cX8_known 65 = .ok (.iadd, 1) := by decide +kernel
theorem dX8_known_66 : decode cX8_known 66 = .ok (.istore 6, 2) := by decide +kernel
theorem dX8_known_68 : decode cX8_known 68 = .ok (.iload 6, 2) := by decide +kernel
theorem dX8_known_70 : decode cX8_known 70 = .ok (.iload 5, 2) := by decide +kernel
theorem dX8_known_72 : decode cX8_known 72 = .ok (.if_icmp .le 6, 3) := by decide +kernel
theorem dX8_known_75 : decode cX8_known 75 = .ok (.bipush (-9), 2) := by decide +kernel
theorem dX8_known_77 : decode cX8_known 77 = .ok (.ireturn, 1) := by decide +kernel
theorem dX8_known_78 : decode cX8_known 78 = .ok (.iload_n 3, 1) := by decide +kernel
theorem dX8_known_79 : decode cX8_known 79 = .ok (.ifCond .ne 8, 3) := by decide +kernel
theorem dX8_known_82 : decode cX8_known 82 = .ok (.iload 6, 2) := by decide +kernel
theorem dX8_known_84 : decode cX8_known 84 = .ok (.goto 5, 3) := by decide +kernel
theorem dX8_known_87 : decode cX8_known 87 = .ok (.iload 5, 2) := by decide +kernel
theorem dX8_known_89 : decode cX8_known 89 = .ok (.ireturn, 1) := by decide +kernel
theorem dX8_shares_0 : decode cX8_shares 0 = .ok (.aload_n 0, 1) := by decide +kernel
theorem dX8_shares_1 : decode cX8_shares 1 = .ok (.getfield 28, 3) := by decide +kernel
theorem dX8_shares_4 : decode cX8_shares 4 = .ok (.iload_n 1, 1) := by decide +kernel
theorem dX8_shares_5 : decode cX8_shares 5 = .ok (.invokevirtual 106, 3) := by decide +kernel
theorem dX8_shares_8 : decode cX8_shares 8 = .ok (.ifCond .eq 33, 3) := by decide +kernel
theorem dX8_shares_11 : decode cX8_shares 11 = .ok (.iload_n 2, 1) := by decide +kernel
theorem dX8_shares_12 : decode cX8_shares 12 = .ok (.iconst 2, 1) := by decide +kernel
theorem dX8_shares_13 : decode cX8_shares 13 = .ok (.if_icmp .lt 28, 3) := by decide +kernel
theorem dX8_shares_16 : decode cX8_shares 16 = .ok (.iload_n 2, 1) := by decide +kernel
theorem dX8_shares_17 : decode cX8_shares 17 = .ok (.iconst 3, 1) := by decide +kernel
theorem dX8_shares_18 : decode cX8_shares 18 = .ok (.if_icmp .gt 23, 3) := by decide +kernel
theorem dX8_shares_21 : decode cX8_shares 21 = .ok (.iload_n 3, 1) := by decide +kernel
theorem dX8_shares_22 : decode cX8_shares 22 = .ok (.iconst (-1), 1) := by decide +kernel
theorem dX8_shares_23 : decode cX8_shares 23 = .ok (.if_icmp .lt 18, 3) := by decide +kernel
theorem dX8_shares_26 : decode cX8_shares 26 = .ok (.iload_n 3, 1) := by decide +kernel
theorem dX8_shares_27 : decode cX8_shares 27 = .ok (.iconst 3, 1) := by decide +kernel
theorem dX8_shares_28 : decode cX8_shares 28 = .ok (.if_icmp .gt 13, 3) := by decide +kernel
theorem dX8_shares_31 : decode cX8_shares 31 = .ok (.iload_n 3, 1) := by decide +kernel
theorem dX8_shares_32 : decode cX8_shares 32 = .ok (.iconst 1, 1) := by decide +kernel
theorem dX8_shares_33 : decode cX8_shares 33 = .ok (.if_icmp .ne 10, 3) := by decide +kernel
theorem dX8_shares_36 : decode cX8_shares 36 = .ok (.iload_n 2, 1) := by decide +kernel
theorem dX8_shares_37 : decode cX8_shares 37 = .ok (.iconst 2, 1) := by decide +kernel
theorem dX8_shares_38 : decode cX8_shares 38 = .ok (.if_icmp .ne 5, 3) := by decide +kernel
theorem dX8_shares_41 : decode cX8_shares 41 = .ok (.iconst (-1), 1) := by decide +kernel
theorem dX8_shares_42 : decode cX8_shares 42 = .ok (.ireturn, 1) := by decide +kernel
theorem dX8_shares_43 : decode cX8_shares 43 = .ok (.aload_n 0, 1) := by decide +kernel
theorem dX8_shares_44 : decode cX8_shares 44 = .ok (.getfield 28, 3) := by decide +kernel
theorem dX8_shares_47 : decode cX8_shares 47 = .ok (.getfield 113, 3) := by decide +kernel
theorem dX8_shares_50 : decode cX8_shares 50 = .ok (.iload_n 1, 1) := by decide +kernel
theorem dX8_shares_51 : decode cX8_shares 51 = .ok (.aaload, 1) := by decide +kernel
theorem dX8_shares_52 : decode cX8_shares 52 = .ok (.getfield 123, 3) := by decide +kernel
theorem dX8_shares_55 : decode cX8_shares 55 = .ok (.istore 4, 2) := by decide +kernel
theorem dX8_shares_57 : decode cX8_shares 57 = .ok (.iload 4, 2) := by decide +kernel
theorem dX8_shares_59 : decode cX8_shares 59 = .ok (.ifCond .ne 6, 3) := by decide +kernel
theorem dX8_shares_62 : decode cX8_shares 62 = .ok (.bipush (-2), 2) := by decide +kernel
theorem dX8_shares_64 : decode cX8_shares 64 = .ok (.ireturn, 1) := by decide +kernel
theorem dX8_shares_65 : decode cX8_shares 65 = .ok (.aload_n 0, 1) := by decide +kernel
theorem dX8_shares_66 : decode cX8_shares 66 = .ok (.getfield 69, 3) := by decide +kernel
theorem dX8_shares_69 : decode cX8_shares 69 = .ok (.aload_n 0, 1) := by decide +kernel
theorem dX8_shares_70 : decode cX8_shares 70 = .ok (.iload_n 1, 1) := by decide +kernel
theorem dX8_shares_71 : decode cX8_shares 71 = .ok (.invokevirtual 149, 3) := by decide +kernel
theorem dX8_shares_74 : decode cX8_shares 74 = .ok (.iload 4, 2) := by decide +kernel
theorem dX8_shares_76 : decode cX8_shares 76 = .ok (.iload_n 2, 1) := by decide +kernel
theorem dX8_shares_77 : decode cX8_shares 77 = .ok (.invokevirtual 186, 3) := by decide +kernel
theorem dX8_shares_80 : decode cX8_shares 80 = .ok (.iload_n 3, 1) := by decide +kernel
theorem dX8_shares_81 : decode cX8_shares 81 = .ok (.tableswitch 63 0 3 #[31, 39, 47, 55], 31) := by decide +kernel
theorem dX8_shares_112 : decode cX8_shares 112 = .ok (.aload_n 0, 1) := by decide +kernel
theorem dX8_shares_113 : decode cX8_shares 113 = .ok (.getfield 69, 3) := by decide +kernel
theorem dX8_shares_116 : decode cX8_shares 116 = .ok (.getfield 190, 3) := by decide +kernel
theorem dX8_shares_119 : decode cX8_shares 119 = .ok (.ireturn, 1) := by decide +kernel
theorem dX8_shares_120 : decode cX8_shares 120 = .ok (.aload_n 0, 1) := by decide +kernel
theorem dX8_shares_121 : decode cX8_shares 121 = .ok (.getfield 69, 3) := by decide +kernel
theorem dX8_shares_124 : decode cX8_shares 124 = .ok (.getfield 193, 3) := by decide +kernel
theorem dX8_shares_127 : decode cX8_shares 127 = .ok (.ireturn, 1) := by decide +kernel
theorem dX8_shares_128 : decode cX8_shares 128 = .ok (.aload_n 0, 1) := by decide +kernel
theorem dX8_shares_129 : decode cX8_shares 129 = .ok (.getfield 69, 3) := by decide +kernel
theorem dX8_shares_132 : decode cX8_shares 132 = .ok (.getfield 196, 3) := by decide +kernel
theorem dX8_shares_135 : decode cX8_shares 135 = .ok (.ireturn, 1) := by decide +kernel
theorem dX8_shares_136 : decode cX8_shares 136 = .ok (.aload_n 0, 1) := by decide +kernel
theorem dX8_shares_137 : decode cX8_shares 137 = .ok (.getfield 69, 3) := by decide +kernel
theorem dX8_shares_140 : decode cX8_shares 140 = .ok (.getfield 199, 3) := by decide +kernel
theorem dX8_shares_143 : decode cX8_shares 143 = .ok (.ireturn, 1) := by decide +kernel
theorem dX8_shares_144 : decode cX8_shares 144 = .ok (.aload_n 0, 1) := by decide +kernel
theorem dX8_shares_145 : decode cX8_shares 145 = .ok (.getfield 69, 3) := by decide +kernel
theorem dX8_shares_148 : decode cX8_shares 148 = .ok (.getfield 202, 3) := by decide +kernel
theorem dX8_shares_151 : decode cX8_shares 151 = .ok (.ireturn, 1) := by decide +kernel
theorem dX8_all_0 : decode cX8_all 0 = .ok (.iload_n 1, 1) := by decide +kernel
theorem dX8_all_1 : decode cX8_all 1 = .ok (.ifCond .ne 11, 3) := by decide +kernel
theorem dX8_all_4 : decode cX8_all 4 = .ok (.aload_n 0, 1) := by decide +kernel
theorem dX8_all_5 : decode cX8_all 5 = .ok (.getfield 28, 3) := by decide +kernel
theorem dX8_all_8 : decode cX8_all 8 = .ok (.invokevirtual 205, 3) := by decide +kernel
theorem dX8_all_11 : decode cX8_all 11 = .ok (.ireturn, 1) := by decide +kernel
theorem dX8_all_12 : decode cX8_all 12 = .ok (.iload_n 1, 1) := by decide +kernel
theorem dX8_all_13 : decode cX8_all 13 = .ok (.iconst 1, 1) := by decide +kernel
theorem dX8_all_14 : decode cX8_all 14 = .ok (.if_icmp .ne 31, 3) := by decide +kernel
theorem dX8_all_17 : decode cX8_all 17 = .ok (.aload_n 0, 1) := by decide +kernel
theorem dX8_all_18 : decode cX8_all 18 = .ok (.getfield 28, 3) := by decide +kernel
theorem dX8_all_21 : decode cX8_all 21 = .ok (.invokevirtual 205, 3) := by decide +kernel
theorem dX8_all_24 : decode cX8_all 24 = .ok (.bipush (-9), 2) := by decide +kernel
theorem dX8_all_26 : decode cX8_all 26 = .ok (.if_icmp .ne 8, 3) := by decide +kernel
theorem dX8_all_29 : decode cX8_all 29 = .ok (.bipush (-9), 2) := by decide +kernel
theorem dX8_all_31 : decode cX8_all 31 = .ok (.goto 13, 3) := by decide +kernel
theorem dX8_all_34 : decode cX8_all 34 = .ok (.aload_n 0, 1) := by decide +kernel
theorem dX8_all_35 : decode cX8_all 35 = .ok (.getfield 28, 3) := by decide +kernel
theorem dX8_all_38 : decode cX8_all 38 = .ok (.invokevirtual 208, 3) := by decide +kernel
theorem dX8_all_41 : decode cX8_all 41 = .ok (.invokestatic 166, 3) := by decide +kernel
theorem dX8_all_44 : decode cX8_all 44 = .ok (.ireturn, 1) := by decide +kernel
theorem dX8_all_45 : decode cX8_all 45 = .ok (.iconst (-1), 1) := by decide +kernel
theorem dX8_all_46 : decode cX8_all 46 = .ok (.ireturn, 1) := by decide +kernel
theorem dX8_sees_0 : decode cX8_sees 0 = .ok (.iload_n 1, 1) := by decide +kernel
theorem dX8_sees_1 : decode cX8_sees 1 = .ok (.ifCond .lt 19, 3) := by decide +kernel
theorem dX8_sees_4 : decode cX8_sees 4 = .ok (.iload_n 1, 1) := by decide +kernel
theorem dX8_sees_5 : decode cX8_sees 5 = .ok (.ldc 211, 2) := by decide +kernel
theorem dX8_sees_7 : decode cX8_sees 7 = .ok (.if_icmp .gt 13, 3) := by decide +kernel
theorem dX8_sees_10 : decode cX8_sees 10 = .ok (.iload_n 2, 1) := by decide +kernel
theorem dX8_sees_11 : decode cX8_sees 11 = .ok (.ifCond .lt 9, 3) := by decide +kernel
theorem dX8_sees_14 : decode cX8_sees 14 = .ok (.iload_n 2, 1) := by decide +kernel
theorem dX8_sees_15 : decode cX8_sees 15 = .ok (.bipush 40, 2) := by decide +kernel
theorem dX8_sees_17 : decode cX8_sees 17 = .ok (.if_icmp .le 5, 3) := by decide +kernel
theorem dX8_sees_20 : decode cX8_sees 20 = .ok (.iconst (-1), 1) := by decide +kernel
theorem dX8_sees_21 : decode cX8_sees 21 = .ok (.ireturn, 1) := by decide +kernel
theorem dX8_sees_22 : decode cX8_sees 22 = .ok (.aload_n 0, 1) := by decide +kernel
theorem dX8_sees_23 : decode cX8_sees 23 = .ok (.getfield 50, 3) := by decide +kernel
theorem dX8_sees_26 : decode cX8_sees 26 = .ok (.iload_n 1, 1) := by decide +kernel
theorem dX8_sees_27 : decode cX8_sees 27 = .ok (.iload_n 2, 1) := by decide +kernel
theorem dX8_sees_28 : decode cX8_sees 28 = .ok (.invokevirtual 212, 3) := by decide +kernel
theorem dX8_sees_31 : decode cX8_sees 31 = .ok (.ifCond .eq 13, 3) := by decide +kernel
theorem dX8_sees_34 : decode cX8_sees 34 = .ok (.aload_n 0, 1) := by decide +kernel
theorem dX8_sees_35 : decode cX8_sees 35 = .ok (.getfield 50, 3) := by decide +kernel
theorem dX8_sees_38 : decode cX8_sees 38 = .ok (.getfield 215, 3) := by decide +kernel
theorem dX8_sees_41 : decode cX8_sees 41 = .ok (.goto 5, 3) := by decide +kernel
theorem dX8_sees_44 : decode cX8_sees 44 = .ok (.bipush (-3), 2) := by decide +kernel
theorem dX8_sees_46 : decode cX8_sees 46 = .ok (.ireturn, 1) := by decide +kernel
theorem dX8_forget_0 : decode cX8_forget 0 = .ok (.aload_n 0, 1) := by decide +kernel
theorem dX8_forget_1 : decode cX8_forget 1 = .ok (.getfield 50, 3) := by decide +kernel
theorem dX8_forget_4 : decode cX8_forget 4 = .ok (.getfield 215, 3) := by decide +kernel
theorem dX8_forget_7 : decode cX8_forget 7 = .ok (.istore_n 1, 1) := by decide +kernel
theorem dX8_forget_8 : decode cX8_forget 8 = .ok (.aload_n 0, 1) := by decide +kernel
theorem dX8_forget_9 : decode cX8_forget 9 = .ok (.getfield 50, 3) := by decide +kernel
theorem dX8_forget_12 : decode cX8_forget 12 = .ok (.iconst 0, 1) := by decide +kernel
theorem dX8_forget_13 : decode cX8_forget 13 = .ok (.putfield 215, 3) := by decide +kernel
theorem dX8_forget_16 : decode cX8_forget 16 = .ok (.iload_n 1, 1) := by decide +kernel
theorem dX8_forget_17 : decode cX8_forget 17 = .ok (.ireturn, 1) := by decide +kernel
theorem dX8_which_0 : decode cX8_which 0 = .ok (.iconst 0, 1) := by decide +kernel
theorem dX8_which_1 : decode cX8_which 1 = .ok (.istore_n 1, 1) := by decide +kernel
theorem dX8_which_2 : decode cX8_which 2 = .ok (.iconst 0, 1) := by decide +kernel
theorem dX8_which_3 : decode cX8_which 3 = .ok (.istore_n 2, 1) := by decide +kernel
theorem dX8_which_4 : decode cX8_which 4 = .ok (.iload_n 2, 1) := by decide +kernel
theorem dX8_which_5 : decode cX8_which 5 = .ok (.aload_n 0, 1) := by decide +kernel
theorem dX8_which_6 : decode cX8_which 6 = .ok (.getfield 28, 3) := by decide +kernel
theorem dX8_which_9 : decode cX8_which 9 = .ok (.getfield 216, 3) := by decide +kernel
theorem dX8_which_12 : decode cX8_which 12 = .ok (.if_icmp .ge 30, 3) := by decide +kernel
theorem dX8_which_15 : decode cX8_which 15 = .ok (.aload_n 0, 1) := by decide +kernel
theorem dX8_which_16 : decode cX8_which 16 = .ok (.getfield 50, 3) := by decide +kernel
theorem dX8_which_19 : decode cX8_which 19 = .ok (.aload_n 0, 1) := by decide +kernel
theorem dX8_which_20 : decode cX8_which 20 = .ok (.iload_n 2, 1) := by decide +kernel
theorem dX8_which_21 : decode cX8_which 21 = .ok (.invokevirtual 217, 3) := by decide +kernel
theorem dX8_which_24 : decode cX8_which 24 = .ok (.invokevirtual 220, 3) := by decide +kernel
theorem dX8_which_27 : decode cX8_which 27 = .ok (.ifCond .eq 9, 3) := by decide +kernel
theorem dX8_which_30 : decode cX8_which 30 = .ok (.iload_n 1, 1) := by decide +kernel
theorem dX8_which_31 : decode cX8_which 31 = .ok (.iconst 1, 1) := by decide +kernel
theorem dX8_which_32 : decode cX8_which 32 = .ok (.iload_n 2, 1) := by decide +kernel
theorem dX8_which_33 : decode cX8_which 33 = .ok (.ishl, 1) := by decide +kernel
theorem dX8_which_34 : decode cX8_which 34 = .ok (.ior, 1) := by decide +kernel
theorem dX8_which_35 : decode cX8_which 35 = .ok (.istore_n 1, 1) := by decide +kernel
theorem dX8_which_36 : decode cX8_which 36 = .ok (.iinc 2 1, 3) := by decide +kernel
theorem dX8_which_39 : decode cX8_which 39 = .ok (.goto (-35), 3) := by decide +kernel
theorem dX8_which_42 : decode cX8_which 42 = .ok (.iload_n 1, 1) := by decide +kernel
theorem dX8_which_43 : decode cX8_which 43 = .ok (.ireturn, 1) := by decide +kernel
theorem dX8_ask_0 : decode cX8_ask 0 = .ok (.aload_n 0, 1) := by decide +kernel
theorem dX8_ask_1 : decode cX8_ask 1 = .ok (.invokevirtual 224, 3) := by decide +kernel
theorem dX8_ask_4 : decode cX8_ask 4 = .ok (.istore_n 1, 1) := by decide +kernel
theorem dX8_ask_5 : decode cX8_ask 5 = .ok (.iload_n 1, 1) := by decide +kernel
theorem dX8_ask_6 : decode cX8_ask 6 = .ok (.invokestatic 227, 3) := by decide +kernel
theorem dX8_ask_9 : decode cX8_ask 9 = .ok (.iconst 1, 1) := by decide +kernel
theorem dX8_ask_10 : decode cX8_ask 10 = .ok (.if_icmp .gt 6, 3) := by decide +kernel
theorem dX8_ask_13 : decode cX8_ask 13 = .ok (.bipush (-9), 2) := by decide +kernel
theorem dX8_ask_15 : decode cX8_ask 15 = .ok (.ireturn, 1) := by decide +kernel
theorem dX8_ask_16 : decode cX8_ask 16 = .ok (.aload_n 0, 1) := by decide +kernel
theorem dX8_ask_17 : decode cX8_ask 17 = .ok (.invokevirtual 232, 3) := by decide +kernel
theorem dX8_ask_20 : decode cX8_ask 20 = .ok (.iconst 0, 1) := by decide +kernel
theorem dX8_ask_21 : decode cX8_ask 21 = .ok (.istore_n 2, 1) := by decide +kernel
theorem dX8_ask_22 : decode cX8_ask 22 = .ok (.aload_n 0, 1) := by decide +kernel
theorem dX8_ask_23 : decode cX8_ask 23 = .ok (.iload_n 1, 1) := by decide +kernel
theorem dX8_ask_24 : decode cX8_ask 24 = .ok (.invokevirtual 235, 3) := by decide +kernel
theorem dX8_ask_27 : decode cX8_ask 27 = .ok (.istore_n 3, 1) := by decide +kernel
theorem dX8_ask_28 : decode cX8_ask 28 = .ok (.iconst 1, 1) := by decide +kernel
theorem dX8_ask_29 : decode cX8_ask 29 = .ok (.istore 4, 2) := by decide +kernel
theorem dX8_ask_31 : decode cX8_ask 31 = .ok (.iload 4, 2) := by decide +kernel
theorem dX8_ask_33 : decode cX8_ask 33 = .ok (.sipush 999, 3) := by decide +kernel
theorem dX8_ask_36 : decode cX8_ask 36 = .ok (.if_icmp .gt 42, 3) := by decide +kernel
theorem dX8_ask_39 : decode cX8_ask 39 = .ok (.iload_n 3, 1) := by decide +kernel
theorem dX8_ask_40 : decode cX8_ask 40 = .ok (.iconst 1, 1) := by decide +kernel
theorem dX8_ask_41 : decode cX8_ask 41 = .ok (.if_icmp .le 37, 3) := by decide +kernel
theorem dX8_ask_44 : decode cX8_ask 44 = .ok (.aload_n 0, 1) := by decide +kernel
theorem dX8_ask_45 : decode cX8_ask 45 = .ok (.iload 4, 2) := by decide +kernel
theorem dX8_ask_47 : decode cX8_ask 47 = .ok (.invokevirtual 238, 3) := by decide +kernel
theorem dX8_ask_50 : decode cX8_ask 50 = .ok (.ifCond .eq 22, 3) := by decide +kernel
theorem dX8_ask_53 : decode cX8_ask 53 = .ok (.aload_n 0, 1) := by decide +kernel
theorem dX8_ask_54 : decode cX8_ask 54 = .ok (.iload_n 1, 1) := by decide +kernel
theorem dX8_ask_55 : decode cX8_ask 55 = .ok (.invokevirtual 235, 3) := by decide +kernel
theorem dX8_ask_58 : decode cX8_ask 58 = .ok (.istore 5, 2) := by decide +kernel
theorem dX8_ask_60 : decode cX8_ask 60 = .ok (.iload 5, 2) := by decide +kernel
theorem dX8_ask_62 : decode cX8_ask 62 = .ok (.iload_n 3, 1) := by decide +kernel
theorem dX8_ask_63 : decode cX8_ask 63 = .ok (.if_icmp .ge 9, 3) := by decide +kernel
theorem dX8_ask_66 : decode cX8_ask 66 = .ok (.iload 5, 2) := by decide +kernel
theorem dX8_ask_68 : decode cX8_ask 68 = .ok (.istore_n 3, 1) := by decide +kernel
theorem dX8_ask_69 : decode cX8_ask 69 = .ok (.iload 4, 2) := by decide +kernel
theorem dX8_ask_71 : decode cX8_ask 71 = .ok (.istore_n 2, 1) := by decide +kernel
theorem dX8_ask_72 : decode cX8_ask 72 = .ok (.iinc 4 1, 3) := by decide +kernel
theorem dX8_ask_75 : decode cX8_ask 75 = .ok (.goto (-44), 3) := by decide +kernel
theorem dX8_ask_78 : decode cX8_ask 78 = .ok (.iload_n 2, 1) := by decide +kernel
theorem dX8_ask_79 : decode cX8_ask 79 = .ok (.ireturn, 1) := by decide +kernel
theorem dX8_keep_0 : decode cX8_keep 0 = .ok (.iload_n 1, 1) := by decide +kernel
theorem dX8_keep_1 : decode cX8_keep 1 = .ok (.ifCond .lt 8, 3) := by decide +kernel
theorem dX8_keep_4 : decode cX8_keep 4 = .ok (.iload_n 1, 1) := by decide +kernel
theorem dX8_keep_5 : decode cX8_keep 5 = .ok (.iconst 2, 1) := by decide +kernel
theorem dX8_keep_6 : decode cX8_keep 6 = .ok (.if_icmp .lt 5, 3) := by decide +kernel
theorem dX8_keep_9 : decode cX8_keep 9 = .ok (.iconst (-1), 1) := by decide +kernel
theorem dX8_keep_10 : decode cX8_keep 10 = .ok (.ireturn, 1) := by decide +kernel
theorem dX8_keep_11 : decode cX8_keep 11 = .ok (.aload_n 0, 1) := by decide +kernel
theorem dX8_keep_12 : decode cX8_keep 12 = .ok (.getfield 39, 3) := by decide +kernel
theorem dX8_keep_15 : decode cX8_keep 15 = .ok (.iload_n 1, 1) := by decide +kernel
theorem dX8_keep_16 : decode cX8_keep 16 = .ok (.aaload, 1) := by decide +kernel
theorem dX8_keep_17 : decode cX8_keep 17 = .ok (.aload_n 0, 1) := by decide +kernel
theorem dX8_keep_18 : decode cX8_keep 18 = .ok (.getfield 28, 3) := by decide +kernel
theorem dX8_keep_21 : decode cX8_keep 21 = .ok (.invokevirtual 100, 3) := by decide +kernel
theorem dX8_keep_24 : decode cX8_keep 24 = .ok (.aload_n 0, 1) := by decide +kernel
theorem dX8_keep_25 : decode cX8_keep 25 = .ok (.getfield 43, 3) := by decide +kernel
theorem dX8_keep_28 : decode cX8_keep 28 = .ok (.iload_n 1, 1) := by decide +kernel
theorem dX8_keep_29 : decode cX8_keep 29 = .ok (.iconst 1, 1) := by decide +kernel
theorem dX8_keep_30 : decode cX8_keep 30 = .ok (.bastore, 1) := by decide +kernel
theorem dX8_keep_31 : decode cX8_keep 31 = .ok (.aload_n 0, 1) := by decide +kernel
theorem dX8_keep_32 : decode cX8_keep 32 = .ok (.getfield 28, 3) := by decide +kernel
theorem dX8_keep_35 : decode cX8_keep 35 = .ok (.getfield 216, 3) := by decide +kernel
theorem dX8_keep_38 : decode cX8_keep 38 = .ok (.ireturn, 1) := by decide +kernel
theorem dX8_back_0 : decode cX8_back 0 = .ok (.iload_n 1, 1) := by decide +kernel
theorem dX8_back_1 : decode cX8_back 1 = .ok (.ifCond .lt 8, 3) := by decide +kernel
theorem dX8_back_4 : decode cX8_back 4 = .ok (.iload_n 1, 1) := by decide +kernel
theorem dX8_back_5 : decode cX8_back 5 = .ok (.iconst 2, 1) := by decide +kernel
theorem dX8_back_6 : decode cX8_back 6 = .ok (.if_icmp .lt 5, 3) := by decide +kernel
theorem dX8_back_9 : decode cX8_back 9 = .ok (.iconst (-1), 1) := by decide +kernel
theorem dX8_back_10 : decode cX8_back 10 = .ok (.ireturn, 1) := by decide +kernel
theorem dX8_back_11 : decode cX8_back 11 = .ok (.aload_n 0, 1) := by decide +kernel
theorem dX8_back_12 : decode cX8_back 12 = .ok (.getfield 43, 3) := by decide +kernel
theorem dX8_back_15 : decode cX8_back 15 = .ok (.iload_n 1, 1) := by decide +kernel
theorem dX8_back_16 : decode cX8_back 16 = .ok (.baload, 1) := by decide +kernel
theorem dX8_back_17 : decode cX8_back 17 = .ok (.ifCond .ne 6, 3) := by decide +kernel
theorem dX8_back_20 : decode cX8_back 20 = .ok (.bipush (-2), 2) := by decide +kernel
theorem dX8_back_22 : decode cX8_back 22 = .ok (.ireturn, 1) := by decide +kernel
theorem dX8_back_23 : decode cX8_back 23 = .ok (.aload_n 0, 1) := by decide +kernel
theorem dX8_back_24 : decode cX8_back 24 = .ok (.getfield 28, 3) := by decide +kernel
theorem dX8_back_27 : decode cX8_back 27 = .ok (.aload_n 0, 1) := by decide +kernel
theorem dX8_back_28 : decode cX8_back 28 = .ok (.getfield 39, 3) := by decide +kernel
theorem dX8_back_31 : decode cX8_back 31 = .ok (.iload_n 1, 1) := by decide +kernel
theorem dX8_back_32 : decode cX8_back 32 = .ok (.aaload, 1) := by decide +kernel
theorem dX8_back_33 : decode cX8_back 33 = .ok (.invokevirtual 100, 3) := by decide +kernel
theorem dX8_back_36 : decode cX8_back 36 = .ok (.aload_n 0, 1) := by decide +kernel
theorem dX8_back_37 : decode cX8_back 37 = .ok (.getfield 35, 3) := by decide +kernel
theorem dX8_back_40 : decode cX8_back 40 = .ok (.iconst 0, 1) := by decide +kernel
theorem dX8_back_41 : decode cX8_back 41 = .ok (.putfield 137, 3) := by decide +kernel
theorem dX8_back_44 : decode cX8_back 44 = .ok (.aload_n 0, 1) := by decide +kernel
theorem dX8_back_45 : decode cX8_back 45 = .ok (.getfield 28, 3) := by decide +kernel
theorem dX8_back_48 : decode cX8_back 48 = .ok (.getfield 216, 3) := by decide +kernel
theorem dX8_back_51 : decode cX8_back 51 = .ok (.ireturn, 1) := by decide +kernel
theorem dX8_count_0 : decode cX8_count 0 = .ok (.iload_n 1, 1) := by decide +kernel
theorem dX8_count_1 : decode cX8_count 1 = .ok (.tableswitch 87 0 5 #[39, 47, 55, 63, 71, 79], 39) := by decide +kernel
theorem dX8_count_40 : decode cX8_count 40 = .ok (.aload_n 0, 1) := by decide +kernel
theorem dX8_count_41 : decode cX8_count 41 = .ok (.getfield 28, 3) := by decide +kernel
theorem dX8_count_44 : decode cX8_count 44 = .ok (.getfield 216, 3) := by decide +kernel
theorem dX8_count_47 : decode cX8_count 47 = .ok (.ireturn, 1) := by decide +kernel
theorem dX8_count_48 : decode cX8_count 48 = .ok (.aload_n 0, 1) := by decide +kernel
theorem dX8_count_49 : decode cX8_count 49 = .ok (.getfield 28, 3) := by decide +kernel
theorem dX8_count_52 : decode cX8_count 52 = .ok (.invokevirtual 241, 3) := by decide +kernel
theorem dX8_count_55 : decode cX8_count 55 = .ok (.ireturn, 1) := by decide +kernel
theorem dX8_count_56 : decode cX8_count 56 = .ok (.aload_n 0, 1) := by decide +kernel
theorem dX8_count_57 : decode cX8_count 57 = .ok (.getfield 28, 3) := by decide +kernel
theorem dX8_count_60 : decode cX8_count 60 = .ok (.invokevirtual 244, 3) := by decide +kernel
theorem dX8_count_63 : decode cX8_count 63 = .ok (.ireturn, 1) := by decide +kernel
theorem dX8_count_64 : decode cX8_count 64 = .ok (.aload_n 0, 1) := by decide +kernel
theorem dX8_count_65 : decode cX8_count 65 = .ok (.getfield 50, 3) := by decide +kernel
theorem dX8_count_68 : decode cX8_count 68 = .ok (.getfield 215, 3) := by decide +kernel
theorem dX8_count_71 : decode cX8_count 71 = .ok (.ireturn, 1) := by decide +kernel
theorem dX8_count_72 : decode cX8_count 72 = .ok (.aload_n 0, 1) := by decide +kernel
theorem dX8_count_73 : decode cX8_count 73 = .ok (.getfield 12, 3) := by decide +kernel
theorem dX8_count_76 : decode cX8_count 76 = .ok (.getfield 81, 3) := by decide +kernel
theorem dX8_count_79 : decode cX8_count 79 = .ok (.ireturn, 1) := by decide +kernel
theorem dX8_count_80 : decode cX8_count 80 = .ok (.aload_n 0, 1) := by decide +kernel
theorem dX8_count_81 : decode cX8_count 81 = .ok (.getfield 35, 3) := by decide +kernel
theorem dX8_count_84 : decode cX8_count 84 = .ok (.getfield 137, 3) := by decide +kernel
theorem dX8_count_87 : decode cX8_count 87 = .ok (.ireturn, 1) := by decide +kernel
theorem dX8_count_88 : decode cX8_count 88 = .ok (.iconst (-1), 1) := by decide +kernel
theorem dX8_count_89 : decode cX8_count 89 = .ok (.ireturn, 1) := by decide +kernel
theorem dX8_levelsOf_0 : decode cX8_levelsOf 0 = .ok (.aload_n 0, 1) := by decide +kernel
theorem dX8_levelsOf_1 : decode cX8_levelsOf 1 = .ok (.getfield 28, 3) := by decide +kernel
theorem dX8_levelsOf_4 : decode cX8_levelsOf 4 = .ok (.getfield 113, 3) := by decide +kernel
theorem dX8_levelsOf_7 : decode cX8_levelsOf 7 = .ok (.iload_n 1, 1) := by decide +kernel
theorem dX8_levelsOf_8 : decode cX8_levelsOf 8 = .ok (.aaload, 1) := by decide +kernel
theorem dX8_levelsOf_9 : decode cX8_levelsOf 9 = .ok (.getfield 129, 3) := by decide +kernel
theorem dX8_levelsOf_12 : decode cX8_levelsOf 12 = .ok (.ifCond .eq 9, 3) := by decide +kernel
theorem dX8_levelsOf_15 : decode cX8_levelsOf 15 = .ok (.aload_n 0, 1) := by decide +kernel
theorem dX8_levelsOf_16 : decode cX8_levelsOf 16 = .ok (.iload_n 1, 1) := by decide +kernel
theorem dX8_levelsOf_17 : decode cX8_levelsOf 17 = .ok (.invokevirtual 217, 3) := by decide +kernel
theorem dX8_levelsOf_20 : decode cX8_levelsOf 20 = .ok (.areturn, 1) := by decide +kernel
theorem dX8_levelsOf_21 : decode cX8_levelsOf 21 = .ok (.aload_n 0, 1) := by decide +kernel
theorem dX8_levelsOf_22 : decode cX8_levelsOf 22 = .ok (.getfield 60, 3) := by decide +kernel
theorem dX8_levelsOf_25 : decode cX8_levelsOf 25 = .ok (.iload_n 1, 1) := by decide +kernel
theorem dX8_levelsOf_26 : decode cX8_levelsOf 26 = .ok (.aaload, 1) := by decide +kernel
theorem dX8_levelsOf_27 : decode cX8_levelsOf 27 = .ok (.aload_n 0, 1) := by decide +kernel
theorem dX8_levelsOf_28 : decode cX8_levelsOf 28 = .ok (.getfield 28, 3) := by decide +kernel
theorem dX8_levelsOf_31 : decode cX8_levelsOf 31 = .ok (.getfield 113, 3) := by decide +kernel
theorem dX8_levelsOf_34 : decode cX8_levelsOf 34 = .ok (.iload_n 1, 1) := by decide +kernel
theorem dX8_levelsOf_35 : decode cX8_levelsOf 35 = .ok (.aaload, 1) := by decide +kernel
theorem dX8_levelsOf_36 : decode cX8_levelsOf 36 = .ok (.invokevirtual 247, 3) := by decide +kernel
theorem dX8_levelsOf_39 : decode cX8_levelsOf 39 = .ok (.aload_n 0, 1) := by decide +kernel
theorem dX8_levelsOf_40 : decode cX8_levelsOf 40 = .ok (.getfield 60, 3) := by decide +kernel
theorem dX8_levelsOf_43 : decode cX8_levelsOf 43 = .ok (.iload_n 1, 1) := by decide +kernel
theorem dX8_levelsOf_44 : decode cX8_levelsOf 44 = .ok (.aaload, 1) := by decide +kernel
theorem dX8_levelsOf_45 : decode cX8_levelsOf 45 = .ok (.areturn, 1) := by decide +kernel
theorem dX8_lyingLevelsOf_0 : decode cX8_lyingLevelsOf 0 = .ok (.aload_n 0, 1) := by decide +kernel
theorem dX8_lyingLevelsOf_1 : decode cX8_lyingLevelsOf 1 = .ok (.getfield 56, 3) := by decide +kernel
theorem dX8_lyingLevelsOf_4 : decode cX8_lyingLevelsOf 4 = .ok (.iload_n 1, 1) := by decide +kernel
theorem dX8_lyingLevelsOf_5 : decode cX8_lyingLevelsOf 5 = .ok (.aaload, 1) := by decide +kernel
theorem dX8_lyingLevelsOf_6 : decode cX8_lyingLevelsOf 6 = .ok (.aload_n 0, 1) := by decide +kernel
theorem dX8_lyingLevelsOf_7 : decode cX8_lyingLevelsOf 7 = .ok (.getfield 28, 3) := by decide +kernel
theorem dX8_lyingLevelsOf_10 : decode cX8_lyingLevelsOf 10 = .ok (.getfield 113, 3) := by decide +kernel
theorem dX8_lyingLevelsOf_13 : decode cX8_lyingLevelsOf 13 = .ok (.iload_n 1, 1) := by decide +kernel
theorem dX8_lyingLevelsOf_14 : decode cX8_lyingLevelsOf 14 = .ok (.aaload, 1) := by decide +kernel
theorem dX8_lyingLevelsOf_15 : decode cX8_lyingLevelsOf 15 = .ok (.invokevirtual 247, 3) := by decide +kernel
theorem dX8_lyingLevelsOf_18 : decode cX8_lyingLevelsOf 18 = .ok (.aload_n 0, 1) := by decide +kernel
theorem dX8_lyingLevelsOf_19 : decode cX8_lyingLevelsOf 19 = .ok (.getfield 56, 3) := by decide +kernel
theorem dX8_lyingLevelsOf_22 : decode cX8_lyingLevelsOf 22 = .ok (.iload_n 1, 1) := by decide +kernel
theorem dX8_lyingLevelsOf_23 : decode cX8_lyingLevelsOf 23 = .ok (.aaload, 1) := by decide +kernel
theorem dX8_lyingLevelsOf_24 : decode cX8_lyingLevelsOf 24 = .ok (.areturn, 1) := by decide +kernel
theorem dX8_roomIn_0 : decode cX8_roomIn 0 = .ok (.aload_n 0, 1) := by decide +kernel
theorem dX8_roomIn_1 : decode cX8_roomIn 1 = .ok (.iload_n 1, 1) := by decide +kernel
theorem dX8_roomIn_2 : decode cX8_roomIn 2 = .ok (.invokevirtual 149, 3) := by decide +kernel
theorem dX8_roomIn_5 : decode cX8_roomIn 5 = .ok (.invokevirtual 153, 3) := by decide +kernel
theorem dX8_roomIn_8 : decode cX8_roomIn 8 = .ok (.aload_n 0, 1) := by decide +kernel
theorem dX8_roomIn_9 : decode cX8_roomIn 9 = .ok (.getfield 28, 3) := by decide +kernel
theorem dX8_roomIn_12 : decode cX8_roomIn 12 = .ok (.getfield 113, 3) := by decide +kernel
theorem dX8_roomIn_15 : decode cX8_roomIn 15 = .ok (.iload_n 1, 1) := by decide +kernel
theorem dX8_roomIn_16 : decode cX8_roomIn 16 = .ok (.aaload, 1) := by decide +kernel
theorem dX8_roomIn_17 : decode cX8_roomIn 17 = .ok (.getfield 123, 3) := by decide +kernel
theorem dX8_roomIn_20 : decode cX8_roomIn 20 = .ok (.isub, 1) := by decide +kernel
theorem dX8_roomIn_21 : decode cX8_roomIn 21 = .ok (.ireturn, 1) := by decide +kernel
theorem dX8_inThousandths_0 : decode cX8_inThousandths 0 = .ok (.ldc 251, 2) := by decide +kernel
theorem dX8_inThousandths_2 : decode cX8_inThousandths 2 = .ok (.fload_n 0, 1) := by decide +kernel
theorem dX8_inThousandths_3 : decode cX8_inThousandths 3 = .ok (.fmul, 1) := by decide +kernel
theorem dX8_inThousandths_4 : decode cX8_inThousandths 4 = .ok (.f2i, 1) := by decide +kernel
theorem dX8_inThousandths_5 : decode cX8_inThousandths 5 = .ok (.ireturn, 1) := by decide +kernel
theorem dX8_startAsking_0 : decode cX8_startAsking 0 = .ok (.iconst 0, 1) := by decide +kernel
theorem dX8_startAsking_1 : decode cX8_startAsking 1 = .ok (.istore_n 1, 1) := by decide +kernel
theorem dX8_startAsking_2 : decode cX8_startAsking 2 = .ok (.iload_n 1, 1) := by decide +kernel
theorem dX8_startAsking_3 : decode cX8_startAsking 3 = .ok (.iconst 4, 1) := by decide +kernel
theorem dX8_startAsking_4 : decode cX8_startAsking 4 = .ok (.if_icmp .ge 16, 3) := by decide +kernel
theorem dX8_startAsking_7 : decode cX8_startAsking 7 = .ok (.aload_n 0, 1) := by decide +kernel
theorem dX8_startAsking_8 : decode cX8_startAsking 8 = .ok (.getfield 73, 3) := by decide +kernel
theorem dX8_startAsking_11 : decode cX8_startAsking 11 = .ok (.iload_n 1, 1) := by decide +kernel
theorem dX8_startAsking_12 : decode cX8_startAsking 12 = .ok (.iconst 0, 1) := by decide +kernel
theorem dX8_startAsking_13 : decode cX8_startAsking 13 = .ok (.iastore, 1) := by decide +kernel
theorem dX8_startAsking_14 : decode cX8_startAsking 14 = .ok (.iinc 1 1, 3) := by decide +kernel
theorem dX8_startAsking_17 : decode cX8_startAsking 17 = .ok (.goto (-15), 3) := by decide +kernel
theorem dX8_startAsking_20 : decode cX8_startAsking 20 = .ok (.return_, 1) := by decide +kernel
theorem dX8_raiseAskedDips_0 : decode cX8_raiseAskedDips 0 = .ok (.iconst 0, 1) := by decide +kernel
theorem dX8_raiseAskedDips_1 : decode cX8_raiseAskedDips 1 = .ok (.istore_n 2, 1) := by decide +kernel
theorem dX8_raiseAskedDips_2 : decode cX8_raiseAskedDips 2 = .ok (.iconst 0, 1) := by decide +kernel
theorem dX8_raiseAskedDips_3 : decode cX8_raiseAskedDips 3 = .ok (.istore_n 3, 1) := by decide +kernel
theorem dX8_raiseAskedDips_4 : decode cX8_raiseAskedDips 4 = .ok (.iload_n 3, 1) := by decide +kernel
theorem dX8_raiseAskedDips_5 : decode cX8_raiseAskedDips 5 = .ok (.aload_n 0, 1) := by decide +kernel
theorem dX8_raiseAskedDips_6 : decode cX8_raiseAskedDips 6 = .ok (.getfield 28, 3) := by decide +kernel
theorem dX8_raiseAskedDips_9 : decode cX8_raiseAskedDips 9 = .ok (.getfield 216, 3) := by decide +kernel
theorem dX8_raiseAskedDips_12 : decode cX8_raiseAskedDips 12 = .ok (.if_icmp .ge 56, 3) := by decide +kernel
theorem dX8_raiseAskedDips_15 : decode cX8_raiseAskedDips 15 = .ok (.aload_n 0, 1) := by decide +kernel
theorem dX8_raiseAskedDips_16 : decode cX8_raiseAskedDips 16 = .ok (.getfield 56, 3) := by decide +kernel
theorem dX8_raiseAskedDips_19 : decode cX8_raiseAskedDips 19 = .ok (.iload_n 3, 1) := by decide +kernel
theorem dX8_raiseAskedDips_20 : decode cX8_raiseAskedDips 20 = .ok (.aaload, 1) := by decide +kernel
theorem dX8_raiseAskedDips_21 : decode cX8_raiseAskedDips 21 = .ok (.aload_n 0, 1) := by decide +kernel
theorem dX8_raiseAskedDips_22 : decode cX8_raiseAskedDips 22 = .ok (.getfield 73, 3) := by decide +kernel
theorem dX8_raiseAskedDips_25 : decode cX8_raiseAskedDips 25 = .ok (.iload_n 3, 1) := by decide +kernel
theorem dX8_raiseAskedDips_26 : decode cX8_raiseAskedDips 26 = .ok (.iaload, 1) := by decide +kernel
theorem dX8_raiseAskedDips_27 : decode cX8_raiseAskedDips 27 = .ok (.iload_n 1, 1) := by decide +kernel
theorem dX8_raiseAskedDips_28 : decode cX8_raiseAskedDips 28 = .ok (.invokevirtual 252, 3) := by decide +kernel
theorem dX8_raiseAskedDips_31 : decode cX8_raiseAskedDips 31 = .ok (.istore 4, 2) := by decide +kernel
theorem dX8_raiseAskedDips_33 : decode cX8_raiseAskedDips 33 = .ok (.iload_n 2, 1) := by decide +kernel
theorem dX8_raiseAskedDips_34 : decode cX8_raiseAskedDips 34 = .ok (.ifCond .ne 14, 3) := by decide +kernel
theorem dX8_raiseAskedDips_37 : decode cX8_raiseAskedDips 37 = .ok (.iload 4, 2) := by decide +kernel
theorem dX8_raiseAskedDips_39 : decode cX8_raiseAskedDips 39 = .ok (.aload_n 0, 1) := by decide +kernel
theorem dX8_raiseAskedDips_40 : decode cX8_raiseAskedDips 40 = .ok (.getfield 73, 3) := by decide +kernel
theorem dX8_raiseAskedDips_43 : decode cX8_raiseAskedDips 43 = .ok (.iload_n 3, 1) := by decide +kernel
theorem dX8_raiseAskedDips_44 : decode cX8_raiseAskedDips 44 = .ok (.iaload, 1) := by decide +kernel
theorem dX8_raiseAskedDips_45 : decode cX8_raiseAskedDips 45 = .ok (.if_icmp .eq 7, 3) := by decide +kernel
theorem dX8_raiseAskedDips_48 : decode cX8_raiseAskedDips 48 = .ok (.iconst 1, 1) := by decide +kernel
theorem dX8_raiseAskedDips_49 : decode cX8_raiseAskedDips 49 = .ok (.goto 4, 3) := by decide +kernel
theorem dX8_raiseAskedDips_52 : decode cX8_raiseAskedDips 52 = .ok (.iconst 0, 1) := by decide +kernel
theorem dX8_raiseAskedDips_53 : decode cX8_raiseAskedDips 53 = .ok (.istore_n 2, 1) := by decide +kernel
theorem dX8_raiseAskedDips_54 : decode cX8_raiseAskedDips 54 = .ok (.aload_n 0, 1) := by decide +kernel
theorem dX8_raiseAskedDips_55 : decode cX8_raiseAskedDips 55 = .ok (.getfield 73, 3) := by decide +kernel
theorem dX8_raiseAskedDips_58 : decode cX8_raiseAskedDips 58 = .ok (.iload_n 3, 1) := by decide +kernel
theorem dX8_raiseAskedDips_59 : decode cX8_raiseAskedDips 59 = .ok (.iload 4, 2) := by decide +kernel
theorem dX8_raiseAskedDips_61 : decode cX8_raiseAskedDips 61 = .ok (.iastore, 1) := by decide +kernel
theorem dX8_raiseAskedDips_62 : decode cX8_raiseAskedDips 62 = .ok (.iinc 3 1, 3) := by decide +kernel
theorem dX8_raiseAskedDips_65 : decode cX8_raiseAskedDips 65 = .ok (.goto (-61), 3) := by decide +kernel
theorem dX8_raiseAskedDips_68 : decode cX8_raiseAskedDips 68 = .ok (.iload_n 2, 1) := by decide +kernel
theorem dX8_raiseAskedDips_69 : decode cX8_raiseAskedDips 69 = .ok (.ireturn, 1) := by decide +kernel
theorem dX8_mostAlike_0 : decode cX8_mostAlike 0 = .ok (.iconst 0, 1) := by decide +kernel
theorem dX8_mostAlike_1 : decode cX8_mostAlike 1 = .ok (.istore_n 2, 1) := by decide +kernel
theorem dX8_mostAlike_2 : decode cX8_mostAlike 2 = .ok (.iconst 0, 1) := by decide +kernel
theorem dX8_mostAlike_3 : decode cX8_mostAlike 3 = .ok (.istore_n 3, 1) := by decide +kernel
theorem dX8_mostAlike_4 : decode cX8_mostAlike 4 = .ok (.iload_n 3, 1) := by decide +kernel
theorem dX8_mostAlike_5 : decode cX8_mostAlike 5 = .ok (.iconst 4, 1) := by decide +kernel
theorem dX8_mostAlike_6 : decode cX8_mostAlike 6 = .ok (.if_icmp .ge 67, 3) := by decide +kernel
theorem dX8_mostAlike_9 : decode cX8_mostAlike 9 = .ok (.iconst 0, 1) := by decide +kernel
theorem dX8_mostAlike_10 : decode cX8_mostAlike 10 = .ok (.istore 4, 2) := by decide +kernel
theorem dX8_mostAlike_12 : decode cX8_mostAlike 12 = .ok (.iconst 0, 1) := by decide +kernel
theorem dX8_mostAlike_13 : decode cX8_mostAlike 13 = .ok (.istore 5, 2) := by decide +kernel
theorem dX8_mostAlike_15 : decode cX8_mostAlike 15 = .ok (.iload 5, 2) := by decide +kernel
theorem dX8_mostAlike_17 : decode cX8_mostAlike 17 = .ok (.iconst 4, 1) := by decide +kernel
theorem dX8_mostAlike_18 : decode cX8_mostAlike 18 = .ok (.if_icmp .ge 42, 3) := by decide +kernel
theorem dX8_mostAlike_21 : decode cX8_mostAlike 21 = .ok (.iload_n 1, 1) := by decide +kernel
theorem dX8_mostAlike_22 : decode cX8_mostAlike 22 = .ok (.iload_n 3, 1) := by decide +kernel
theorem dX8_mostAlike_23 : decode cX8_mostAlike 23 = .ok (.ishr, 1) := by decide +kernel
theorem dX8_mostAlike_24 : decode cX8_mostAlike 24 = .ok (.iload_n 1, 1) := by decide +kernel
theorem dX8_mostAlike_25 : decode cX8_mostAlike 25 = .ok (.iload 5, 2) := by decide +kernel
theorem dX8_mostAlike_27 : decode cX8_mostAlike 27 = .ok (.ishr, 1) := by decide +kernel
theorem dX8_mostAlike_28 : decode cX8_mostAlike 28 = .ok (.iand, 1) := by decide +kernel
theorem dX8_mostAlike_29 : decode cX8_mostAlike 29 = .ok (.iconst 1, 1) := by decide +kernel
theorem dX8_mostAlike_30 : decode cX8_mostAlike 30 = .ok (.iand, 1) := by decide +kernel
theorem dX8_mostAlike_31 : decode cX8_mostAlike 31 = .ok (.iconst 1, 1) := by decide +kernel
theorem dX8_mostAlike_32 : decode cX8_mostAlike 32 = .ok (.if_icmp .ne 22, 3) := by decide +kernel
theorem dX8_mostAlike_35 : decode cX8_mostAlike 35 = .ok (.aload_n 0, 1) := by decide +kernel
theorem dX8_mostAlike_36 : decode cX8_mostAlike 36 = .ok (.getfield 73, 3) := by decide +kernel
theorem dX8_mostAlike_39 : decode cX8_mostAlike 39 = .ok (.iload_n 3, 1) := by decide +kernel
theorem dX8_mostAlike_40 : decode cX8_mostAlike 40 = .ok (.iaload, 1) := by decide +kernel
theorem dX8_mostAlike_41 : decode cX8_mostAlike 41 = .ok (.aload_n 0, 1) := by decide +kernel
theorem dX8_mostAlike_42 : decode cX8_mostAlike 42 = .ok (.getfield 73, 3) := by decide +kernel
theorem dX8_mostAlike_45 : decode cX8_mostAlike 45 = .ok (.iload 5, 2) := by decide +kernel
theorem dX8_mostAlike_47 : decode cX8_mostAlike 47 = .ok (.iaload, 1) := by decide +kernel
theorem dX8_mostAlike_48 : decode cX8_mostAlike 48 = .ok (.if_icmp .ne 6, 3) := by decide +kernel
theorem dX8_mostAlike_51 : decode cX8_mostAlike 51 = .ok (.iinc 4 1, 3) := by decide +kernel
theorem dX8_mostAlike_54 : decode cX8_mostAlike 54 = .ok (.iinc 5 1, 3) := by decide +kernel
theorem dX8_mostAlike_57 : decode cX8_mostAlike 57 = .ok (.goto (-42), 3) := by decide +kernel
theorem dX8_mostAlike_60 : decode cX8_mostAlike 60 = .ok (.iload_n 2, 1) := by decide +kernel
theorem dX8_mostAlike_61 : decode cX8_mostAlike 61 = .ok (.iload 4, 2) := by decide +kernel
theorem dX8_mostAlike_63 : decode cX8_mostAlike 63 = .ok (.invokestatic 255, 3) := by decide +kernel
theorem dX8_mostAlike_66 : decode cX8_mostAlike 66 = .ok (.istore_n 2, 1) := by decide +kernel
theorem dX8_mostAlike_67 : decode cX8_mostAlike 67 = .ok (.iinc 3 1, 3) := by decide +kernel
theorem dX8_mostAlike_70 : decode cX8_mostAlike 70 = .ok (.goto (-66), 3) := by decide +kernel
theorem dX8_mostAlike_73 : decode cX8_mostAlike 73 = .ok (.iload_n 2, 1) := by decide +kernel
theorem dX8_mostAlike_74 : decode cX8_mostAlike 74 = .ok (.ireturn, 1) := by decide +kernel
