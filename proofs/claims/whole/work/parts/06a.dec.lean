theorem dX0_init_0 : decode cX0_init 0 = .ok (.aload_n 0, 1) := by decide +kernel
theorem dX0_init_1 : decode cX0_init 1 = .ok (.invokespecial 1, 3) := by decide +kernel
theorem dX0_init_4 : decode cX0_init 4 = .ok (.return_, 1) := by decide +kernel
theorem dX0_becomeNew_0 : decode cX0_becomeNew 0 = .ok (.aload_n 0, 1) := by decide +kernel
theorem dX0_becomeNew_1 : decode cX0_becomeNew 1 = .ok (.iload_n 1, 1) := by decide +kernel
theorem dX0_becomeNew_2 : decode cX0_becomeNew 2 = .ok (.putfield 7, 3) := by decide +kernel
theorem dX0_becomeNew_5 : decode cX0_becomeNew 5 = .ok (.aload_n 0, 1) := by decide +kernel
theorem dX0_becomeNew_6 : decode cX0_becomeNew 6 = .ok (.iload_n 2, 1) := by decide +kernel
theorem dX0_becomeNew_7 : decode cX0_becomeNew 7 = .ok (.putfield 13, 3) := by decide +kernel
theorem dX0_becomeNew_10 : decode cX0_becomeNew 10 = .ok (.aload_n 0, 1) := by decide +kernel
theorem dX0_becomeNew_11 : decode cX0_becomeNew 11 = .ok (.iload_n 3, 1) := by decide +kernel
theorem dX0_becomeNew_12 : decode cX0_becomeNew 12 = .ok (.putfield 16, 3) := by decide +kernel
theorem dX0_becomeNew_15 : decode cX0_becomeNew 15 = .ok (.aload_n 0, 1) := by decide +kernel
theorem dX0_becomeNew_16 : decode cX0_becomeNew 16 = .ok (.iconst 1, 1) := by decide +kernel
theorem dX0_becomeNew_17 : decode cX0_becomeNew 17 = .ok (.putfield 19, 3) := by decide +kernel
theorem dX0_becomeNew_20 : decode cX0_becomeNew 20 = .ok (.aload_n 0, 1) := by decide +kernel
theorem dX0_becomeNew_21 : decode cX0_becomeNew 21 = .ok (.iconst 0, 1) := by decide +kernel
theorem dX0_becomeNew_22 : decode cX0_becomeNew 22 = .ok (.putfield 23, 3) := by decide +kernel
theorem dX0_becomeNew_25 : decode cX0_becomeNew 25 = .ok (.aload_n 0, 1) := by decide +kernel
theorem dX0_becomeNew_26 : decode cX0_becomeNew 26 = .ok (.iconst 0, 1) := by decide +kernel
theorem dX0_becomeNew_27 : decode cX0_becomeNew 27 = .ok (.putfield 26, 3) := by decide +kernel
theorem dX0_becomeNew_30 : decode cX0_becomeNew 30 = .ok (.return_, 1) := by decide +kernel
theorem dX0_copyFrom_0 : decode cX0_copyFrom 0 = .ok (.aload_n 0, 1) := by decide +kernel
theorem dX0_copyFrom_1 : decode cX0_copyFrom 1 = .ok (.aload_n 1, 1) := by decide +kernel
theorem dX0_copyFrom_2 : decode cX0_copyFrom 2 = .ok (.getfield 7, 3) := by decide +kernel
theorem dX0_copyFrom_5 : decode cX0_copyFrom 5 = .ok (.putfield 7, 3) := by decide +kernel
theorem dX0_copyFrom_8 : decode cX0_copyFrom 8 = .ok (.aload_n 0, 1) := by decide +kernel
theorem dX0_copyFrom_9 : decode cX0_copyFrom 9 = .ok (.aload_n 1, 1) := by decide +kernel
theorem dX0_copyFrom_10 : decode cX0_copyFrom 10 = .ok (.getfield 13, 3) := by decide +kernel
theorem dX0_copyFrom_13 : decode cX0_copyFrom 13 = .ok (.putfield 13, 3) := by decide +kernel
theorem dX0_copyFrom_16 : decode cX0_copyFrom 16 = .ok (.aload_n 0, 1) := by decide +kernel
theorem dX0_copyFrom_17 : decode cX0_copyFrom 17 = .ok (.aload_n 1, 1) := by decide +kernel
theorem dX0_copyFrom_18 : decode cX0_copyFrom 18 = .ok (.getfield 16, 3) := by decide +kernel
theorem dX0_copyFrom_21 : decode cX0_copyFrom 21 = .ok (.putfield 16, 3) := by decide +kernel
theorem dX0_copyFrom_24 : decode cX0_copyFrom 24 = .ok (.aload_n 0, 1) := by decide +kernel
theorem dX0_copyFrom_25 : decode cX0_copyFrom 25 = .ok (.aload_n 1, 1) := by decide +kernel
theorem dX0_copyFrom_26 : decode cX0_copyFrom 26 = .ok (.getfield 19, 3) := by decide +kernel
theorem dX0_copyFrom_29 : decode cX0_copyFrom 29 = .ok (.putfield 19, 3) := by decide +kernel
theorem dX0_copyFrom_32 : decode cX0_copyFrom 32 = .ok (.aload_n 0, 1) := by decide +kernel
theorem dX0_copyFrom_33 : decode cX0_copyFrom 33 = .ok (.aload_n 1, 1) := by decide +kernel
theorem dX0_copyFrom_34 : decode cX0_copyFrom 34 = .ok (.getfield 23, 3) := by decide +kernel
theorem dX0_copyFrom_37 : decode cX0_copyFrom 37 = .ok (.putfield 23, 3) := by decide +kernel
theorem dX0_copyFrom_40 : decode cX0_copyFrom 40 = .ok (.aload_n 0, 1) := by decide +kernel
theorem dX0_copyFrom_41 : decode cX0_copyFrom 41 = .ok (.aload_n 1, 1) := by decide +kernel
theorem dX0_copyFrom_42 : decode cX0_copyFrom 42 = .ok (.getfield 26, 3) := by decide +kernel
theorem dX0_copyFrom_45 : decode cX0_copyFrom 45 = .ok (.putfield 26, 3) := by decide +kernel
theorem dX0_copyFrom_48 : decode cX0_copyFrom 48 = .ok (.return_, 1) := by decide +kernel
theorem dX0_radiusOf_0 : decode cX0_radiusOf 0 = .ok (.aload_n 0, 1) := by decide +kernel
theorem dX0_radiusOf_1 : decode cX0_radiusOf 1 = .ok (.getfield 7, 3) := by decide +kernel
theorem dX0_radiusOf_4 : decode cX0_radiusOf 4 = .ok (.aload_n 0, 1) := by decide +kernel
theorem dX0_radiusOf_5 : decode cX0_radiusOf 5 = .ok (.getfield 7, 3) := by decide +kernel
theorem dX0_radiusOf_8 : decode cX0_radiusOf 8 = .ok (.imul, 1) := by decide +kernel
theorem dX0_radiusOf_9 : decode cX0_radiusOf 9 = .ok (.istore_n 2, 1) := by decide +kernel
theorem dX0_radiusOf_10 : decode cX0_radiusOf 10 = .ok (.iload_n 2, 1) := by decide +kernel
theorem dX0_radiusOf_11 : decode cX0_radiusOf 11 = .ok (.ifCond .ne 8, 3) := by decide +kernel
theorem dX0_radiusOf_14 : decode cX0_radiusOf 14 = .ok (.aload_n 0, 1) := by decide +kernel
theorem dX0_radiusOf_15 : decode cX0_radiusOf 15 = .ok (.getfield 16, 3) := by decide +kernel
theorem dX0_radiusOf_18 : decode cX0_radiusOf 18 = .ok (.ireturn, 1) := by decide +kernel
theorem dX0_radiusOf_19 : decode cX0_radiusOf 19 = .ok (.iconst 2, 1) := by decide +kernel
theorem dX0_radiusOf_20 : decode cX0_radiusOf 20 = .ok (.iload_n 1, 1) := by decide +kernel
theorem dX0_radiusOf_21 : decode cX0_radiusOf 21 = .ok (.imul, 1) := by decide +kernel
theorem dX0_radiusOf_22 : decode cX0_radiusOf 22 = .ok (.iconst 1, 1) := by decide +kernel
theorem dX0_radiusOf_23 : decode cX0_radiusOf 23 = .ok (.iadd, 1) := by decide +kernel
theorem dX0_radiusOf_24 : decode cX0_radiusOf 24 = .ok (.aload_n 0, 1) := by decide +kernel
theorem dX0_radiusOf_25 : decode cX0_radiusOf 25 = .ok (.getfield 7, 3) := by decide +kernel
theorem dX0_radiusOf_28 : decode cX0_radiusOf 28 = .ok (.isub, 1) := by decide +kernel
theorem dX0_radiusOf_29 : decode cX0_radiusOf 29 = .ok (.istore_n 3, 1) := by decide +kernel
theorem dX0_radiusOf_30 : decode cX0_radiusOf 30 = .ok (.aload_n 0, 1) := by decide +kernel
theorem dX0_radiusOf_31 : decode cX0_radiusOf 31 = .ok (.getfield 16, 3) := by decide +kernel
theorem dX0_radiusOf_34 : decode cX0_radiusOf 34 = .ok (.aload_n 0, 1) := by decide +kernel
theorem dX0_radiusOf_35 : decode cX0_radiusOf 35 = .ok (.getfield 16, 3) := by decide +kernel
theorem dX0_radiusOf_38 : decode cX0_radiusOf 38 = .ok (.aload_n 0, 1) := by decide +kernel
theorem dX0_radiusOf_39 : decode cX0_radiusOf 39 = .ok (.getfield 13, 3) := by decide +kernel
theorem dX0_radiusOf_42 : decode cX0_radiusOf 42 = .ok (.isub, 1) := by decide +kernel
theorem dX0_radiusOf_43 : decode cX0_radiusOf 43 = .ok (.iload_n 3, 1) := by decide +kernel
theorem dX0_radiusOf_44 : decode cX0_radiusOf 44 = .ok (.imul, 1) := by decide +kernel
theorem dX0_radiusOf_45 : decode cX0_radiusOf 45 = .ok (.iload_n 3, 1) := by decide +kernel
theorem dX0_radiusOf_46 : decode cX0_radiusOf 46 = .ok (.imul, 1) := by decide +kernel
theorem dX0_radiusOf_47 : decode cX0_radiusOf 47 = .ok (.iload_n 2, 1) := by decide +kernel
theorem dX0_radiusOf_48 : decode cX0_radiusOf 48 = .ok (.idiv, 1) := by decide +kernel
theorem dX0_radiusOf_49 : decode cX0_radiusOf 49 = .ok (.isub, 1) := by decide +kernel
theorem dX0_radiusOf_50 : decode cX0_radiusOf 50 = .ok (.ireturn, 1) := by decide +kernel
theorem dX0_cellsOf_0 : decode cX0_cellsOf 0 = .ok (.iconst 2, 1) := by decide +kernel
theorem dX0_cellsOf_1 : decode cX0_cellsOf 1 = .ok (.iload_n 2, 1) := by decide +kernel
theorem dX0_cellsOf_2 : decode cX0_cellsOf 2 = .ok (.imul, 1) := by decide +kernel
theorem dX0_cellsOf_3 : decode cX0_cellsOf 3 = .ok (.iconst 1, 1) := by decide +kernel
theorem dX0_cellsOf_4 : decode cX0_cellsOf 4 = .ok (.iadd, 1) := by decide +kernel
theorem dX0_cellsOf_5 : decode cX0_cellsOf 5 = .ok (.iconst 2, 1) := by decide +kernel
theorem dX0_cellsOf_6 : decode cX0_cellsOf 6 = .ok (.aload_n 0, 1) := by decide +kernel
theorem dX0_cellsOf_7 : decode cX0_cellsOf 7 = .ok (.getfield 16, 3) := by decide +kernel
theorem dX0_cellsOf_10 : decode cX0_cellsOf 10 = .ok (.imul, 1) := by decide +kernel
theorem dX0_cellsOf_11 : decode cX0_cellsOf 11 = .ok (.isub, 1) := by decide +kernel
theorem dX0_cellsOf_12 : decode cX0_cellsOf 12 = .ok (.istore_n 3, 1) := by decide +kernel
theorem dX0_cellsOf_13 : decode cX0_cellsOf 13 = .ok (.iconst 4, 1) := by decide +kernel
theorem dX0_cellsOf_14 : decode cX0_cellsOf 14 = .ok (.iload_n 1, 1) := by decide +kernel
theorem dX0_cellsOf_15 : decode cX0_cellsOf 15 = .ok (.imul, 1) := by decide +kernel
theorem dX0_cellsOf_16 : decode cX0_cellsOf 16 = .ok (.iload_n 1, 1) := by decide +kernel
theorem dX0_cellsOf_17 : decode cX0_cellsOf 17 = .ok (.imul, 1) := by decide +kernel
theorem dX0_cellsOf_18 : decode cX0_cellsOf 18 = .ok (.iload_n 3, 1) := by decide +kernel
theorem dX0_cellsOf_19 : decode cX0_cellsOf 19 = .ok (.iload_n 3, 1) := by decide +kernel
theorem dX0_cellsOf_20 : decode cX0_cellsOf 20 = .ok (.imul, 1) := by decide +kernel
theorem dX0_cellsOf_21 : decode cX0_cellsOf 21 = .ok (.isub, 1) := by decide +kernel
theorem dX0_cellsOf_22 : decode cX0_cellsOf 22 = .ok (.istore 4, 2) := by decide +kernel
theorem dX0_cellsOf_24 : decode cX0_cellsOf 24 = .ok (.iconst 0, 1) := by decide +kernel
theorem dX0_cellsOf_25 : decode cX0_cellsOf 25 = .ok (.istore 5, 2) := by decide +kernel
theorem dX0_cellsOf_27 : decode cX0_cellsOf 27 = .ok (.iload 5, 2) := by decide +kernel
theorem dX0_cellsOf_29 : decode cX0_cellsOf 29 = .ok (.iload_n 1, 1) := by decide +kernel
theorem dX0_cellsOf_30 : decode cX0_cellsOf 30 = .ok (.if_icmp .ge 25, 3) := by decide +kernel
theorem dX0_cellsOf_33 : decode cX0_cellsOf 33 = .ok (.iconst 4, 1) := by decide +kernel
theorem dX0_cellsOf_34 : decode cX0_cellsOf 34 = .ok (.iload 5, 2) := by decide +kernel
theorem dX0_cellsOf_36 : decode cX0_cellsOf 36 = .ok (.iconst 1, 1) := by decide +kernel
theorem dX0_cellsOf_37 : decode cX0_cellsOf 37 = .ok (.iadd, 1) := by decide +kernel
theorem dX0_cellsOf_38 : decode cX0_cellsOf 38 = .ok (.imul, 1) := by decide +kernel
theorem dX0_cellsOf_39 : decode cX0_cellsOf 39 = .ok (.iload 5, 2) := by decide +kernel
theorem dX0_cellsOf_41 : decode cX0_cellsOf 41 = .ok (.iconst 1, 1) := by decide +kernel
theorem dX0_cellsOf_42 : decode cX0_cellsOf 42 = .ok (.iadd, 1) := by decide +kernel
theorem dX0_cellsOf_43 : decode cX0_cellsOf 43 = .ok (.imul, 1) := by decide +kernel
theorem dX0_cellsOf_44 : decode cX0_cellsOf 44 = .ok (.iload 4, 2) := by decide +kernel
theorem dX0_cellsOf_46 : decode cX0_cellsOf 46 = .ok (.if_icmp .gt 9, 3) := by decide +kernel
theorem dX0_cellsOf_49 : decode cX0_cellsOf 49 = .ok (.iinc 5 1, 3) := by decide +kernel
theorem dX0_cellsOf_52 : decode cX0_cellsOf 52 = .ok (.goto (-25), 3) := by decide +kernel
theorem dX0_cellsOf_55 : decode cX0_cellsOf 55 = .ok (.iconst 2, 1) := by decide +kernel
theorem dX0_cellsOf_56 : decode cX0_cellsOf 56 = .ok (.iload 5, 2) := by decide +kernel
theorem dX0_cellsOf_58 : decode cX0_cellsOf 58 = .ok (.imul, 1) := by decide +kernel
theorem dX0_cellsOf_59 : decode cX0_cellsOf 59 = .ok (.ireturn, 1) := by decide +kernel
theorem dX0_takeIn_0 : decode cX0_takeIn 0 = .ok (.aload_n 0, 1) := by decide +kernel
theorem dX0_takeIn_1 : decode cX0_takeIn 1 = .ok (.dup, 1) := by decide +kernel
theorem dX0_takeIn_2 : decode cX0_takeIn 2 = .ok (.getfield 23, 3) := by decide +kernel
theorem dX0_takeIn_5 : decode cX0_takeIn 5 = .ok (.iload_n 1, 1) := by decide +kernel
theorem dX0_takeIn_6 : decode cX0_takeIn 6 = .ok (.iadd, 1) := by decide +kernel
theorem dX0_takeIn_7 : decode cX0_takeIn 7 = .ok (.putfield 23, 3) := by decide +kernel
theorem dX0_takeIn_10 : decode cX0_takeIn 10 = .ok (.aload_n 0, 1) := by decide +kernel
theorem dX0_takeIn_11 : decode cX0_takeIn 11 = .ok (.dup, 1) := by decide +kernel
theorem dX0_takeIn_12 : decode cX0_takeIn 12 = .ok (.getfield 26, 3) := by decide +kernel
theorem dX0_takeIn_15 : decode cX0_takeIn 15 = .ok (.iload_n 2, 1) := by decide +kernel
theorem dX0_takeIn_16 : decode cX0_takeIn 16 = .ok (.iadd, 1) := by decide +kernel
theorem dX0_takeIn_17 : decode cX0_takeIn 17 = .ok (.putfield 26, 3) := by decide +kernel
theorem dX0_takeIn_20 : decode cX0_takeIn 20 = .ok (.return_, 1) := by decide +kernel
theorem dX0_giveOut_0 : decode cX0_giveOut 0 = .ok (.aload_n 0, 1) := by decide +kernel
theorem dX0_giveOut_1 : decode cX0_giveOut 1 = .ok (.getfield 23, 3) := by decide +kernel
theorem dX0_giveOut_4 : decode cX0_giveOut 4 = .ok (.ifCond .ne 5, 3) := by decide +kernel
theorem dX0_giveOut_7 : decode cX0_giveOut 7 = .ok (.iconst 0, 1) := by decide +kernel
theorem dX0_giveOut_8 : decode cX0_giveOut 8 = .ok (.ireturn, 1) := by decide +kernel
theorem dX0_giveOut_9 : decode cX0_giveOut 9 = .ok (.aload_n 0, 1) := by decide +kernel
theorem dX0_giveOut_10 : decode cX0_giveOut 10 = .ok (.getfield 26, 3) := by decide +kernel
theorem dX0_giveOut_13 : decode cX0_giveOut 13 = .ok (.iload_n 1, 1) := by decide +kernel
theorem dX0_giveOut_14 : decode cX0_giveOut 14 = .ok (.imul, 1) := by decide +kernel
theorem dX0_giveOut_15 : decode cX0_giveOut 15 = .ok (.aload_n 0, 1) := by decide +kernel
theorem dX0_giveOut_16 : decode cX0_giveOut 16 = .ok (.getfield 23, 3) := by decide +kernel
theorem dX0_giveOut_19 : decode cX0_giveOut 19 = .ok (.idiv, 1) := by decide +kernel
theorem dX0_giveOut_20 : decode cX0_giveOut 20 = .ok (.istore_n 2, 1) := by decide +kernel
theorem dX0_giveOut_21 : decode cX0_giveOut 21 = .ok (.aload_n 0, 1) := by decide +kernel
theorem dX0_giveOut_22 : decode cX0_giveOut 22 = .ok (.dup, 1) := by decide +kernel
theorem dX0_giveOut_23 : decode cX0_giveOut 23 = .ok (.getfield 23, 3) := by decide +kernel
theorem dX0_giveOut_26 : decode cX0_giveOut 26 = .ok (.iload_n 1, 1) := by decide +kernel
theorem dX0_giveOut_27 : decode cX0_giveOut 27 = .ok (.isub, 1) := by decide +kernel
theorem dX0_giveOut_28 : decode cX0_giveOut 28 = .ok (.putfield 23, 3) := by decide +kernel
theorem dX0_giveOut_31 : decode cX0_giveOut 31 = .ok (.aload_n 0, 1) := by decide +kernel
theorem dX0_giveOut_32 : decode cX0_giveOut 32 = .ok (.dup, 1) := by decide +kernel
theorem dX0_giveOut_33 : decode cX0_giveOut 33 = .ok (.getfield 26, 3) := by decide +kernel
theorem dX0_giveOut_36 : decode cX0_giveOut 36 = .ok (.iload_n 2, 1) := by decide +kernel
theorem dX0_giveOut_37 : decode cX0_giveOut 37 = .ok (.isub, 1) := by decide +kernel
theorem dX0_giveOut_38 : decode cX0_giveOut 38 = .ok (.putfield 26, 3) := by decide +kernel
theorem dX0_giveOut_41 : decode cX0_giveOut 41 = .ok (.iload_n 2, 1) := by decide +kernel
theorem dX0_giveOut_42 : decode cX0_giveOut 42 = .ok (.ireturn, 1) := by decide +kernel
theorem dX0_strength_0 : decode cX0_strength 0 = .ok (.aload_n 0, 1) := by decide +kernel
theorem dX0_strength_1 : decode cX0_strength 1 = .ok (.getfield 23, 3) := by decide +kernel
theorem dX0_strength_4 : decode cX0_strength 4 = .ok (.ifCond .ne 7, 3) := by decide +kernel
theorem dX0_strength_7 : decode cX0_strength 7 = .ok (.fconst 0, 1) := by decide +kernel
theorem dX0_strength_8 : decode cX0_strength 8 = .ok (.goto 14, 3) := by decide +kernel
theorem dX0_strength_11 : decode cX0_strength 11 = .ok (.aload_n 0, 1) := by decide +kernel
theorem dX0_strength_12 : decode cX0_strength 12 = .ok (.getfield 26, 3) := by decide +kernel
theorem dX0_strength_15 : decode cX0_strength 15 = .ok (.i2f, 1) := by decide +kernel
theorem dX0_strength_16 : decode cX0_strength 16 = .ok (.aload_n 0, 1) := by decide +kernel
theorem dX0_strength_17 : decode cX0_strength 17 = .ok (.getfield 23, 3) := by decide +kernel
theorem dX0_strength_20 : decode cX0_strength 20 = .ok (.i2f, 1) := by decide +kernel
theorem dX0_strength_21 : decode cX0_strength 21 = .ok (.fdiv, 1) := by decide +kernel
theorem dX0_strength_22 : decode cX0_strength 22 = .ok (.freturn, 1) := by decide +kernel
theorem dX1_init_0 : decode cX1_init 0 = .ok (.aload_n 0, 1) := by decide +kernel
theorem dX1_init_1 : decode cX1_init 1 = .ok (.invokespecial 3, 3) := by decide +kernel
theorem dX1_init_4 : decode cX1_init 4 = .ok (.aload_n 0, 1) := by decide +kernel
theorem dX1_init_5 : decode cX1_init 5 = .ok (.iconst 4, 1) := by decide +kernel
theorem dX1_init_6 : decode cX1_init 6 = .ok (.anewarray 9, 3) := by decide +kernel
theorem dX1_init_9 : decode cX1_init 9 = .ok (.putfield 11, 3) := by decide +kernel
theorem dX1_init_12 : decode cX1_init 12 = .ok (.iconst 0, 1) := by decide +kernel
theorem dX1_init_13 : decode cX1_init 13 = .ok (.istore_n 1, 1) := by decide +kernel
theorem dX1_init_14 : decode cX1_init 14 = .ok (.iload_n 1, 1) := by decide +kernel
theorem dX1_init_15 : decode cX1_init 15 = .ok (.iconst 4, 1) := by decide +kernel
theorem dX1_init_16 : decode cX1_init 16 = .ok (.if_icmp .ge 22, 3) := by decide +kernel
theorem dX1_init_19 : decode cX1_init 19 = .ok (.aload_n 0, 1) := by decide +kernel
theorem dX1_init_20 : decode cX1_init 20 = .ok (.getfield 11, 3) := by decide +kernel
theorem dX1_init_23 : decode cX1_init 23 = .ok (.iload_n 1, 1) := by decide +kernel
theorem dX1_init_24 : decode cX1_init 24 = .ok (.new 9, 3) := by decide +kernel
theorem dX1_init_27 : decode cX1_init 27 = .ok (.dup, 1) := by decide +kernel
theorem dX1_init_28 : decode cX1_init 28 = .ok (.invokespecial 17, 3) := by decide +kernel
theorem dX1_init_31 : decode cX1_init 31 = .ok (.aastore, 1) := by decide +kernel
theorem dX1_init_32 : decode cX1_init 32 = .ok (.iinc 1 1, 3) := by decide +kernel
theorem dX1_init_35 : decode cX1_init 35 = .ok (.goto (-21), 3) := by decide +kernel
theorem dX1_init_38 : decode cX1_init 38 = .ok (.return_, 1) := by decide +kernel
theorem dX1_has_0 : decode cX1_has 0 = .ok (.iload_n 1, 1) := by decide +kernel
theorem dX1_has_1 : decode cX1_has 1 = .ok (.ifCond .lt 15, 3) := by decide +kernel
theorem dX1_has_4 : decode cX1_has 4 = .ok (.iload_n 1, 1) := by decide +kernel
theorem dX1_has_5 : decode cX1_has 5 = .ok (.aload_n 0, 1) := by decide +kernel
theorem dX1_has_6 : decode cX1_has 6 = .ok (.getfield 18, 3) := by decide +kernel
theorem dX1_has_9 : decode cX1_has 9 = .ok (.if_icmp .ge 7, 3) := by decide +kernel
theorem dX1_has_12 : decode cX1_has 12 = .ok (.iconst 1, 1) := by decide +kernel
theorem dX1_has_13 : decode cX1_has 13 = .ok (.goto 4, 3) := by decide +kernel
theorem dX1_has_16 : decode cX1_has 16 = .ok (.iconst 0, 1) := by decide +kernel
theorem dX1_has_17 : decode cX1_has 17 = .ok (.ireturn, 1) := by decide +kernel
theorem dX1_empty_0 : decode cX1_empty 0 = .ok (.aload_n 0, 1) := by decide +kernel
theorem dX1_empty_1 : decode cX1_empty 1 = .ok (.iconst 0, 1) := by decide +kernel
theorem dX1_empty_2 : decode cX1_empty 2 = .ok (.putfield 18, 3) := by decide +kernel
theorem dX1_empty_5 : decode cX1_empty 5 = .ok (.return_, 1) := by decide +kernel
theorem dX1_add_0 : decode cX1_add 0 = .ok (.aload_n 0, 1) := by decide +kernel
theorem dX1_add_1 : decode cX1_add 1 = .ok (.getfield 18, 3) := by decide +kernel
theorem dX1_add_4 : decode cX1_add 4 = .ok (.iconst 4, 1) := by decide +kernel
theorem dX1_add_5 : decode cX1_add 5 = .ok (.if_icmp .lt 5, 3) := by decide +kernel
theorem dX1_add_8 : decode cX1_add 8 = .ok (.iconst 0, 1) := by decide +kernel
theorem dX1_add_9 : decode cX1_add 9 = .ok (.ireturn, 1) := by decide +kernel
theorem dX1_add_10 : decode cX1_add 10 = .ok (.aload_n 0, 1) := by decide +kernel
theorem dX1_add_11 : decode cX1_add 11 = .ok (.getfield 11, 3) := by decide +kernel
theorem dX1_add_14 : decode cX1_add 14 = .ok (.aload_n 0, 1) := by decide +kernel
theorem dX1_add_15 : decode cX1_add 15 = .ok (.getfield 18, 3) := by decide +kernel
theorem dX1_add_18 : decode cX1_add 18 = .ok (.aaload, 1) := by decide +kernel
theorem dX1_add_19 : decode cX1_add 19 = .ok (.iload_n 1, 1) := by decide +kernel
theorem dX1_add_20 : decode cX1_add 20 = .ok (.iload_n 2, 1) := by decide +kernel
theorem dX1_add_21 : decode cX1_add 21 = .ok (.iload_n 3, 1) := by decide +kernel
theorem dX1_add_22 : decode cX1_add 22 = .ok (.invokevirtual 22, 3) := by decide +kernel
theorem dX1_add_25 : decode cX1_add 25 = .ok (.aload_n 0, 1) := by decide +kernel
theorem dX1_add_26 : decode cX1_add 26 = .ok (.dup, 1) := by decide +kernel
theorem dX1_add_27 : decode cX1_add 27 = .ok (.getfield 18, 3) := by decide +kernel
theorem dX1_add_30 : decode cX1_add 30 = .ok (.iconst 1, 1) := by decide +kernel
theorem dX1_add_31 : decode cX1_add 31 = .ok (.iadd, 1) := by decide +kernel
theorem dX1_add_32 : decode cX1_add 32 = .ok (.putfield 18, 3) := by decide +kernel
theorem dX1_add_35 : decode cX1_add 35 = .ok (.iconst 1, 1) := by decide +kernel
theorem dX1_add_36 : decode cX1_add 36 = .ok (.ireturn, 1) := by decide +kernel
theorem dX1_copyFrom_0 : decode cX1_copyFrom 0 = .ok (.aload_n 0, 1) := by decide +kernel
theorem dX1_copyFrom_1 : decode cX1_copyFrom 1 = .ok (.aload_n 1, 1) := by decide +kernel
theorem dX1_copyFrom_2 : decode cX1_copyFrom 2 = .ok (.getfield 18, 3) := by decide +kernel
theorem dX1_copyFrom_5 : decode cX1_copyFrom 5 = .ok (.putfield 18, 3) := by decide +kernel
theorem dX1_copyFrom_8 : decode cX1_copyFrom 8 = .ok (.iconst 0, 1) := by decide +kernel
theorem dX1_copyFrom_9 : decode cX1_copyFrom 9 = .ok (.istore_n 2, 1) := by decide +kernel
theorem dX1_copyFrom_10 : decode cX1_copyFrom 10 = .ok (.iload_n 2, 1) := by decide +kernel
theorem dX1_copyFrom_11 : decode cX1_copyFrom 11 = .ok (.aload_n 0, 1) := by decide +kernel
theorem dX1_copyFrom_12 : decode cX1_copyFrom 12 = .ok (.getfield 18, 3) := by decide +kernel
theorem dX1_copyFrom_15 : decode cX1_copyFrom 15 = .ok (.if_icmp .ge 24, 3) := by decide +kernel
theorem dX1_copyFrom_18 : decode cX1_copyFrom 18 = .ok (.aload_n 0, 1) := by decide +kernel
theorem dX1_copyFrom_19 : decode cX1_copyFrom 19 = .ok (.getfield 11, 3) := by decide +kernel
theorem dX1_copyFrom_22 : decode cX1_copyFrom 22 = .ok (.iload_n 2, 1) := by decide +kernel
theorem dX1_copyFrom_23 : decode cX1_copyFrom 23 = .ok (.aaload, 1) := by decide +kernel
theorem dX1_copyFrom_24 : decode cX1_copyFrom 24 = .ok (.aload_n 1, 1) := by decide +kernel
theorem dX1_copyFrom_25 : decode cX1_copyFrom 25 = .ok (.getfield 11, 3) := by decide +kernel
theorem dX1_copyFrom_28 : decode cX1_copyFrom 28 = .ok (.iload_n 2, 1) := by decide +kernel
theorem dX1_copyFrom_29 : decode cX1_copyFrom 29 = .ok (.aaload, 1) := by decide +kernel
theorem dX1_copyFrom_30 : decode cX1_copyFrom 30 = .ok (.invokevirtual 26, 3) := by decide +kernel
theorem dX1_copyFrom_33 : decode cX1_copyFrom 33 = .ok (.iinc 2 1, 3) := by decide +kernel
theorem dX1_copyFrom_36 : decode cX1_copyFrom 36 = .ok (.goto (-26), 3) := by decide +kernel
theorem dX1_copyFrom_39 : decode cX1_copyFrom 39 = .ok (.return_, 1) := by decide +kernel
theorem dX1_allWine_0 : decode cX1_allWine 0 = .ok (.iconst 0, 1) := by decide +kernel
theorem dX1_allWine_1 : decode cX1_allWine 1 = .ok (.istore_n 1, 1) := by decide +kernel
theorem dX1_allWine_2 : decode cX1_allWine 2 = .ok (.iconst 0, 1) := by decide +kernel
theorem dX1_allWine_3 : decode cX1_allWine 3 = .ok (.istore_n 2, 1) := by decide +kernel
theorem dX1_allWine_4 : decode cX1_allWine 4 = .ok (.iload_n 2, 1) := by decide +kernel
theorem dX1_allWine_5 : decode cX1_allWine 5 = .ok (.aload_n 0, 1) := by decide +kernel
theorem dX1_allWine_6 : decode cX1_allWine 6 = .ok (.getfield 18, 3) := by decide +kernel
theorem dX1_allWine_9 : decode cX1_allWine 9 = .ok (.if_icmp .ge 21, 3) := by decide +kernel
theorem dX1_allWine_12 : decode cX1_allWine 12 = .ok (.iload_n 1, 1) := by decide +kernel
theorem dX1_allWine_13 : decode cX1_allWine 13 = .ok (.aload_n 0, 1) := by decide +kernel
theorem dX1_allWine_14 : decode cX1_allWine 14 = .ok (.getfield 11, 3) := by decide +kernel
theorem dX1_allWine_17 : decode cX1_allWine 17 = .ok (.iload_n 2, 1) := by decide +kernel
theorem dX1_allWine_18 : decode cX1_allWine 18 = .ok (.aaload, 1) := by decide +kernel
theorem dX1_allWine_19 : decode cX1_allWine 19 = .ok (.getfield 30, 3) := by decide +kernel
theorem dX1_allWine_22 : decode cX1_allWine 22 = .ok (.iadd, 1) := by decide +kernel
theorem dX1_allWine_23 : decode cX1_allWine 23 = .ok (.istore_n 1, 1) := by decide +kernel
theorem dX1_allWine_24 : decode cX1_allWine 24 = .ok (.iinc 2 1, 3) := by decide +kernel
theorem dX1_allWine_27 : decode cX1_allWine 27 = .ok (.goto (-23), 3) := by decide +kernel
theorem dX1_allWine_30 : decode cX1_allWine 30 = .ok (.iload_n 1, 1) := by decide +kernel
theorem dX1_allWine_31 : decode cX1_allWine 31 = .ok (.ireturn, 1) := by decide +kernel
theorem dX1_allSpirit_0 : decode cX1_allSpirit 0 = .ok (.iconst 0, 1) := by decide +kernel
theorem dX1_allSpirit_1 : decode cX1_allSpirit 1 = .ok (.istore_n 1, 1) := by decide +kernel
theorem dX1_allSpirit_2 : decode cX1_allSpirit 2 = .ok (.iconst 0, 1) := by decide +kernel
theorem dX1_allSpirit_3 : decode cX1_allSpirit 3 = .ok (.istore_n 2, 1) := by decide +kernel
theorem dX1_allSpirit_4 : decode cX1_allSpirit 4 = .ok (.iload_n 2, 1) := by decide +kernel
theorem dX1_allSpirit_5 : decode cX1_allSpirit 5 = .ok (.aload_n 0, 1) := by decide +kernel
theorem dX1_allSpirit_6 : decode cX1_allSpirit 6 = .ok (.getfield 18, 3) := by decide +kernel
theorem dX1_allSpirit_9 : decode cX1_allSpirit 9 = .ok (.if_icmp .ge 21, 3) := by decide +kernel
theorem dX1_allSpirit_12 : decode cX1_allSpirit 12 = .ok (.iload_n 1, 1) := by decide +kernel
theorem dX1_allSpirit_13 : decode cX1_allSpirit 13 = .ok (.aload_n 0, 1) := by decide +kernel
theorem dX1_allSpirit_14 : decode cX1_allSpirit 14 = .ok (.getfield 11, 3) := by decide +kernel
theorem dX1_allSpirit_17 : decode cX1_allSpirit 17 = .ok (.iload_n 2, 1) := by decide +kernel
theorem dX1_allSpirit_18 : decode cX1_allSpirit 18 = .ok (.aaload, 1) := by decide +kernel
theorem dX1_allSpirit_19 : decode cX1_allSpirit 19 = .ok (.getfield 33, 3) := by decide +kernel
theorem dX1_allSpirit_22 : decode cX1_allSpirit 22 = .ok (.iadd, 1) := by decide +kernel
theorem dX1_allSpirit_23 : decode cX1_allSpirit 23 = .ok (.istore_n 1, 1) := by decide +kernel
theorem dX1_allSpirit_24 : decode cX1_allSpirit 24 = .ok (.iinc 2 1, 3) := by decide +kernel
theorem dX1_allSpirit_27 : decode cX1_allSpirit 27 = .ok (.goto (-23), 3) := by decide +kernel
theorem dX1_allSpirit_30 : decode cX1_allSpirit 30 = .ok (.iload_n 1, 1) := by decide +kernel
theorem dX1_allSpirit_31 : decode cX1_allSpirit 31 = .ok (.ireturn, 1) := by decide +kernel
theorem dX1_strongest_0 : decode cX1_strongest 0 = .ok (.bipush (-9), 2) := by decide +kernel
theorem dX1_strongest_2 : decode cX1_strongest 2 = .ok (.istore_n 1, 1) := by decide +kernel
theorem dX1_strongest_3 : decode cX1_strongest 3 = .ok (.fconst 0, 1) := by decide +kernel
theorem dX1_strongest_4 : decode cX1_strongest 4 = .ok (.fstore_n 2, 1) := by decide +kernel
theorem dX1_strongest_5 : decode cX1_strongest 5 = .ok (.iconst 0, 1) := by decide +kernel
theorem dX1_strongest_6 : decode cX1_strongest 6 = .ok (.istore_n 3, 1) := by decide +kernel
theorem dX1_strongest_7 : decode cX1_strongest 7 = .ok (.iload_n 3, 1) := by decide +kernel
theorem dX1_strongest_8 : decode cX1_strongest 8 = .ok (.aload_n 0, 1) := by decide +kernel
theorem dX1_strongest_9 : decode cX1_strongest 9 = .ok (.getfield 18, 3) := by decide +kernel
theorem dX1_strongest_12 : decode cX1_strongest 12 = .ok (.if_icmp .ge 53, 3) := by decide +kernel
theorem dX1_strongest_15 : decode cX1_strongest 15 = .ok (.aload_n 0, 1) := by decide +kernel
theorem dX1_strongest_16 : decode cX1_strongest 16 = .ok (.getfield 11, 3) := by decide +kernel
theorem dX1_strongest_19 : decode cX1_strongest 19 = .ok (.iload_n 3, 1) := by decide +kernel
theorem dX1_strongest_20 : decode cX1_strongest 20 = .ok (.aaload, 1) := by decide +kernel
theorem dX1_strongest_21 : decode cX1_strongest 21 = .ok (.getfield 30, 3) := by decide +kernel
theorem dX1_strongest_24 : decode cX1_strongest 24 = .ok (.ifCond .le 35, 3) := by decide +kernel
theorem dX1_strongest_27 : decode cX1_strongest 27 = .ok (.iload_n 1, 1) := by decide +kernel
theorem dX1_strongest_28 : decode cX1_strongest 28 = .ok (.bipush (-9), 2) := by decide +kernel
theorem dX1_strongest_30 : decode cX1_strongest 30 = .ok (.if_icmp .eq 17, 3) := by decide +kernel
theorem dX1_strongest_33 : decode cX1_strongest 33 = .ok (.aload_n 0, 1) := by decide +kernel
theorem dX1_strongest_34 : decode cX1_strongest 34 = .ok (.getfield 11, 3) := by decide +kernel
theorem dX1_strongest_37 : decode cX1_strongest 37 = .ok (.iload_n 3, 1) := by decide +kernel
theorem dX1_strongest_38 : decode cX1_strongest 38 = .ok (.aaload, 1) := by decide +kernel
theorem dX1_strongest_39 : decode cX1_strongest 39 = .ok (.invokevirtual 36, 3) := by decide +kernel
theorem dX1_strongest_42 : decode cX1_strongest 42 = .ok (.fload_n 2, 1) := by decide +kernel
theorem dX1_strongest_43 : decode cX1_strongest 43 = .ok (.fcmp .l, 1) := by decide +kernel
theorem dX1_strongest_44 : decode cX1_strongest 44 = .ok (.ifCond .le 15, 3) := by decide +kernel
theorem dX1_strongest_47 : decode cX1_strongest 47 = .ok (.iload_n 3, 1) := by decide +kernel
theorem dX1_strongest_48 : decode cX1_strongest 48 = .ok (.istore_n 1, 1) := by decide +kernel
theorem dX1_strongest_49 : decode cX1_strongest 49 = .ok (.aload_n 0, 1) := by decide +kernel
theorem dX1_strongest_50 : decode cX1_strongest 50 = .ok (.getfield 11, 3) := by decide +kernel
theorem dX1_strongest_53 : decode cX1_strongest 53 = .ok (.iload_n 3, 1) := by decide +kernel
theorem dX1_strongest_54 : decode cX1_strongest 54 = .ok (.aaload, 1) := by decide +kernel
theorem dX1_strongest_55 : decode cX1_strongest 55 = .ok (.invokevirtual 36, 3) := by decide +kernel
theorem dX1_strongest_58 : decode cX1_strongest 58 = .ok (.fstore_n 2, 1) := by decide +kernel
theorem dX1_strongest_59 : decode cX1_strongest 59 = .ok (.iinc 3 1, 3) := by decide +kernel
theorem dX1_strongest_62 : decode cX1_strongest 62 = .ok (.goto (-55), 3) := by decide +kernel
theorem dX1_strongest_65 : decode cX1_strongest 65 = .ok (.iload_n 1, 1) := by decide +kernel
theorem dX1_strongest_66 : decode cX1_strongest 66 = .ok (.ireturn, 1) := by decide +kernel
theorem dX1_meanStrength_0 : decode cX1_meanStrength 0 = .ok (.fconst 0, 1) := by decide +kernel
theorem dX1_meanStrength_1 : decode cX1_meanStrength 1 = .ok (.fstore_n 1, 1) := by decide +kernel
theorem dX1_meanStrength_2 : decode cX1_meanStrength 2 = .ok (.iconst 0, 1) := by decide +kernel
theorem dX1_meanStrength_3 : decode cX1_meanStrength 3 = .ok (.istore_n 2, 1) := by decide +kernel
theorem dX1_meanStrength_4 : decode cX1_meanStrength 4 = .ok (.iconst 0, 1) := by decide +kernel
theorem dX1_meanStrength_5 : decode cX1_meanStrength 5 = .ok (.istore_n 3, 1) := by decide +kernel
theorem dX1_meanStrength_6 : decode cX1_meanStrength 6 = .ok (.iload_n 3, 1) := by decide +kernel
theorem dX1_meanStrength_7 : decode cX1_meanStrength 7 = .ok (.aload_n 0, 1) := by decide +kernel
theorem dX1_meanStrength_8 : decode cX1_meanStrength 8 = .ok (.getfield 18, 3) := by decide +kernel
theorem dX1_meanStrength_11 : decode cX1_meanStrength 11 = .ok (.if_icmp .ge 36, 3) := by decide +kernel
theorem dX1_meanStrength_14 : decode cX1_meanStrength 14 = .ok (.aload_n 0, 1) := by decide +kernel
theorem dX1_meanStrength_15 : decode cX1_meanStrength 15 = .ok (.getfield 11, 3) := by decide +kernel
theorem dX1_meanStrength_18 : decode cX1_meanStrength 18 = .ok (.iload_n 3, 1) := by decide +kernel
theorem dX1_meanStrength_19 : decode cX1_meanStrength 19 = .ok (.aaload, 1) := by decide +kernel
theorem dX1_meanStrength_20 : decode cX1_meanStrength 20 = .ok (.getfield 30, 3) := by decide +kernel
theorem dX1_meanStrength_23 : decode cX1_meanStrength 23 = .ok (.ifCond .le 18, 3) := by decide +kernel
theorem dX1_meanStrength_26 : decode cX1_meanStrength 26 = .ok (.fload_n 1, 1) := by decide +kernel
theorem dX1_meanStrength_27 : decode cX1_meanStrength 27 = .ok (.aload_n 0, 1) := by decide +kernel
theorem dX1_meanStrength_28 : decode cX1_meanStrength 28 = .ok (.getfield 11, 3) := by decide +kernel
theorem dX1_meanStrength_31 : decode cX1_meanStrength 31 = .ok (.iload_n 3, 1) := by decide +kernel
theorem dX1_meanStrength_32 : decode cX1_meanStrength 32 = .ok (.aaload, 1) := by decide +kernel
theorem dX1_meanStrength_33 : decode cX1_meanStrength 33 = .ok (.invokevirtual 36, 3) := by decide +kernel
theorem dX1_meanStrength_36 : decode cX1_meanStrength 36 = .ok (.fadd, 1) := by decide +kernel
theorem dX1_meanStrength_37 : decode cX1_meanStrength 37 = .ok (.fstore_n 1, 1) := by decide +kernel
theorem dX1_meanStrength_38 : decode cX1_meanStrength 38 = .ok (.iinc 2 1, 3) := by decide +kernel
theorem dX1_meanStrength_41 : decode cX1_meanStrength 41 = .ok (.iinc 3 1, 3) := by decide +kernel
theorem dX1_meanStrength_44 : decode cX1_meanStrength 44 = .ok (.goto (-38), 3) := by decide +kernel
theorem dX1_meanStrength_47 : decode cX1_meanStrength 47 = .ok (.iload_n 2, 1) := by decide +kernel
theorem dX1_meanStrength_48 : decode cX1_meanStrength 48 = .ok (.ifCond .ne 7, 3) := by decide +kernel
theorem dX1_meanStrength_51 : decode cX1_meanStrength 51 = .ok (.fconst 0, 1) := by decide +kernel
theorem dX1_meanStrength_52 : decode cX1_meanStrength 52 = .ok (.goto 7, 3) := by decide +kernel
theorem dX1_meanStrength_55 : decode cX1_meanStrength 55 = .ok (.fload_n 1, 1) := by decide +kernel
theorem dX1_meanStrength_56 : decode cX1_meanStrength 56 = .ok (.iload_n 2, 1) := by decide +kernel
theorem dX1_meanStrength_57 : decode cX1_meanStrength 57 = .ok (.i2f, 1) := by decide +kernel
theorem dX1_meanStrength_58 : decode cX1_meanStrength 58 = .ok (.fdiv, 1) := by decide +kernel
theorem dX1_meanStrength_59 : decode cX1_meanStrength 59 = .ok (.freturn, 1) := by decide +kernel
theorem dX2_init_0 : decode cX2_init 0 = .ok (.aload_n 0, 1) := by decide +kernel
theorem dX2_init_1 : decode cX2_init 1 = .ok (.invokespecial 3, 3) := by decide +kernel
theorem dX2_init_4 : decode cX2_init 4 = .ok (.aload_n 0, 1) := by decide +kernel
theorem dX2_init_5 : decode cX2_init 5 = .ok (.iload_n 1, 1) := by decide +kernel
theorem dX2_init_6 : decode cX2_init 6 = .ok (.putfield 9, 3) := by decide +kernel
theorem dX2_init_9 : decode cX2_init 9 = .ok (.aload_n 0, 1) := by decide +kernel
theorem dX2_init_10 : decode cX2_init 10 = .ok (.bipush 41, 2) := by decide +kernel
theorem dX2_init_12 : decode cX2_init 12 = .ok (.newarray .int, 2) := by decide +kernel
theorem dX2_init_14 : decode cX2_init 14 = .ok (.putfield 15, 3) := by decide +kernel
theorem dX2_init_17 : decode cX2_init 17 = .ok (.return_, 1) := by decide +kernel
theorem dX2_measure_0 : decode cX2_measure 0 = .ok (.aload_n 0, 1) := by decide +kernel
theorem dX2_measure_1 : decode cX2_measure 1 = .ok (.getfield 19, 3) := by decide +kernel
theorem dX2_measure_4 : decode cX2_measure 4 = .ok (.aload_n 1, 1) := by decide +kernel
theorem dX2_measure_5 : decode cX2_measure 5 = .ok (.getfield 23, 3) := by decide +kernel
theorem dX2_measure_8 : decode cX2_measure 8 = .ok (.if_icmp .ne 26, 3) := by decide +kernel
theorem dX2_measure_11 : decode cX2_measure 11 = .ok (.aload_n 0, 1) := by decide +kernel
theorem dX2_measure_12 : decode cX2_measure 12 = .ok (.getfield 26, 3) := by decide +kernel
theorem dX2_measure_15 : decode cX2_measure 15 = .ok (.aload_n 1, 1) := by decide +kernel
theorem dX2_measure_16 : decode cX2_measure 16 = .ok (.getfield 29, 3) := by decide +kernel
theorem dX2_measure_19 : decode cX2_measure 19 = .ok (.if_icmp .ne 15, 3) := by decide +kernel
theorem dX2_measure_22 : decode cX2_measure 22 = .ok (.aload_n 0, 1) := by decide +kernel
theorem dX2_measure_23 : decode cX2_measure 23 = .ok (.getfield 30, 3) := by decide +kernel
theorem dX2_measure_26 : decode cX2_measure 26 = .ok (.aload_n 1, 1) := by decide +kernel
theorem dX2_measure_27 : decode cX2_measure 27 = .ok (.getfield 33, 3) := by decide +kernel
theorem dX2_measure_30 : decode cX2_measure 30 = .ok (.if_icmp .ne 4, 3) := by decide +kernel
theorem dX2_measure_33 : decode cX2_measure 33 = .ok (.return_, 1) := by decide +kernel
theorem dX2_measure_34 : decode cX2_measure 34 = .ok (.aload_n 0, 1) := by decide +kernel
theorem dX2_measure_35 : decode cX2_measure 35 = .ok (.aload_n 1, 1) := by decide +kernel
theorem dX2_measure_36 : decode cX2_measure 36 = .ok (.getfield 23, 3) := by decide +kernel
theorem dX2_measure_39 : decode cX2_measure 39 = .ok (.putfield 19, 3) := by decide +kernel
theorem dX2_measure_42 : decode cX2_measure 42 = .ok (.aload_n 0, 1) := by decide +kernel
theorem dX2_measure_43 : decode cX2_measure 43 = .ok (.aload_n 1, 1) := by decide +kernel
theorem dX2_measure_44 : decode cX2_measure 44 = .ok (.getfield 29, 3) := by decide +kernel
theorem dX2_measure_47 : decode cX2_measure 47 = .ok (.putfield 26, 3) := by decide +kernel
theorem dX2_measure_50 : decode cX2_measure 50 = .ok (.aload_n 0, 1) := by decide +kernel
theorem dX2_measure_51 : decode cX2_measure 51 = .ok (.aload_n 1, 1) := by decide +kernel
theorem dX2_measure_52 : decode cX2_measure 52 = .ok (.getfield 33, 3) := by decide +kernel
theorem dX2_measure_55 : decode cX2_measure 55 = .ok (.putfield 30, 3) := by decide +kernel
theorem dX2_measure_58 : decode cX2_measure 58 = .ok (.aload_n 0, 1) := by decide +kernel
theorem dX2_measure_59 : decode cX2_measure 59 = .ok (.aload_n 0, 1) := by decide +kernel
theorem dX2_measure_60 : decode cX2_measure 60 = .ok (.getfield 9, 3) := by decide +kernel
theorem dX2_measure_63 : decode cX2_measure 63 = .ok (.ifCond .eq 12, 3) := by decide +kernel
theorem dX2_measure_66 : decode cX2_measure 66 = .ok (.iconst 2, 1) := by decide +kernel
theorem dX2_measure_67 : decode cX2_measure 67 = .ok (.aload_n 0, 1) := by decide +kernel
theorem dX2_measure_68 : decode cX2_measure 68 = .ok (.getfield 30, 3) := by decide +kernel
theorem dX2_measure_71 : decode cX2_measure 71 = .ok (.imul, 1) := by decide +kernel
theorem dX2_measure_72 : decode cX2_measure 72 = .ok (.goto 7, 3) := by decide +kernel
theorem dX2_measure_75 : decode cX2_measure 75 = .ok (.aload_n 0, 1) := by decide +kernel
theorem dX2_measure_76 : decode cX2_measure 76 = .ok (.getfield 19, 3) := by decide +kernel
theorem dX2_measure_79 : decode cX2_measure 79 = .ok (.bipush 40, 2) := by decide +kernel
theorem dX2_measure_81 : decode cX2_measure 81 = .ok (.invokestatic 34, 3) := by decide +kernel
theorem dX2_measure_84 : decode cX2_measure 84 = .ok (.putfield 40, 3) := by decide +kernel
theorem dX2_measure_87 : decode cX2_measure 87 = .ok (.iconst 0, 1) := by decide +kernel
theorem dX2_measure_88 : decode cX2_measure 88 = .ok (.istore_n 2, 1) := by decide +kernel
theorem dX2_measure_89 : decode cX2_measure 89 = .ok (.iload_n 2, 1) := by decide +kernel
theorem dX2_measure_90 : decode cX2_measure 90 = .ok (.aload_n 0, 1) := by decide +kernel
theorem dX2_measure_91 : decode cX2_measure 91 = .ok (.getfield 40, 3) := by decide +kernel
theorem dX2_measure_94 : decode cX2_measure 94 = .ok (.if_icmp .gt 16, 3) := by decide +kernel
theorem dX2_measure_97 : decode cX2_measure 97 = .ok (.aload_n 0, 1) := by decide +kernel
theorem dX2_measure_98 : decode cX2_measure 98 = .ok (.getfield 15, 3) := by decide +kernel
theorem dX2_measure_101 : decode cX2_measure 101 = .ok (.iload_n 2, 1) := by decide +kernel
theorem dX2_measure_102 : decode cX2_measure 102 = .ok (.iconst 0, 1) := by decide +kernel
theorem dX2_measure_103 : decode cX2_measure 103 = .ok (.iastore, 1) := by decide +kernel
theorem dX2_measure_104 : decode cX2_measure 104 = .ok (.iinc 2 1, 3) := by decide +kernel
theorem dX2_measure_107 : decode cX2_measure 107 = .ok (.goto (-18), 3) := by decide +kernel
theorem dX2_measure_110 : decode cX2_measure 110 = .ok (.iconst 0, 1) := by decide +kernel
theorem dX2_measure_111 : decode cX2_measure 111 = .ok (.istore_n 2, 1) := by decide +kernel
theorem dX2_measure_112 : decode cX2_measure 112 = .ok (.iload_n 2, 1) := by decide +kernel
theorem dX2_measure_113 : decode cX2_measure 113 = .ok (.aload_n 0, 1) := by decide +kernel
theorem dX2_measure_114 : decode cX2_measure 114 = .ok (.getfield 19, 3) := by decide +kernel
theorem dX2_measure_117 : decode cX2_measure 117 = .ok (.if_icmp .ge 61, 3) := by decide +kernel
theorem dX2_measure_120 : decode cX2_measure 120 = .ok (.aload_n 1, 1) := by decide +kernel
theorem dX2_measure_121 : decode cX2_measure 121 = .ok (.iload_n 2, 1) := by decide +kernel
theorem dX2_measure_122 : decode cX2_measure 122 = .ok (.invokevirtual 43, 3) := by decide +kernel
theorem dX2_measure_125 : decode cX2_measure 125 = .ok (.istore_n 3, 1) := by decide +kernel
theorem dX2_measure_126 : decode cX2_measure 126 = .ok (.iconst 0, 1) := by decide +kernel
theorem dX2_measure_127 : decode cX2_measure 127 = .ok (.istore 4, 2) := by decide +kernel
theorem dX2_measure_129 : decode cX2_measure 129 = .ok (.iload 4, 2) := by decide +kernel
theorem dX2_measure_131 : decode cX2_measure 131 = .ok (.iconst 2, 1) := by decide +kernel
theorem dX2_measure_132 : decode cX2_measure 132 = .ok (.aload_n 0, 1) := by decide +kernel
theorem dX2_measure_133 : decode cX2_measure 133 = .ok (.getfield 30, 3) := by decide +kernel
theorem dX2_measure_136 : decode cX2_measure 136 = .ok (.imul, 1) := by decide +kernel
theorem dX2_measure_137 : decode cX2_measure 137 = .ok (.if_icmp .ge 35, 3) := by decide +kernel
theorem dX2_measure_140 : decode cX2_measure 140 = .ok (.aload_n 0, 1) := by decide +kernel
theorem dX2_measure_141 : decode cX2_measure 141 = .ok (.aload_n 0, 1) := by decide +kernel
theorem dX2_measure_142 : decode cX2_measure 142 = .ok (.getfield 9, 3) := by decide +kernel
theorem dX2_measure_145 : decode cX2_measure 145 = .ok (.ifCond .eq 8, 3) := by decide +kernel
theorem dX2_measure_148 : decode cX2_measure 148 = .ok (.iload 4, 2) := by decide +kernel
theorem dX2_measure_150 : decode cX2_measure 150 = .ok (.goto 4, 3) := by decide +kernel
theorem dX2_measure_153 : decode cX2_measure 153 = .ok (.iload_n 2, 1) := by decide +kernel
theorem dX2_measure_154 : decode cX2_measure 154 = .ok (.iconst 1, 1) := by decide +kernel
theorem dX2_measure_155 : decode cX2_measure 155 = .ok (.iadd, 1) := by decide +kernel
theorem dX2_measure_156 : decode cX2_measure 156 = .ok (.aload_n 1, 1) := by decide +kernel
theorem dX2_measure_157 : decode cX2_measure 157 = .ok (.iload_n 3, 1) := by decide +kernel
theorem dX2_measure_158 : decode cX2_measure 158 = .ok (.iload 4, 2) := by decide +kernel
theorem dX2_measure_160 : decode cX2_measure 160 = .ok (.invokevirtual 47, 3) := by decide +kernel
theorem dX2_measure_163 : decode cX2_measure 163 = .ok (.invokevirtual 50, 3) := by decide +kernel
theorem dX2_measure_166 : decode cX2_measure 166 = .ok (.iinc 4 1, 3) := by decide +kernel
theorem dX2_measure_169 : decode cX2_measure 169 = .ok (.goto (-40), 3) := by decide +kernel
theorem dX2_measure_172 : decode cX2_measure 172 = .ok (.iinc 2 1, 3) := by decide +kernel
theorem dX2_measure_175 : decode cX2_measure 175 = .ok (.goto (-63), 3) := by decide +kernel
theorem dX2_measure_178 : decode cX2_measure 178 = .ok (.iconst 0, 1) := by decide +kernel
theorem dX2_measure_179 : decode cX2_measure 179 = .ok (.istore_n 2, 1) := by decide +kernel
theorem dX2_measure_180 : decode cX2_measure 180 = .ok (.iload_n 2, 1) := by decide +kernel
theorem dX2_measure_181 : decode cX2_measure 181 = .ok (.aload_n 0, 1) := by decide +kernel
theorem dX2_measure_182 : decode cX2_measure 182 = .ok (.getfield 40, 3) := by decide +kernel
theorem dX2_measure_185 : decode cX2_measure 185 = .ok (.if_icmp .ge 26, 3) := by decide +kernel
theorem dX2_measure_188 : decode cX2_measure 188 = .ok (.aload_n 0, 1) := by decide +kernel
theorem dX2_measure_189 : decode cX2_measure 189 = .ok (.getfield 15, 3) := by decide +kernel
theorem dX2_measure_192 : decode cX2_measure 192 = .ok (.iload_n 2, 1) := by decide +kernel
theorem dX2_measure_193 : decode cX2_measure 193 = .ok (.iconst 1, 1) := by decide +kernel
theorem dX2_measure_194 : decode cX2_measure 194 = .ok (.iadd, 1) := by decide +kernel
theorem dX2_measure_195 : decode cX2_measure 195 = .ok (.dup2, 1) := by decide +kernel
theorem dX2_measure_196 : decode cX2_measure 196 = .ok (.iaload, 1) := by decide +kernel
theorem dX2_measure_197 : decode cX2_measure 197 = .ok (.aload_n 0, 1) := by decide +kernel
theorem dX2_measure_198 : decode cX2_measure 198 = .ok (.getfield 15, 3) := by decide +kernel
theorem dX2_measure_201 : decode cX2_measure 201 = .ok (.iload_n 2, 1) := by decide +kernel
theorem dX2_measure_202 : decode cX2_measure 202 = .ok (.iaload, 1) := by decide +kernel
theorem dX2_measure_203 : decode cX2_measure 203 = .ok (.iadd, 1) := by decide +kernel
theorem dX2_measure_204 : decode cX2_measure 204 = .ok (.iastore, 1) := by decide +kernel
theorem dX2_measure_205 : decode cX2_measure 205 = .ok (.iinc 2 1, 3) := by decide +kernel
theorem dX2_measure_208 : decode cX2_measure 208 = .ok (.goto (-28), 3) := by decide +kernel
theorem dX2_measure_211 : decode cX2_measure 211 = .ok (.return_, 1) := by decide +kernel
theorem dX2_addAhead_0 : decode cX2_addAhead 0 = .ok (.aload_n 0, 1) := by decide +kernel
theorem dX2_addAhead_1 : decode cX2_addAhead 1 = .ok (.iload_n 1, 1) := by decide +kernel
theorem dX2_addAhead_2 : decode cX2_addAhead 2 = .ok (.invokevirtual 54, 3) := by decide +kernel
theorem dX2_addAhead_5 : decode cX2_addAhead 5 = .ok (.ifCond .eq 13, 3) := by decide +kernel
theorem dX2_addAhead_8 : decode cX2_addAhead 8 = .ok (.aload_n 0, 1) := by decide +kernel
theorem dX2_addAhead_9 : decode cX2_addAhead 9 = .ok (.getfield 15, 3) := by decide +kernel
theorem dX2_addAhead_12 : decode cX2_addAhead 12 = .ok (.iload_n 1, 1) := by decide +kernel
theorem dX2_addAhead_13 : decode cX2_addAhead 13 = .ok (.dup2, 1) := by decide +kernel
theorem dX2_addAhead_14 : decode cX2_addAhead 14 = .ok (.iaload, 1) := by decide +kernel
theorem dX2_addAhead_15 : decode cX2_addAhead 15 = .ok (.iload_n 2, 1) := by decide +kernel
theorem dX2_addAhead_16 : decode cX2_addAhead 16 = .ok (.iadd, 1) := by decide +kernel
theorem dX2_addAhead_17 : decode cX2_addAhead 17 = .ok (.iastore, 1) := by decide +kernel
theorem dX2_addAhead_18 : decode cX2_addAhead 18 = .ok (.return_, 1) := by decide +kernel
theorem dX2_reach_0 : decode cX2_reach 0 = .ok (.iload_n 1, 1) := by decide +kernel
theorem dX2_reach_1 : decode cX2_reach 1 = .ok (.ifCond .lt 15, 3) := by decide +kernel
theorem dX2_reach_4 : decode cX2_reach 4 = .ok (.iload_n 1, 1) := by decide +kernel
theorem dX2_reach_5 : decode cX2_reach 5 = .ok (.aload_n 0, 1) := by decide +kernel
theorem dX2_reach_6 : decode cX2_reach 6 = .ok (.getfield 40, 3) := by decide +kernel
theorem dX2_reach_9 : decode cX2_reach 9 = .ok (.if_icmp .gt 7, 3) := by decide +kernel
theorem dX2_reach_12 : decode cX2_reach 12 = .ok (.iconst 1, 1) := by decide +kernel
theorem dX2_reach_13 : decode cX2_reach 13 = .ok (.goto 4, 3) := by decide +kernel
theorem dX2_reach_16 : decode cX2_reach 16 = .ok (.iconst 0, 1) := by decide +kernel
theorem dX2_reach_17 : decode cX2_reach 17 = .ok (.ireturn, 1) := by decide +kernel
theorem dX2_amountAt_0 : decode cX2_amountAt 0 = .ok (.aload_n 0, 1) := by decide +kernel
theorem dX2_amountAt_1 : decode cX2_amountAt 1 = .ok (.iload_n 1, 1) := by decide +kernel
theorem dX2_amountAt_2 : decode cX2_amountAt 2 = .ok (.invokevirtual 54, 3) := by decide +kernel
theorem dX2_amountAt_5 : decode cX2_amountAt 5 = .ok (.ifCond .eq 12, 3) := by decide +kernel
theorem dX2_amountAt_8 : decode cX2_amountAt 8 = .ok (.aload_n 0, 1) := by decide +kernel
theorem dX2_amountAt_9 : decode cX2_amountAt 9 = .ok (.getfield 15, 3) := by decide +kernel
theorem dX2_amountAt_12 : decode cX2_amountAt 12 = .ok (.iload_n 1, 1) := by decide +kernel
theorem dX2_amountAt_13 : decode cX2_amountAt 13 = .ok (.iaload, 1) := by decide +kernel
theorem dX2_amountAt_14 : decode cX2_amountAt 14 = .ok (.goto 4, 3) := by decide +kernel
theorem dX2_amountAt_17 : decode cX2_amountAt 17 = .ok (.iconst 0, 1) := by decide +kernel
theorem dX2_amountAt_18 : decode cX2_amountAt 18 = .ok (.ireturn, 1) := by decide +kernel
theorem dX2_hold_0 : decode cX2_hold 0 = .ok (.aload_n 0, 1) := by decide +kernel
theorem dX2_hold_1 : decode cX2_hold 1 = .ok (.aload_n 0, 1) := by decide +kernel
theorem dX2_hold_2 : decode cX2_hold 2 = .ok (.getfield 40, 3) := by decide +kernel
theorem dX2_hold_5 : decode cX2_hold 5 = .ok (.invokevirtual 58, 3) := by decide +kernel
theorem dX2_hold_8 : decode cX2_hold 8 = .ok (.ireturn, 1) := by decide +kernel
theorem dX2_leastDip_0 : decode cX2_leastDip 0 = .ok (.aload_n 0, 1) := by decide +kernel
theorem dX2_leastDip_1 : decode cX2_leastDip 1 = .ok (.iconst 0, 1) := by decide +kernel
theorem dX2_leastDip_2 : decode cX2_leastDip 2 = .ok (.iload_n 1, 1) := by decide +kernel
theorem dX2_leastDip_3 : decode cX2_leastDip 3 = .ok (.invokevirtual 61, 3) := by decide +kernel
theorem dX2_leastDip_6 : decode cX2_leastDip 6 = .ok (.ireturn, 1) := by decide +kernel
theorem dX2_leastDipFrom_0 : decode cX2_leastDipFrom 0 = .ok (.iload_n 1, 1) := by decide +kernel
theorem dX2_leastDipFrom_1 : decode cX2_leastDipFrom 1 = .ok (.iconst 0, 1) := by decide +kernel
theorem dX2_leastDipFrom_2 : decode cX2_leastDipFrom 2 = .ok (.invokestatic 64, 3) := by decide +kernel
theorem dX2_leastDipFrom_5 : decode cX2_leastDipFrom 5 = .ok (.istore_n 3, 1) := by decide +kernel
theorem dX2_leastDipFrom_6 : decode cX2_leastDipFrom 6 = .ok (.iload_n 3, 1) := by decide +kernel
theorem dX2_leastDipFrom_7 : decode cX2_leastDipFrom 7 = .ok (.aload_n 0, 1) := by decide +kernel
theorem dX2_leastDipFrom_8 : decode cX2_leastDipFrom 8 = .ok (.getfield 40, 3) := by decide +kernel
theorem dX2_leastDipFrom_11 : decode cX2_leastDipFrom 11 = .ok (.if_icmp .gt 21, 3) := by decide +kernel
theorem dX2_leastDipFrom_14 : decode cX2_leastDipFrom 14 = .ok (.aload_n 0, 1) := by decide +kernel
theorem dX2_leastDipFrom_15 : decode cX2_leastDipFrom 15 = .ok (.getfield 15, 3) := by decide +kernel
theorem dX2_leastDipFrom_18 : decode cX2_leastDipFrom 18 = .ok (.iload_n 3, 1) := by decide +kernel
theorem dX2_leastDipFrom_19 : decode cX2_leastDipFrom 19 = .ok (.iaload, 1) := by decide +kernel
theorem dX2_leastDipFrom_20 : decode cX2_leastDipFrom 20 = .ok (.iload_n 2, 1) := by decide +kernel
theorem dX2_leastDipFrom_21 : decode cX2_leastDipFrom 21 = .ok (.if_icmp .lt 5, 3) := by decide +kernel
theorem dX2_leastDipFrom_24 : decode cX2_leastDipFrom 24 = .ok (.iload_n 3, 1) := by decide +kernel
theorem dX2_leastDipFrom_25 : decode cX2_leastDipFrom 25 = .ok (.ireturn, 1) := by decide +kernel
theorem dX2_leastDipFrom_26 : decode cX2_leastDipFrom 26 = .ok (.iinc 3 1, 3) := by decide +kernel
theorem dX2_leastDipFrom_29 : decode cX2_leastDipFrom 29 = .ok (.goto (-23), 3) := by decide +kernel
theorem dX2_leastDipFrom_32 : decode cX2_leastDipFrom 32 = .ok (.bipush 41, 2) := by decide +kernel
theorem dX2_leastDipFrom_34 : decode cX2_leastDipFrom 34 = .ok (.ireturn, 1) := by decide +kernel
theorem dX2_markAt_0 : decode cX2_markAt 0 = .ok (.aload_n 0, 1) := by decide +kernel
theorem dX2_markAt_1 : decode cX2_markAt 1 = .ok (.invokevirtual 67, 3) := by decide +kernel
theorem dX2_markAt_4 : decode cX2_markAt 4 = .ok (.iload_n 2, 1) := by decide +kernel
theorem dX2_markAt_5 : decode cX2_markAt 5 = .ok (.imul, 1) := by decide +kernel
theorem dX2_markAt_6 : decode cX2_markAt 6 = .ok (.istore_n 3, 1) := by decide +kernel
theorem dX2_markAt_7 : decode cX2_markAt 7 = .ok (.iconst 0, 1) := by decide +kernel
theorem dX2_markAt_8 : decode cX2_markAt 8 = .ok (.istore 4, 2) := by decide +kernel
theorem dX2_markAt_10 : decode cX2_markAt 10 = .ok (.iload 4, 2) := by decide +kernel
theorem dX2_markAt_12 : decode cX2_markAt 12 = .ok (.aload_n 0, 1) := by decide +kernel
theorem dX2_markAt_13 : decode cX2_markAt 13 = .ok (.getfield 40, 3) := by decide +kernel
theorem dX2_markAt_16 : decode cX2_markAt 16 = .ok (.if_icmp .ge 25, 3) := by decide +kernel
theorem dX2_markAt_19 : decode cX2_markAt 19 = .ok (.aload_n 0, 1) := by decide +kernel
theorem dX2_markAt_20 : decode cX2_markAt 20 = .ok (.getfield 15, 3) := by decide +kernel
theorem dX2_markAt_23 : decode cX2_markAt 23 = .ok (.iload 4, 2) := by decide +kernel
theorem dX2_markAt_25 : decode cX2_markAt 25 = .ok (.iaload, 1) := by decide +kernel
theorem dX2_markAt_26 : decode cX2_markAt 26 = .ok (.iload_n 1, 1) := by decide +kernel
theorem dX2_markAt_27 : decode cX2_markAt 27 = .ok (.imul, 1) := by decide +kernel
theorem dX2_markAt_28 : decode cX2_markAt 28 = .ok (.iload_n 3, 1) := by decide +kernel
theorem dX2_markAt_29 : decode cX2_markAt 29 = .ok (.if_icmp .lt 6, 3) := by decide +kernel
theorem dX2_markAt_32 : decode cX2_markAt 32 = .ok (.iload 4, 2) := by decide +kernel
theorem dX2_markAt_34 : decode cX2_markAt 34 = .ok (.ireturn, 1) := by decide +kernel
theorem dX2_markAt_35 : decode cX2_markAt 35 = .ok (.iinc 4 1, 3) := by decide +kernel
theorem dX2_markAt_38 : decode cX2_markAt 38 = .ok (.goto (-28), 3) := by decide +kernel
theorem dX2_markAt_41 : decode cX2_markAt 41 = .ok (.aload_n 0, 1) := by decide +kernel
theorem dX2_markAt_42 : decode cX2_markAt 42 = .ok (.getfield 40, 3) := by decide +kernel
theorem dX2_markAt_45 : decode cX2_markAt 45 = .ok (.ireturn, 1) := by decide +kernel
theorem dX3_init_0 : decode cX3_init 0 = .ok (.aload_n 0, 1) := by decide +kernel
theorem dX3_init_1 : decode cX3_init 1 = .ok (.invokespecial 3, 3) := by decide +kernel
theorem dX3_init_4 : decode cX3_init 4 = .ok (.aload_n 0, 1) := by decide +kernel
theorem dX3_init_5 : decode cX3_init 5 = .ok (.bipush 8, 2) := by decide +kernel
theorem dX3_init_7 : decode cX3_init 7 = .ok (.anewarray 9, 3) := by decide +kernel
theorem dX3_init_10 : decode cX3_init 10 = .ok (.putfield 11, 3) := by decide +kernel
theorem dX3_init_13 : decode cX3_init 13 = .ok (.iconst 0, 1) := by decide +kernel
theorem dX3_init_14 : decode cX3_init 14 = .ok (.istore_n 1, 1) := by decide +kernel
theorem dX3_init_15 : decode cX3_init 15 = .ok (.iload_n 1, 1) := by decide +kernel
theorem dX3_init_16 : decode cX3_init 16 = .ok (.bipush 8, 2) := by decide +kernel
theorem dX3_init_18 : decode cX3_init 18 = .ok (.if_icmp .ge 22, 3) := by decide +kernel
theorem dX3_init_21 : decode cX3_init 21 = .ok (.aload_n 0, 1) := by decide +kernel
theorem dX3_init_22 : decode cX3_init 22 = .ok (.getfield 11, 3) := by decide +kernel
theorem dX3_init_25 : decode cX3_init 25 = .ok (.iload_n 1, 1) := by decide +kernel
theorem dX3_init_26 : decode cX3_init 26 = .ok (.new 9, 3) := by decide +kernel
theorem dX3_init_29 : decode cX3_init 29 = .ok (.dup, 1) := by decide +kernel
theorem dX3_init_30 : decode cX3_init 30 = .ok (.invokespecial 17, 3) := by decide +kernel
theorem dX3_init_33 : decode cX3_init 33 = .ok (.aastore, 1) := by decide +kernel
theorem dX3_init_34 : decode cX3_init 34 = .ok (.iinc 1 1, 3) := by decide +kernel
theorem dX3_init_37 : decode cX3_init 37 = .ok (.goto (-22), 3) := by decide +kernel
theorem dX3_init_40 : decode cX3_init 40 = .ok (.return_, 1) := by decide +kernel
theorem dX3_remember_0 : decode cX3_remember 0 = .ok (.aload_n 0, 1) := by decide +kernel
theorem dX3_remember_1 : decode cX3_remember 1 = .ok (.aload_n 0, 1) := by decide +kernel
theorem dX3_remember_2 : decode cX3_remember 2 = .ok (.getfield 18, 3) := by decide +kernel
theorem dX3_remember_5 : decode cX3_remember 5 = .ok (.iconst 1, 1) := by decide +kernel
theorem dX3_remember_6 : decode cX3_remember 6 = .ok (.iadd, 1) := by decide +kernel
theorem dX3_remember_7 : decode cX3_remember 7 = .ok (.bipush 8, 2) := by decide +kernel
theorem dX3_remember_9 : decode cX3_remember 9 = .ok (.irem, 1) := by decide +kernel
theorem dX3_remember_10 : decode cX3_remember 10 = .ok (.putfield 18, 3) := by decide +kernel
theorem dX3_remember_13 : decode cX3_remember 13 = .ok (.aload_n 0, 1) := by decide +kernel
theorem dX3_remember_14 : decode cX3_remember 14 = .ok (.getfield 11, 3) := by decide +kernel
theorem dX3_remember_17 : decode cX3_remember 17 = .ok (.aload_n 0, 1) := by decide +kernel
theorem dX3_remember_18 : decode cX3_remember 18 = .ok (.getfield 18, 3) := by decide +kernel
theorem dX3_remember_21 : decode cX3_remember 21 = .ok (.aaload, 1) := by decide +kernel
theorem dX3_remember_22 : decode cX3_remember 22 = .ok (.aload_n 1, 1) := by decide +kernel
theorem dX3_remember_23 : decode cX3_remember 23 = .ok (.invokevirtual 22, 3) := by decide +kernel
theorem dX3_remember_26 : decode cX3_remember 26 = .ok (.aload_n 0, 1) := by decide +kernel
theorem dX3_remember_27 : decode cX3_remember 27 = .ok (.aload_n 0, 1) := by decide +kernel
theorem dX3_remember_28 : decode cX3_remember 28 = .ok (.getfield 26, 3) := by decide +kernel
theorem dX3_remember_31 : decode cX3_remember 31 = .ok (.iconst 1, 1) := by decide +kernel
theorem dX3_remember_32 : decode cX3_remember 32 = .ok (.iadd, 1) := by decide +kernel
theorem dX3_remember_33 : decode cX3_remember 33 = .ok (.bipush 8, 2) := by decide +kernel
theorem dX3_remember_35 : decode cX3_remember 35 = .ok (.invokestatic 29, 3) := by decide +kernel
theorem dX3_remember_38 : decode cX3_remember 38 = .ok (.putfield 26, 3) := by decide +kernel
theorem dX3_remember_41 : decode cX3_remember 41 = .ok (.return_, 1) := by decide +kernel
theorem dX3_recallInto_0 : decode cX3_recallInto 0 = .ok (.aload_n 0, 1) := by decide +kernel
theorem dX3_recallInto_1 : decode cX3_recallInto 1 = .ok (.getfield 26, 3) := by decide +kernel
theorem dX3_recallInto_4 : decode cX3_recallInto 4 = .ok (.ifCond .ne 5, 3) := by decide +kernel
theorem dX3_recallInto_7 : decode cX3_recallInto 7 = .ok (.iconst 0, 1) := by decide +kernel
theorem dX3_recallInto_8 : decode cX3_recallInto 8 = .ok (.ireturn, 1) := by decide +kernel
theorem dX3_recallInto_9 : decode cX3_recallInto 9 = .ok (.aload_n 1, 1) := by decide +kernel
theorem dX3_recallInto_10 : decode cX3_recallInto 10 = .ok (.aload_n 0, 1) := by decide +kernel
theorem dX3_recallInto_11 : decode cX3_recallInto 11 = .ok (.getfield 11, 3) := by decide +kernel
theorem dX3_recallInto_14 : decode cX3_recallInto 14 = .ok (.aload_n 0, 1) := by decide +kernel
theorem dX3_recallInto_15 : decode cX3_recallInto 15 = .ok (.getfield 18, 3) := by decide +kernel
theorem dX3_recallInto_18 : decode cX3_recallInto 18 = .ok (.aaload, 1) := by decide +kernel
theorem dX3_recallInto_19 : decode cX3_recallInto 19 = .ok (.invokevirtual 22, 3) := by decide +kernel
theorem dX3_recallInto_22 : decode cX3_recallInto 22 = .ok (.aload_n 0, 1) := by decide +kernel
theorem dX3_recallInto_23 : decode cX3_recallInto 23 = .ok (.aload_n 0, 1) := by decide +kernel
theorem dX3_recallInto_24 : decode cX3_recallInto 24 = .ok (.getfield 18, 3) := by decide +kernel
theorem dX3_recallInto_27 : decode cX3_recallInto 27 = .ok (.bipush 8, 2) := by decide +kernel
theorem dX3_recallInto_29 : decode cX3_recallInto 29 = .ok (.iadd, 1) := by decide +kernel
theorem dX3_recallInto_30 : decode cX3_recallInto 30 = .ok (.iconst 1, 1) := by decide +kernel
theorem dX3_recallInto_31 : decode cX3_recallInto 31 = .ok (.isub, 1) := by decide +kernel
theorem dX3_recallInto_32 : decode cX3_recallInto 32 = .ok (.bipush 8, 2) := by decide +kernel
theorem dX3_recallInto_34 : decode cX3_recallInto 34 = .ok (.irem, 1) := by decide +kernel
theorem dX3_recallInto_35 : decode cX3_recallInto 35 = .ok (.putfield 18, 3) := by decide +kernel
theorem dX3_recallInto_38 : decode cX3_recallInto 38 = .ok (.aload_n 0, 1) := by decide +kernel
theorem dX3_recallInto_39 : decode cX3_recallInto 39 = .ok (.dup, 1) := by decide +kernel
theorem dX3_recallInto_40 : decode cX3_recallInto 40 = .ok (.getfield 26, 3) := by decide +kernel
theorem dX3_recallInto_43 : decode cX3_recallInto 43 = .ok (.iconst 1, 1) := by decide +kernel
theorem dX3_recallInto_44 : decode cX3_recallInto 44 = .ok (.isub, 1) := by decide +kernel
theorem dX3_recallInto_45 : decode cX3_recallInto 45 = .ok (.putfield 26, 3) := by decide +kernel
theorem dX3_recallInto_48 : decode cX3_recallInto 48 = .ok (.iconst 1, 1) := by decide +kernel
theorem dX3_recallInto_49 : decode cX3_recallInto 49 = .ok (.ireturn, 1) := by decide +kernel
theorem dX4_init_0 : decode cX4_init 0 = .ok (.aload_n 0, 1) := by decide +kernel
theorem dX4_init_1 : decode cX4_init 1 = .ok (.invokespecial 3, 3) := by decide +kernel
theorem dX4_init_4 : decode cX4_init 4 = .ok (.aload_n 0, 1) := by decide +kernel
theorem dX4_init_5 : decode cX4_init 5 = .ok (.aload_n 1, 1) := by decide +kernel
theorem dX4_init_6 : decode cX4_init 6 = .ok (.putfield 9, 3) := by decide +kernel
theorem dX4_init_9 : decode cX4_init 9 = .ok (.aload_n 0, 1) := by decide +kernel
theorem dX4_init_10 : decode cX4_init 10 = .ok (.new 15, 3) := by decide +kernel
theorem dX4_init_13 : decode cX4_init 13 = .ok (.dup, 1) := by decide +kernel
theorem dX4_init_14 : decode cX4_init 14 = .ok (.invokespecial 17, 3) := by decide +kernel
theorem dX4_init_17 : decode cX4_init 17 = .ok (.putfield 18, 3) := by decide +kernel
theorem dX4_init_20 : decode cX4_init 20 = .ok (.return_, 1) := by decide +kernel
theorem dX4_readAll_0 : decode cX4_readAll 0 = .ok (.aload_n 0, 1) := by decide +kernel
theorem dX4_readAll_1 : decode cX4_readAll 1 = .ok (.getfield 9, 3) := by decide +kernel
theorem dX4_readAll_4 : decode cX4_readAll 4 = .ok (.invokevirtual 22, 3) := by decide +kernel
theorem dX4_readAll_7 : decode cX4_readAll 7 = .ok (.aload_n 0, 1) := by decide +kernel
theorem dX4_readAll_8 : decode cX4_readAll 8 = .ok (.getfield 18, 3) := by decide +kernel
theorem dX4_readAll_11 : decode cX4_readAll 11 = .ok (.invokevirtual 27, 3) := by decide +kernel
theorem dX4_readAll_14 : decode cX4_readAll 14 = .ok (.aload_n 0, 1) := by decide +kernel
theorem dX4_readAll_15 : decode cX4_readAll 15 = .ok (.iconst 0, 1) := by decide +kernel
theorem dX4_readAll_16 : decode cX4_readAll 16 = .ok (.putfield 30, 3) := by decide +kernel
theorem dX4_readAll_19 : decode cX4_readAll 19 = .ok (.aload_n 0, 1) := by decide +kernel
theorem dX4_readAll_20 : decode cX4_readAll 20 = .ok (.iconst 0, 1) := by decide +kernel
theorem dX4_readAll_21 : decode cX4_readAll 21 = .ok (.putfield 34, 3) := by decide +kernel
theorem dX4_readAll_24 : decode cX4_readAll 24 = .ok (.aload_n 0, 1) := by decide +kernel
theorem dX4_readAll_25 : decode cX4_readAll 25 = .ok (.getfield 9, 3) := by decide +kernel
theorem dX4_readAll_28 : decode cX4_readAll 28 = .ok (.getfield 37, 3) := by decide +kernel
theorem dX4_readAll_31 : decode cX4_readAll 31 = .ok (.aload_n 0, 1) := by decide +kernel
theorem dX4_readAll_32 : decode cX4_readAll 32 = .ok (.getfield 34, 3) := by decide +kernel
theorem dX4_readAll_35 : decode cX4_readAll 35 = .ok (.iaload, 1) := by decide +kernel
theorem dX4_readAll_36 : decode cX4_readAll 36 = .ok (.ifCond .eq 34, 3) := by decide +kernel
theorem dX4_readAll_39 : decode cX4_readAll 39 = .ok (.aload_n 0, 1) := by decide +kernel
theorem dX4_readAll_40 : decode cX4_readAll 40 = .ok (.getfield 30, 3) := by decide +kernel
theorem dX4_readAll_43 : decode cX4_readAll 43 = .ok (.bipush 60, 2) := by decide +kernel
theorem dX4_readAll_45 : decode cX4_readAll 45 = .ok (.if_icmp .ge 25, 3) := by decide +kernel
theorem dX4_readAll_48 : decode cX4_readAll 48 = .ok (.aload_n 0, 1) := by decide +kernel
theorem dX4_readAll_49 : decode cX4_readAll 49 = .ok (.invokevirtual 41, 3) := by decide +kernel
theorem dX4_readAll_52 : decode cX4_readAll 52 = .ok (.ifCond .ne 5, 3) := by decide +kernel
theorem dX4_readAll_55 : decode cX4_readAll 55 = .ok (.iconst 0, 1) := by decide +kernel
theorem dX4_readAll_56 : decode cX4_readAll 56 = .ok (.ireturn, 1) := by decide +kernel
theorem dX4_readAll_57 : decode cX4_readAll 57 = .ok (.aload_n 0, 1) := by decide +kernel
theorem dX4_readAll_58 : decode cX4_readAll 58 = .ok (.dup, 1) := by decide +kernel
theorem dX4_readAll_59 : decode cX4_readAll 59 = .ok (.getfield 30, 3) := by decide +kernel
theorem dX4_readAll_62 : decode cX4_readAll 62 = .ok (.iconst 1, 1) := by decide +kernel
theorem dX4_readAll_63 : decode cX4_readAll 63 = .ok (.iadd, 1) := by decide +kernel
theorem dX4_readAll_64 : decode cX4_readAll 64 = .ok (.putfield 30, 3) := by decide +kernel
theorem dX4_readAll_67 : decode cX4_readAll 67 = .ok (.goto (-43), 3) := by decide +kernel
theorem dX4_readAll_70 : decode cX4_readAll 70 = .ok (.iconst 1, 1) := by decide +kernel
theorem dX4_readAll_71 : decode cX4_readAll 71 = .ok (.ireturn, 1) := by decide +kernel
theorem dX4_faultPlace_0 : decode cX4_faultPlace 0 = .ok (.aload_n 0, 1) := by decide +kernel
theorem dX4_faultPlace_1 : decode cX4_faultPlace 1 = .ok (.getfield 9, 3) := by decide +kernel
theorem dX4_faultPlace_4 : decode cX4_faultPlace 4 = .ok (.getfield 45, 3) := by decide +kernel
theorem dX4_faultPlace_7 : decode cX4_faultPlace 7 = .ok (.aload_n 0, 1) := by decide +kernel
theorem dX4_faultPlace_8 : decode cX4_faultPlace 8 = .ok (.getfield 34, 3) := by decide +kernel
theorem dX4_faultPlace_11 : decode cX4_faultPlace 11 = .ok (.iaload, 1) := by decide +kernel
theorem dX4_faultPlace_12 : decode cX4_faultPlace 12 = .ok (.ireturn, 1) := by decide +kernel
theorem dX4_readItem_0 : decode cX4_readItem 0 = .ok (.aload_n 0, 1) := by decide +kernel
theorem dX4_readItem_1 : decode cX4_readItem 1 = .ok (.getfield 9, 3) := by decide +kernel
theorem dX4_readItem_4 : decode cX4_readItem 4 = .ok (.getfield 37, 3) := by decide +kernel
theorem dX4_readItem_7 : decode cX4_readItem 7 = .ok (.aload_n 0, 1) := by decide +kernel
theorem dX4_readItem_8 : decode cX4_readItem 8 = .ok (.getfield 34, 3) := by decide +kernel
theorem dX4_readItem_11 : decode cX4_readItem 11 = .ok (.iaload, 1) := by decide +kernel
theorem dX4_readItem_12 : decode cX4_readItem 12 = .ok (.istore_n 1, 1) := by decide +kernel
theorem dX4_readItem_13 : decode cX4_readItem 13 = .ok (.iload_n 1, 1) := by decide +kernel
theorem dX4_readItem_14 : decode cX4_readItem 14 = .ok (.iconst 1, 1) := by decide +kernel
theorem dX4_readItem_15 : decode cX4_readItem 15 = .ok (.if_icmp .ne 19, 3) := by decide +kernel
theorem dX4_readItem_18 : decode cX4_readItem 18 = .ok (.aload_n 0, 1) := by decide +kernel
theorem dX4_readItem_19 : decode cX4_readItem 19 = .ok (.getfield 18, 3) := by decide +kernel
theorem dX4_readItem_22 : decode cX4_readItem 22 = .ok (.getfield 48, 3) := by decide +kernel
theorem dX4_readItem_25 : decode cX4_readItem 25 = .ok (.iconst 4, 1) := by decide +kernel
theorem dX4_readItem_26 : decode cX4_readItem 26 = .ok (.if_icmp .ge 8, 3) := by decide +kernel
theorem dX4_readItem_29 : decode cX4_readItem 29 = .ok (.aload_n 0, 1) := by decide +kernel
theorem dX4_readItem_30 : decode cX4_readItem 30 = .ok (.invokevirtual 51, 3) := by decide +kernel
theorem dX4_readItem_33 : decode cX4_readItem 33 = .ok (.ireturn, 1) := by decide +kernel
theorem dX4_readItem_34 : decode cX4_readItem 34 = .ok (.iload_n 1, 1) := by decide +kernel
theorem dX4_readItem_35 : decode cX4_readItem 35 = .ok (.iconst 2, 1) := by decide +kernel
theorem dX4_readItem_36 : decode cX4_readItem 36 = .ok (.if_icmp .ne 14, 3) := by decide +kernel
theorem dX4_readItem_39 : decode cX4_readItem 39 = .ok (.aload_n 0, 1) := by decide +kernel
theorem dX4_readItem_40 : decode cX4_readItem 40 = .ok (.invokevirtual 54, 3) := by decide +kernel
theorem dX4_readItem_43 : decode cX4_readItem 43 = .ok (.ifCond .eq 7, 3) := by decide +kernel
theorem dX4_readItem_46 : decode cX4_readItem 46 = .ok (.iconst 1, 1) := by decide +kernel
theorem dX4_readItem_47 : decode cX4_readItem 47 = .ok (.goto 4, 3) := by decide +kernel
theorem dX4_readItem_50 : decode cX4_readItem 50 = .ok (.iconst 0, 1) := by decide +kernel
theorem dX4_readItem_51 : decode cX4_readItem 51 = .ok (.ireturn, 1) := by decide +kernel
theorem dX4_readCask_0 : decode cX4_readCask 0 = .ok (.aload_n 0, 1) := by decide +kernel
theorem dX4_readCask_1 : decode cX4_readCask 1 = .ok (.iconst 1, 1) := by decide +kernel
theorem dX4_readCask_2 : decode cX4_readCask 2 = .ok (.bipush 12, 2) := by decide +kernel
theorem dX4_readCask_4 : decode cX4_readCask 4 = .ok (.invokevirtual 57, 3) := by decide +kernel
theorem dX4_readCask_7 : decode cX4_readCask 7 = .ok (.ifCond .ne 5, 3) := by decide +kernel
theorem dX4_readCask_10 : decode cX4_readCask 10 = .ok (.iconst 0, 1) := by decide +kernel
theorem dX4_readCask_11 : decode cX4_readCask 11 = .ok (.ireturn, 1) := by decide +kernel
theorem dX4_readCask_12 : decode cX4_readCask 12 = .ok (.aload_n 0, 1) := by decide +kernel
theorem dX4_readCask_13 : decode cX4_readCask 13 = .ok (.getfield 9, 3) := by decide +kernel
theorem dX4_readCask_16 : decode cX4_readCask 16 = .ok (.getfield 61, 3) := by decide +kernel
theorem dX4_readCask_19 : decode cX4_readCask 19 = .ok (.aload_n 0, 1) := by decide +kernel
theorem dX4_readCask_20 : decode cX4_readCask 20 = .ok (.getfield 34, 3) := by decide +kernel
theorem dX4_readCask_23 : decode cX4_readCask 23 = .ok (.iaload, 1) := by decide +kernel
theorem dX4_readCask_24 : decode cX4_readCask 24 = .ok (.istore_n 1, 1) := by decide +kernel
theorem dX4_readCask_25 : decode cX4_readCask 25 = .ok (.aload_n 0, 1) := by decide +kernel
theorem dX4_readCask_26 : decode cX4_readCask 26 = .ok (.iconst 1, 1) := by decide +kernel
theorem dX4_readCask_27 : decode cX4_readCask 27 = .ok (.bipush 20, 2) := by decide +kernel
theorem dX4_readCask_29 : decode cX4_readCask 29 = .ok (.invokevirtual 57, 3) := by decide +kernel
theorem dX4_readCask_32 : decode cX4_readCask 32 = .ok (.ifCond .ne 5, 3) := by decide +kernel
theorem dX4_readCask_35 : decode cX4_readCask 35 = .ok (.iconst 0, 1) := by decide +kernel
theorem dX4_readCask_36 : decode cX4_readCask 36 = .ok (.ireturn, 1) := by decide +kernel
theorem dX4_readCask_37 : decode cX4_readCask 37 = .ok (.aload_n 0, 1) := by decide +kernel
theorem dX4_readCask_38 : decode cX4_readCask 38 = .ok (.getfield 9, 3) := by decide +kernel
theorem dX4_readCask_41 : decode cX4_readCask 41 = .ok (.getfield 61, 3) := by decide +kernel
theorem dX4_readCask_44 : decode cX4_readCask 44 = .ok (.aload_n 0, 1) := by decide +kernel
theorem dX4_readCask_45 : decode cX4_readCask 45 = .ok (.getfield 34, 3) := by decide +kernel
theorem dX4_readCask_48 : decode cX4_readCask 48 = .ok (.iaload, 1) := by decide +kernel
theorem dX4_readCask_49 : decode cX4_readCask 49 = .ok (.istore_n 2, 1) := by decide +kernel
theorem dX4_readCask_50 : decode cX4_readCask 50 = .ok (.aload_n 0, 1) := by decide +kernel
theorem dX4_readCask_51 : decode cX4_readCask 51 = .ok (.iload_n 2, 1) := by decide +kernel
theorem dX4_readCask_52 : decode cX4_readCask 52 = .ok (.bipush 20, 2) := by decide +kernel
theorem dX4_readCask_54 : decode cX4_readCask 54 = .ok (.invokevirtual 57, 3) := by decide +kernel
theorem dX4_readCask_57 : decode cX4_readCask 57 = .ok (.ifCond .ne 5, 3) := by decide +kernel
theorem dX4_readCask_60 : decode cX4_readCask 60 = .ok (.iconst 0, 1) := by decide +kernel
theorem dX4_readCask_61 : decode cX4_readCask 61 = .ok (.ireturn, 1) := by decide +kernel
theorem dX4_readCask_62 : decode cX4_readCask 62 = .ok (.aload_n 0, 1) := by decide +kernel
theorem dX4_readCask_63 : decode cX4_readCask 63 = .ok (.getfield 9, 3) := by decide +kernel
theorem dX4_readCask_66 : decode cX4_readCask 66 = .ok (.getfield 61, 3) := by decide +kernel
theorem dX4_readCask_69 : decode cX4_readCask 69 = .ok (.aload_n 0, 1) := by decide +kernel
theorem dX4_readCask_70 : decode cX4_readCask 70 = .ok (.getfield 34, 3) := by decide +kernel
theorem dX4_readCask_73 : decode cX4_readCask 73 = .ok (.iaload, 1) := by decide +kernel
theorem dX4_readCask_74 : decode cX4_readCask 74 = .ok (.istore_n 3, 1) := by decide +kernel
theorem dX4_readCask_75 : decode cX4_readCask 75 = .ok (.aload_n 0, 1) := by decide +kernel
theorem dX4_readCask_76 : decode cX4_readCask 76 = .ok (.invokevirtual 64, 3) := by decide +kernel
theorem dX4_readCask_79 : decode cX4_readCask 79 = .ok (.ifCond .eq 20, 3) := by decide +kernel
theorem dX4_readCask_82 : decode cX4_readCask 82 = .ok (.aload_n 0, 1) := by decide +kernel
theorem dX4_readCask_83 : decode cX4_readCask 83 = .ok (.getfield 18, 3) := by decide +kernel
theorem dX4_readCask_86 : decode cX4_readCask 86 = .ok (.iload_n 1, 1) := by decide +kernel
theorem dX4_readCask_87 : decode cX4_readCask 87 = .ok (.iload_n 2, 1) := by decide +kernel
theorem dX4_readCask_88 : decode cX4_readCask 88 = .ok (.iload_n 3, 1) := by decide +kernel
theorem dX4_readCask_89 : decode cX4_readCask 89 = .ok (.invokevirtual 67, 3) := by decide +kernel
theorem dX4_readCask_92 : decode cX4_readCask 92 = .ok (.ifCond .eq 7, 3) := by decide +kernel
theorem dX4_readCask_95 : decode cX4_readCask 95 = .ok (.iconst 1, 1) := by decide +kernel
theorem dX4_readCask_96 : decode cX4_readCask 96 = .ok (.goto 4, 3) := by decide +kernel
theorem dX4_readCask_99 : decode cX4_readCask 99 = .ok (.iconst 0, 1) := by decide +kernel
theorem dX4_readCask_100 : decode cX4_readCask 100 = .ok (.ireturn, 1) := by decide +kernel
