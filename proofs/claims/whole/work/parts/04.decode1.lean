theorem dX0_init_0 : decode cX0_init 0 = .ok (.aload_n 0, 1) := by decide +kernel
theorem dX0_init_1 : decode cX0_init 1 = .ok (.invokespecial 3, 3) := by decide +kernel
theorem dX0_init_4 : decode cX0_init 4 = .ok (.aload_n 0, 1) := by decide +kernel
theorem dX0_init_5 : decode cX0_init 5 = .ok (.new 9, 3) := by decide +kernel
theorem dX0_init_8 : decode cX0_init 8 = .ok (.dup, 1) := by decide +kernel
theorem dX0_init_9 : decode cX0_init 9 = .ok (.bipush 12, 2) := by decide +kernel
theorem dX0_init_11 : decode cX0_init 11 = .ok (.invokespecial 11, 3) := by decide +kernel
theorem dX0_init_14 : decode cX0_init 14 = .ok (.putfield 14, 3) := by decide +kernel
theorem dX0_init_17 : decode cX0_init 17 = .ok (.aload_n 0, 1) := by decide +kernel
theorem dX0_init_18 : decode cX0_init 18 = .ok (.new 9, 3) := by decide +kernel
theorem dX0_init_21 : decode cX0_init 21 = .ok (.dup, 1) := by decide +kernel
theorem dX0_init_22 : decode cX0_init 22 = .ok (.bipush 20, 2) := by decide +kernel
theorem dX0_init_24 : decode cX0_init 24 = .ok (.invokespecial 11, 3) := by decide +kernel
theorem dX0_init_27 : decode cX0_init 27 = .ok (.putfield 20, 3) := by decide +kernel
theorem dX0_init_30 : decode cX0_init 30 = .ok (.aload_n 0, 1) := by decide +kernel
theorem dX0_init_31 : decode cX0_init 31 = .ok (.ldc2_w 23, 3) := by decide +kernel
theorem dX0_init_34 : decode cX0_init 34 = .ok (.putfield 25, 3) := by decide +kernel
theorem dX0_init_37 : decode cX0_init 37 = .ok (.aload_n 0, 1) := by decide +kernel
theorem dX0_init_38 : decode cX0_init 38 = .ok (.ldc2_w 23, 3) := by decide +kernel
theorem dX0_init_41 : decode cX0_init 41 = .ok (.putfield 29, 3) := by decide +kernel
theorem dX0_init_44 : decode cX0_init 44 = .ok (.return_, 1) := by decide +kernel
theorem dX0_isAboveRows_0 : decode cX0_isAboveRows 0 = .ok (.aload_n 0, 1) := by decide +kernel
theorem dX0_isAboveRows_1 : decode cX0_isAboveRows 1 = .ok (.getfield 14, 3) := by decide +kernel
theorem dX0_isAboveRows_4 : decode cX0_isAboveRows 4 = .ok (.getfield 32, 3) := by decide +kernel
theorem dX0_isAboveRows_7 : decode cX0_isAboveRows 7 = .ok (.ifCond .eq 24, 3) := by decide +kernel
theorem dX0_isAboveRows_10 : decode cX0_isAboveRows 10 = .ok (.dload_n 1, 1) := by decide +kernel
theorem dX0_isAboveRows_11 : decode cX0_isAboveRows 11 = .ok (.aload_n 0, 1) := by decide +kernel
theorem dX0_isAboveRows_12 : decode cX0_isAboveRows 12 = .ok (.getfield 14, 3) := by decide +kernel
theorem dX0_isAboveRows_15 : decode cX0_isAboveRows 15 = .ok (.aload_n 0, 1) := by decide +kernel
theorem dX0_isAboveRows_16 : decode cX0_isAboveRows 16 = .ok (.getfield 14, 3) := by decide +kernel
theorem dX0_isAboveRows_19 : decode cX0_isAboveRows 19 = .ok (.getfield 32, 3) := by decide +kernel
theorem dX0_isAboveRows_22 : decode cX0_isAboveRows 22 = .ok (.iconst 1, 1) := by decide +kernel
theorem dX0_isAboveRows_23 : decode cX0_isAboveRows 23 = .ok (.isub, 1) := by decide +kernel
theorem dX0_isAboveRows_24 : decode cX0_isAboveRows 24 = .ok (.invokevirtual 36, 3) := by decide +kernel
theorem dX0_isAboveRows_27 : decode cX0_isAboveRows 27 = .ok (.dcmp .l, 1) := by decide +kernel
theorem dX0_isAboveRows_28 : decode cX0_isAboveRows 28 = .ok (.ifCond .le 7, 3) := by decide +kernel
theorem dX0_isAboveRows_31 : decode cX0_isAboveRows 31 = .ok (.iconst 1, 1) := by decide +kernel
theorem dX0_isAboveRows_32 : decode cX0_isAboveRows 32 = .ok (.goto 4, 3) := by decide +kernel
theorem dX0_isAboveRows_35 : decode cX0_isAboveRows 35 = .ok (.iconst 0, 1) := by decide +kernel
theorem dX0_isAboveRows_36 : decode cX0_isAboveRows 36 = .ok (.ireturn, 1) := by decide +kernel
theorem dX0_leastRadius_0 : decode cX0_leastRadius 0 = .ok (.iconst 0, 1) := by decide +kernel
theorem dX0_leastRadius_1 : decode cX0_leastRadius 1 = .ok (.istore_n 3, 1) := by decide +kernel
theorem dX0_leastRadius_2 : decode cX0_leastRadius 2 = .ok (.iload_n 3, 1) := by decide +kernel
theorem dX0_leastRadius_3 : decode cX0_leastRadius 3 = .ok (.aload_n 0, 1) := by decide +kernel
theorem dX0_leastRadius_4 : decode cX0_leastRadius 4 = .ok (.getfield 14, 3) := by decide +kernel
theorem dX0_leastRadius_7 : decode cX0_leastRadius 7 = .ok (.getfield 32, 3) := by decide +kernel
theorem dX0_leastRadius_10 : decode cX0_leastRadius 10 = .ok (.if_icmp .ge 64, 3) := by decide +kernel
theorem dX0_leastRadius_13 : decode cX0_leastRadius 13 = .ok (.aload_n 0, 1) := by decide +kernel
theorem dX0_leastRadius_14 : decode cX0_leastRadius 14 = .ok (.getfield 14, 3) := by decide +kernel
theorem dX0_leastRadius_17 : decode cX0_leastRadius 17 = .ok (.iload_n 3, 1) := by decide +kernel
theorem dX0_leastRadius_18 : decode cX0_leastRadius 18 = .ok (.invokevirtual 36, 3) := by decide +kernel
theorem dX0_leastRadius_21 : decode cX0_leastRadius 21 = .ok (.dload_n 1, 1) := by decide +kernel
theorem dX0_leastRadius_22 : decode cX0_leastRadius 22 = .ok (.dcmp .l, 1) := by decide +kernel
theorem dX0_leastRadius_23 : decode cX0_leastRadius 23 = .ok (.ifCond .ne 12, 3) := by decide +kernel
theorem dX0_leastRadius_26 : decode cX0_leastRadius 26 = .ok (.aload_n 0, 1) := by decide +kernel
theorem dX0_leastRadius_27 : decode cX0_leastRadius 27 = .ok (.getfield 14, 3) := by decide +kernel
theorem dX0_leastRadius_30 : decode cX0_leastRadius 30 = .ok (.iload_n 3, 1) := by decide +kernel
theorem dX0_leastRadius_31 : decode cX0_leastRadius 31 = .ok (.invokevirtual 40, 3) := by decide +kernel
theorem dX0_leastRadius_34 : decode cX0_leastRadius 34 = .ok (.dreturn, 1) := by decide +kernel
theorem dX0_leastRadius_35 : decode cX0_leastRadius 35 = .ok (.aload_n 0, 1) := by decide +kernel
theorem dX0_leastRadius_36 : decode cX0_leastRadius 36 = .ok (.getfield 14, 3) := by decide +kernel
theorem dX0_leastRadius_39 : decode cX0_leastRadius 39 = .ok (.iload_n 3, 1) := by decide +kernel
theorem dX0_leastRadius_40 : decode cX0_leastRadius 40 = .ok (.invokevirtual 36, 3) := by decide +kernel
theorem dX0_leastRadius_43 : decode cX0_leastRadius 43 = .ok (.dload_n 1, 1) := by decide +kernel
theorem dX0_leastRadius_44 : decode cX0_leastRadius 44 = .ok (.dcmp .l, 1) := by decide +kernel
theorem dX0_leastRadius_45 : decode cX0_leastRadius 45 = .ok (.ifCond .le 23, 3) := by decide +kernel
theorem dX0_leastRadius_48 : decode cX0_leastRadius 48 = .ok (.iload_n 3, 1) := by decide +kernel
theorem dX0_leastRadius_49 : decode cX0_leastRadius 49 = .ok (.ifCond .ne 9, 3) := by decide +kernel
theorem dX0_leastRadius_52 : decode cX0_leastRadius 52 = .ok (.ldc2_w 43, 3) := by decide +kernel
theorem dX0_leastRadius_55 : decode cX0_leastRadius 55 = .ok (.goto 12, 3) := by decide +kernel
theorem dX0_leastRadius_58 : decode cX0_leastRadius 58 = .ok (.aload_n 0, 1) := by decide +kernel
theorem dX0_leastRadius_59 : decode cX0_leastRadius 59 = .ok (.iload_n 3, 1) := by decide +kernel
theorem dX0_leastRadius_60 : decode cX0_leastRadius 60 = .ok (.iconst 1, 1) := by decide +kernel
theorem dX0_leastRadius_61 : decode cX0_leastRadius 61 = .ok (.isub, 1) := by decide +kernel
theorem dX0_leastRadius_62 : decode cX0_leastRadius 62 = .ok (.iload_n 3, 1) := by decide +kernel
theorem dX0_leastRadius_63 : decode cX0_leastRadius 63 = .ok (.dload_n 1, 1) := by decide +kernel
theorem dX0_leastRadius_64 : decode cX0_leastRadius 64 = .ok (.invokevirtual 45, 3) := by decide +kernel
theorem dX0_leastRadius_67 : decode cX0_leastRadius 67 = .ok (.dreturn, 1) := by decide +kernel
theorem dX0_leastRadius_68 : decode cX0_leastRadius 68 = .ok (.iinc 3 1, 3) := by decide +kernel
theorem dX0_leastRadius_71 : decode cX0_leastRadius 71 = .ok (.goto (-69), 3) := by decide +kernel
theorem dX0_leastRadius_74 : decode cX0_leastRadius 74 = .ok (.ldc2_w 43, 3) := by decide +kernel
theorem dX0_leastRadius_77 : decode cX0_leastRadius 77 = .ok (.dreturn, 1) := by decide +kernel
theorem dX0_radiusBetween_0 : decode cX0_radiusBetween 0 = .ok (.aload_n 0, 1) := by decide +kernel
theorem dX0_radiusBetween_1 : decode cX0_radiusBetween 1 = .ok (.getfield 14, 3) := by decide +kernel
theorem dX0_radiusBetween_4 : decode cX0_radiusBetween 4 = .ok (.iload_n 1, 1) := by decide +kernel
theorem dX0_radiusBetween_5 : decode cX0_radiusBetween 5 = .ok (.invokevirtual 36, 3) := by decide +kernel
theorem dX0_radiusBetween_8 : decode cX0_radiusBetween 8 = .ok (.dstore 5, 2) := by decide +kernel
theorem dX0_radiusBetween_10 : decode cX0_radiusBetween 10 = .ok (.aload_n 0, 1) := by decide +kernel
theorem dX0_radiusBetween_11 : decode cX0_radiusBetween 11 = .ok (.getfield 14, 3) := by decide +kernel
theorem dX0_radiusBetween_14 : decode cX0_radiusBetween 14 = .ok (.iload_n 2, 1) := by decide +kernel
theorem dX0_radiusBetween_15 : decode cX0_radiusBetween 15 = .ok (.invokevirtual 36, 3) := by decide +kernel
theorem dX0_radiusBetween_18 : decode cX0_radiusBetween 18 = .ok (.dstore 7, 2) := by decide +kernel
theorem dX0_radiusBetween_20 : decode cX0_radiusBetween 20 = .ok (.aload_n 0, 1) := by decide +kernel
theorem dX0_radiusBetween_21 : decode cX0_radiusBetween 21 = .ok (.getfield 14, 3) := by decide +kernel
theorem dX0_radiusBetween_24 : decode cX0_radiusBetween 24 = .ok (.iload_n 1, 1) := by decide +kernel
theorem dX0_radiusBetween_25 : decode cX0_radiusBetween 25 = .ok (.invokevirtual 40, 3) := by decide +kernel
theorem dX0_radiusBetween_28 : decode cX0_radiusBetween 28 = .ok (.dstore 9, 2) := by decide +kernel
theorem dX0_radiusBetween_30 : decode cX0_radiusBetween 30 = .ok (.aload_n 0, 1) := by decide +kernel
theorem dX0_radiusBetween_31 : decode cX0_radiusBetween 31 = .ok (.getfield 14, 3) := by decide +kernel
theorem dX0_radiusBetween_34 : decode cX0_radiusBetween 34 = .ok (.iload_n 2, 1) := by decide +kernel
theorem dX0_radiusBetween_35 : decode cX0_radiusBetween 35 = .ok (.invokevirtual 40, 3) := by decide +kernel
theorem dX0_radiusBetween_38 : decode cX0_radiusBetween 38 = .ok (.dstore 11, 2) := by decide +kernel
theorem dX0_radiusBetween_40 : decode cX0_radiusBetween 40 = .ok (.dload 7, 2) := by decide +kernel
theorem dX0_radiusBetween_42 : decode cX0_radiusBetween 42 = .ok (.dload 5, 2) := by decide +kernel
theorem dX0_radiusBetween_44 : decode cX0_radiusBetween 44 = .ok (.dcmp .l, 1) := by decide +kernel
theorem dX0_radiusBetween_45 : decode cX0_radiusBetween 45 = .ok (.ifCond .le 25, 3) := by decide +kernel
theorem dX0_radiusBetween_48 : decode cX0_radiusBetween 48 = .ok (.dload 9, 2) := by decide +kernel
theorem dX0_radiusBetween_50 : decode cX0_radiusBetween 50 = .ok (.dload_n 3, 1) := by decide +kernel
theorem dX0_radiusBetween_51 : decode cX0_radiusBetween 51 = .ok (.dload 5, 2) := by decide +kernel
theorem dX0_radiusBetween_53 : decode cX0_radiusBetween 53 = .ok (.dsub, 1) := by decide +kernel
theorem dX0_radiusBetween_54 : decode cX0_radiusBetween 54 = .ok (.dload 11, 2) := by decide +kernel
theorem dX0_radiusBetween_56 : decode cX0_radiusBetween 56 = .ok (.dload 9, 2) := by decide +kernel
theorem dX0_radiusBetween_58 : decode cX0_radiusBetween 58 = .ok (.dsub, 1) := by decide +kernel
theorem dX0_radiusBetween_59 : decode cX0_radiusBetween 59 = .ok (.dmul, 1) := by decide +kernel
theorem dX0_radiusBetween_60 : decode cX0_radiusBetween 60 = .ok (.dload 7, 2) := by decide +kernel
theorem dX0_radiusBetween_62 : decode cX0_radiusBetween 62 = .ok (.dload 5, 2) := by decide +kernel
theorem dX0_radiusBetween_64 : decode cX0_radiusBetween 64 = .ok (.dsub, 1) := by decide +kernel
theorem dX0_radiusBetween_65 : decode cX0_radiusBetween 65 = .ok (.ddiv, 1) := by decide +kernel
theorem dX0_radiusBetween_66 : decode cX0_radiusBetween 66 = .ok (.dadd, 1) := by decide +kernel
theorem dX0_radiusBetween_67 : decode cX0_radiusBetween 67 = .ok (.goto 5, 3) := by decide +kernel
theorem dX0_radiusBetween_70 : decode cX0_radiusBetween 70 = .ok (.dload 9, 2) := by decide +kernel
theorem dX0_radiusBetween_72 : decode cX0_radiusBetween 72 = .ok (.dreturn, 1) := by decide +kernel
theorem dX0_leastStrips_0 : decode cX0_leastStrips 0 = .ok (.iconst 1, 1) := by decide +kernel
theorem dX0_leastStrips_1 : decode cX0_leastStrips 1 = .ok (.istore 5, 2) := by decide +kernel
theorem dX0_leastStrips_3 : decode cX0_leastStrips 3 = .ok (.iload 5, 2) := by decide +kernel
theorem dX0_leastStrips_5 : decode cX0_leastStrips 5 = .ok (.bipush 100, 2) := by decide +kernel
theorem dX0_leastStrips_7 : decode cX0_leastStrips 7 = .ok (.if_icmp .gt 38, 3) := by decide +kernel
theorem dX0_leastStrips_10 : decode cX0_leastStrips 10 = .ok (.aload_n 0, 1) := by decide +kernel
theorem dX0_leastStrips_11 : decode cX0_leastStrips 11 = .ok (.dload_n 1, 1) := by decide +kernel
theorem dX0_leastStrips_12 : decode cX0_leastStrips 12 = .ok (.iload 5, 2) := by decide +kernel
theorem dX0_leastStrips_14 : decode cX0_leastStrips 14 = .ok (.i2d, 1) := by decide +kernel
theorem dX0_leastStrips_15 : decode cX0_leastStrips 15 = .ok (.ddiv, 1) := by decide +kernel
theorem dX0_leastStrips_16 : decode cX0_leastStrips 16 = .ok (.invokevirtual 49, 3) := by decide +kernel
theorem dX0_leastStrips_19 : decode cX0_leastStrips 19 = .ok (.dstore 6, 2) := by decide +kernel
theorem dX0_leastStrips_21 : decode cX0_leastStrips 21 = .ok (.dload 6, 2) := by decide +kernel
theorem dX0_leastStrips_23 : decode cX0_leastStrips 23 = .ok (.invokestatic 53, 3) := by decide +kernel
theorem dX0_leastStrips_26 : decode cX0_leastStrips 26 = .ok (.ifCond .ne 13, 3) := by decide +kernel
theorem dX0_leastStrips_29 : decode cX0_leastStrips 29 = .ok (.dload 6, 2) := by decide +kernel
theorem dX0_leastStrips_31 : decode cX0_leastStrips 31 = .ok (.dload_n 3, 1) := by decide +kernel
theorem dX0_leastStrips_32 : decode cX0_leastStrips 32 = .ok (.dcmp .g, 1) := by decide +kernel
theorem dX0_leastStrips_33 : decode cX0_leastStrips 33 = .ok (.ifCond .gt 6, 3) := by decide +kernel
theorem dX0_leastStrips_36 : decode cX0_leastStrips 36 = .ok (.iload 5, 2) := by decide +kernel
theorem dX0_leastStrips_38 : decode cX0_leastStrips 38 = .ok (.ireturn, 1) := by decide +kernel
theorem dX0_leastStrips_39 : decode cX0_leastStrips 39 = .ok (.iinc 5 1, 3) := by decide +kernel
theorem dX0_leastStrips_42 : decode cX0_leastStrips 42 = .ok (.goto (-39), 3) := by decide +kernel
theorem dX0_leastStrips_45 : decode cX0_leastStrips 45 = .ok (.iconst (-1), 1) := by decide +kernel
theorem dX0_leastStrips_46 : decode cX0_leastStrips 46 = .ok (.ireturn, 1) := by decide +kernel
theorem dX0_residue_0 : decode cX0_residue 0 = .ok (.dconst 0, 1) := by decide +kernel
theorem dX0_residue_1 : decode cX0_residue 1 = .ok (.dstore_n 3, 1) := by decide +kernel
theorem dX0_residue_2 : decode cX0_residue 2 = .ok (.iconst 0, 1) := by decide +kernel
theorem dX0_residue_3 : decode cX0_residue 3 = .ok (.istore 5, 2) := by decide +kernel
theorem dX0_residue_5 : decode cX0_residue 5 = .ok (.iload 5, 2) := by decide +kernel
theorem dX0_residue_7 : decode cX0_residue 7 = .ok (.aload_n 0, 1) := by decide +kernel
theorem dX0_residue_8 : decode cX0_residue 8 = .ok (.getfield 20, 3) := by decide +kernel
theorem dX0_residue_11 : decode cX0_residue 11 = .ok (.getfield 32, 3) := by decide +kernel
theorem dX0_residue_14 : decode cX0_residue 14 = .ok (.if_icmp .ge 42, 3) := by decide +kernel
theorem dX0_residue_17 : decode cX0_residue 17 = .ok (.aload_n 0, 1) := by decide +kernel
theorem dX0_residue_18 : decode cX0_residue 18 = .ok (.getfield 20, 3) := by decide +kernel
theorem dX0_residue_21 : decode cX0_residue 21 = .ok (.iload 5, 2) := by decide +kernel
theorem dX0_residue_23 : decode cX0_residue 23 = .ok (.invokevirtual 40, 3) := by decide +kernel
theorem dX0_residue_26 : decode cX0_residue 26 = .ok (.aload_n 0, 1) := by decide +kernel
theorem dX0_residue_27 : decode cX0_residue 27 = .ok (.getfield 20, 3) := by decide +kernel
theorem dX0_residue_30 : decode cX0_residue 30 = .ok (.iload 5, 2) := by decide +kernel
theorem dX0_residue_32 : decode cX0_residue 32 = .ok (.invokevirtual 36, 3) := by decide +kernel
theorem dX0_residue_35 : decode cX0_residue 35 = .ok (.dconst 1, 1) := by decide +kernel
theorem dX0_residue_36 : decode cX0_residue 36 = .ok (.dload_n 1, 1) := by decide +kernel
theorem dX0_residue_37 : decode cX0_residue 37 = .ok (.dadd, 1) := by decide +kernel
theorem dX0_residue_38 : decode cX0_residue 38 = .ok (.dmul, 1) := by decide +kernel
theorem dX0_residue_39 : decode cX0_residue 39 = .ok (.dsub, 1) := by decide +kernel
theorem dX0_residue_40 : decode cX0_residue 40 = .ok (.dstore 6, 2) := by decide +kernel
theorem dX0_residue_42 : decode cX0_residue 42 = .ok (.dload_n 3, 1) := by decide +kernel
theorem dX0_residue_43 : decode cX0_residue 43 = .ok (.dload 6, 2) := by decide +kernel
theorem dX0_residue_45 : decode cX0_residue 45 = .ok (.dload 6, 2) := by decide +kernel
theorem dX0_residue_47 : decode cX0_residue 47 = .ok (.dmul, 1) := by decide +kernel
theorem dX0_residue_48 : decode cX0_residue 48 = .ok (.dadd, 1) := by decide +kernel
theorem dX0_residue_49 : decode cX0_residue 49 = .ok (.dstore_n 3, 1) := by decide +kernel
theorem dX0_residue_50 : decode cX0_residue 50 = .ok (.iinc 5 1, 3) := by decide +kernel
theorem dX0_residue_53 : decode cX0_residue 53 = .ok (.goto (-48), 3) := by decide +kernel
theorem dX0_residue_56 : decode cX0_residue 56 = .ok (.dload_n 3, 1) := by decide +kernel
theorem dX0_residue_57 : decode cX0_residue 57 = .ok (.dreturn, 1) := by decide +kernel
theorem dX0_fitsBetter_0 : decode cX0_fitsBetter 0 = .ok (.aload_n 0, 1) := by decide +kernel
theorem dX0_fitsBetter_1 : decode cX0_fitsBetter 1 = .ok (.aload_n 0, 1) := by decide +kernel
theorem dX0_fitsBetter_2 : decode cX0_fitsBetter 2 = .ok (.getfield 25, 3) := by decide +kernel
theorem dX0_fitsBetter_5 : decode cX0_fitsBetter 5 = .ok (.invokevirtual 57, 3) := by decide +kernel
theorem dX0_fitsBetter_8 : decode cX0_fitsBetter 8 = .ok (.dstore_n 1, 1) := by decide +kernel
theorem dX0_fitsBetter_9 : decode cX0_fitsBetter 9 = .ok (.aload_n 0, 1) := by decide +kernel
theorem dX0_fitsBetter_10 : decode cX0_fitsBetter 10 = .ok (.getfield 25, 3) := by decide +kernel
theorem dX0_fitsBetter_13 : decode cX0_fitsBetter 13 = .ok (.aload_n 0, 1) := by decide +kernel
theorem dX0_fitsBetter_14 : decode cX0_fitsBetter 14 = .ok (.getfield 29, 3) := by decide +kernel
theorem dX0_fitsBetter_17 : decode cX0_fitsBetter 17 = .ok (.dadd, 1) := by decide +kernel
theorem dX0_fitsBetter_18 : decode cX0_fitsBetter 18 = .ok (.dstore_n 3, 1) := by decide +kernel
theorem dX0_fitsBetter_19 : decode cX0_fitsBetter 19 = .ok (.aload_n 0, 1) := by decide +kernel
theorem dX0_fitsBetter_20 : decode cX0_fitsBetter 20 = .ok (.dload_n 3, 1) := by decide +kernel
theorem dX0_fitsBetter_21 : decode cX0_fitsBetter 21 = .ok (.invokevirtual 57, 3) := by decide +kernel
theorem dX0_fitsBetter_24 : decode cX0_fitsBetter 24 = .ok (.dload_n 1, 1) := by decide +kernel
theorem dX0_fitsBetter_25 : decode cX0_fitsBetter 25 = .ok (.dcmp .g, 1) := by decide +kernel
theorem dX0_fitsBetter_26 : decode cX0_fitsBetter 26 = .ok (.ifCond .ge 10, 3) := by decide +kernel
theorem dX0_fitsBetter_29 : decode cX0_fitsBetter 29 = .ok (.aload_n 0, 1) := by decide +kernel
theorem dX0_fitsBetter_30 : decode cX0_fitsBetter 30 = .ok (.dload_n 3, 1) := by decide +kernel
theorem dX0_fitsBetter_31 : decode cX0_fitsBetter 31 = .ok (.putfield 25, 3) := by decide +kernel
theorem dX0_fitsBetter_34 : decode cX0_fitsBetter 34 = .ok (.iconst 1, 1) := by decide +kernel
theorem dX0_fitsBetter_35 : decode cX0_fitsBetter 35 = .ok (.ireturn, 1) := by decide +kernel
theorem dX0_fitsBetter_36 : decode cX0_fitsBetter 36 = .ok (.aload_n 0, 1) := by decide +kernel
theorem dX0_fitsBetter_37 : decode cX0_fitsBetter 37 = .ok (.getfield 25, 3) := by decide +kernel
theorem dX0_fitsBetter_40 : decode cX0_fitsBetter 40 = .ok (.aload_n 0, 1) := by decide +kernel
theorem dX0_fitsBetter_41 : decode cX0_fitsBetter 41 = .ok (.getfield 29, 3) := by decide +kernel
theorem dX0_fitsBetter_44 : decode cX0_fitsBetter 44 = .ok (.dsub, 1) := by decide +kernel
theorem dX0_fitsBetter_45 : decode cX0_fitsBetter 45 = .ok (.dstore 5, 2) := by decide +kernel
theorem dX0_fitsBetter_47 : decode cX0_fitsBetter 47 = .ok (.dload 5, 2) := by decide +kernel
theorem dX0_fitsBetter_49 : decode cX0_fitsBetter 49 = .ok (.dconst 0, 1) := by decide +kernel
theorem dX0_fitsBetter_50 : decode cX0_fitsBetter 50 = .ok (.dcmp .l, 1) := by decide +kernel
theorem dX0_fitsBetter_51 : decode cX0_fitsBetter 51 = .ok (.ifCond .lt 22, 3) := by decide +kernel
theorem dX0_fitsBetter_54 : decode cX0_fitsBetter 54 = .ok (.aload_n 0, 1) := by decide +kernel
theorem dX0_fitsBetter_55 : decode cX0_fitsBetter 55 = .ok (.dload 5, 2) := by decide +kernel
theorem dX0_fitsBetter_57 : decode cX0_fitsBetter 57 = .ok (.invokevirtual 57, 3) := by decide +kernel
theorem dX0_fitsBetter_60 : decode cX0_fitsBetter 60 = .ok (.dload_n 1, 1) := by decide +kernel
theorem dX0_fitsBetter_61 : decode cX0_fitsBetter 61 = .ok (.dcmp .g, 1) := by decide +kernel
theorem dX0_fitsBetter_62 : decode cX0_fitsBetter 62 = .ok (.ifCond .ge 11, 3) := by decide +kernel
theorem dX0_fitsBetter_65 : decode cX0_fitsBetter 65 = .ok (.aload_n 0, 1) := by decide +kernel
theorem dX0_fitsBetter_66 : decode cX0_fitsBetter 66 = .ok (.dload 5, 2) := by decide +kernel
theorem dX0_fitsBetter_68 : decode cX0_fitsBetter 68 = .ok (.putfield 25, 3) := by decide +kernel
theorem dX0_fitsBetter_71 : decode cX0_fitsBetter 71 = .ok (.iconst 1, 1) := by decide +kernel
theorem dX0_fitsBetter_72 : decode cX0_fitsBetter 72 = .ok (.ireturn, 1) := by decide +kernel
theorem dX0_fitsBetter_73 : decode cX0_fitsBetter 73 = .ok (.aload_n 0, 1) := by decide +kernel
theorem dX0_fitsBetter_74 : decode cX0_fitsBetter 74 = .ok (.aload_n 0, 1) := by decide +kernel
theorem dX0_fitsBetter_75 : decode cX0_fitsBetter 75 = .ok (.getfield 29, 3) := by decide +kernel
theorem dX0_fitsBetter_78 : decode cX0_fitsBetter 78 = .ok (.ldc2_w 60, 3) := by decide +kernel
theorem dX0_fitsBetter_81 : decode cX0_fitsBetter 81 = .ok (.ddiv, 1) := by decide +kernel
theorem dX0_fitsBetter_82 : decode cX0_fitsBetter 82 = .ok (.putfield 29, 3) := by decide +kernel
theorem dX0_fitsBetter_85 : decode cX0_fitsBetter 85 = .ok (.iconst 0, 1) := by decide +kernel
theorem dX0_fitsBetter_86 : decode cX0_fitsBetter 86 = .ok (.ireturn, 1) := by decide +kernel
theorem dX0_formFor_0 : decode cX0_formFor 0 = .ok (.dconst 0, 1) := by decide +kernel
theorem dX0_formFor_1 : decode cX0_formFor 1 = .ok (.dstore_n 3, 1) := by decide +kernel
theorem dX0_formFor_2 : decode cX0_formFor 2 = .ok (.dload_n 1, 1) := by decide +kernel
theorem dX0_formFor_3 : decode cX0_formFor 3 = .ok (.dstore 5, 2) := by decide +kernel
theorem dX0_formFor_5 : decode cX0_formFor 5 = .ok (.iconst 0, 1) := by decide +kernel
theorem dX0_formFor_6 : decode cX0_formFor 6 = .ok (.istore 7, 2) := by decide +kernel
theorem dX0_formFor_8 : decode cX0_formFor 8 = .ok (.iload 7, 2) := by decide +kernel
theorem dX0_formFor_10 : decode cX0_formFor 10 = .ok (.bipush 40, 2) := by decide +kernel
theorem dX0_formFor_12 : decode cX0_formFor 12 = .ok (.if_icmp .ge 43, 3) := by decide +kernel
theorem dX0_formFor_15 : decode cX0_formFor 15 = .ok (.dload_n 3, 1) := by decide +kernel
theorem dX0_formFor_16 : decode cX0_formFor 16 = .ok (.dload 5, 2) := by decide +kernel
theorem dX0_formFor_18 : decode cX0_formFor 18 = .ok (.dadd, 1) := by decide +kernel
theorem dX0_formFor_19 : decode cX0_formFor 19 = .ok (.ldc2_w 60, 3) := by decide +kernel
theorem dX0_formFor_22 : decode cX0_formFor 22 = .ok (.ddiv, 1) := by decide +kernel
theorem dX0_formFor_23 : decode cX0_formFor 23 = .ok (.dstore 8, 2) := by decide +kernel
theorem dX0_formFor_25 : decode cX0_formFor 25 = .ok (.dload 8, 2) := by decide +kernel
theorem dX0_formFor_27 : decode cX0_formFor 27 = .ok (.dconst 1, 1) := by decide +kernel
theorem dX0_formFor_28 : decode cX0_formFor 28 = .ok (.aload_n 0, 1) := by decide +kernel
theorem dX0_formFor_29 : decode cX0_formFor 29 = .ok (.getfield 25, 3) := by decide +kernel
theorem dX0_formFor_32 : decode cX0_formFor 32 = .ok (.dadd, 1) := by decide +kernel
theorem dX0_formFor_33 : decode cX0_formFor 33 = .ok (.dmul, 1) := by decide +kernel
theorem dX0_formFor_34 : decode cX0_formFor 34 = .ok (.dload_n 1, 1) := by decide +kernel
theorem dX0_formFor_35 : decode cX0_formFor 35 = .ok (.dcmp .g, 1) := by decide +kernel
theorem dX0_formFor_36 : decode cX0_formFor 36 = .ok (.ifCond .ge 9, 3) := by decide +kernel
theorem dX0_formFor_39 : decode cX0_formFor 39 = .ok (.dload 8, 2) := by decide +kernel
theorem dX0_formFor_41 : decode cX0_formFor 41 = .ok (.dstore_n 3, 1) := by decide +kernel
theorem dX0_formFor_42 : decode cX0_formFor 42 = .ok (.goto 7, 3) := by decide +kernel
theorem dX0_formFor_45 : decode cX0_formFor 45 = .ok (.dload 8, 2) := by decide +kernel
theorem dX0_formFor_47 : decode cX0_formFor 47 = .ok (.dstore 5, 2) := by decide +kernel
theorem dX0_formFor_49 : decode cX0_formFor 49 = .ok (.iinc 7 1, 3) := by decide +kernel
theorem dX0_formFor_52 : decode cX0_formFor 52 = .ok (.goto (-44), 3) := by decide +kernel
theorem dX0_formFor_55 : decode cX0_formFor 55 = .ok (.dload 5, 2) := by decide +kernel
theorem dX0_formFor_57 : decode cX0_formFor 57 = .ok (.dreturn, 1) := by decide +kernel
theorem dX1_init_0 : decode cX1_init 0 = .ok (.aload_n 0, 1) := by decide +kernel
theorem dX1_init_1 : decode cX1_init 1 = .ok (.invokespecial 3, 3) := by decide +kernel
theorem dX1_init_4 : decode cX1_init 4 = .ok (.aload_n 0, 1) := by decide +kernel
theorem dX1_init_5 : decode cX1_init 5 = .ok (.iconst 0, 1) := by decide +kernel
theorem dX1_init_6 : decode cX1_init 6 = .ok (.putfield 9, 3) := by decide +kernel
theorem dX1_init_9 : decode cX1_init 9 = .ok (.iload_n 1, 1) := by decide +kernel
theorem dX1_init_10 : decode cX1_init 10 = .ok (.iconst 0, 1) := by decide +kernel
theorem dX1_init_11 : decode cX1_init 11 = .ok (.invokestatic 15, 3) := by decide +kernel
theorem dX1_init_14 : decode cX1_init 14 = .ok (.istore_n 2, 1) := by decide +kernel
theorem dX1_init_15 : decode cX1_init 15 = .ok (.aload_n 0, 1) := by decide +kernel
theorem dX1_init_16 : decode cX1_init 16 = .ok (.iload_n 2, 1) := by decide +kernel
theorem dX1_init_17 : decode cX1_init 17 = .ok (.newarray .double, 2) := by decide +kernel
theorem dX1_init_19 : decode cX1_init 19 = .ok (.putfield 21, 3) := by decide +kernel
theorem dX1_init_22 : decode cX1_init 22 = .ok (.aload_n 0, 1) := by decide +kernel
theorem dX1_init_23 : decode cX1_init 23 = .ok (.iload_n 2, 1) := by decide +kernel
theorem dX1_init_24 : decode cX1_init 24 = .ok (.newarray .double, 2) := by decide +kernel
theorem dX1_init_26 : decode cX1_init 26 = .ok (.putfield 25, 3) := by decide +kernel
theorem dX1_init_29 : decode cX1_init 29 = .ok (.return_, 1) := by decide +kernel
theorem dX1_add_0 : decode cX1_add 0 = .ok (.aload_n 0, 1) := by decide +kernel
theorem dX1_add_1 : decode cX1_add 1 = .ok (.aload_n 0, 1) := by decide +kernel
theorem dX1_add_2 : decode cX1_add 2 = .ok (.getfield 9, 3) := by decide +kernel
theorem dX1_add_5 : decode cX1_add 5 = .ok (.invokevirtual 28, 3) := by decide +kernel
theorem dX1_add_8 : decode cX1_add 8 = .ok (.ifCond .ne 5, 3) := by decide +kernel
theorem dX1_add_11 : decode cX1_add 11 = .ok (.iconst (-1), 1) := by decide +kernel
theorem dX1_add_12 : decode cX1_add 12 = .ok (.ireturn, 1) := by decide +kernel
theorem dX1_add_13 : decode cX1_add 13 = .ok (.aload_n 0, 1) := by decide +kernel
theorem dX1_add_14 : decode cX1_add 14 = .ok (.getfield 21, 3) := by decide +kernel
theorem dX1_add_17 : decode cX1_add 17 = .ok (.aload_n 0, 1) := by decide +kernel
theorem dX1_add_18 : decode cX1_add 18 = .ok (.getfield 9, 3) := by decide +kernel
theorem dX1_add_21 : decode cX1_add 21 = .ok (.dload_n 1, 1) := by decide +kernel
theorem dX1_add_22 : decode cX1_add 22 = .ok (.dastore, 1) := by decide +kernel
theorem dX1_add_23 : decode cX1_add 23 = .ok (.aload_n 0, 1) := by decide +kernel
theorem dX1_add_24 : decode cX1_add 24 = .ok (.getfield 25, 3) := by decide +kernel
theorem dX1_add_27 : decode cX1_add 27 = .ok (.aload_n 0, 1) := by decide +kernel
theorem dX1_add_28 : decode cX1_add 28 = .ok (.getfield 9, 3) := by decide +kernel
theorem dX1_add_31 : decode cX1_add 31 = .ok (.dload_n 3, 1) := by decide +kernel
theorem dX1_add_32 : decode cX1_add 32 = .ok (.dastore, 1) := by decide +kernel
theorem dX1_add_33 : decode cX1_add 33 = .ok (.aload_n 0, 1) := by decide +kernel
theorem dX1_add_34 : decode cX1_add 34 = .ok (.dup, 1) := by decide +kernel
theorem dX1_add_35 : decode cX1_add 35 = .ok (.getfield 9, 3) := by decide +kernel
theorem dX1_add_38 : decode cX1_add 38 = .ok (.iconst 1, 1) := by decide +kernel
theorem dX1_add_39 : decode cX1_add 39 = .ok (.iadd, 1) := by decide +kernel
theorem dX1_add_40 : decode cX1_add 40 = .ok (.putfield 9, 3) := by decide +kernel
theorem dX1_add_43 : decode cX1_add 43 = .ok (.aload_n 0, 1) := by decide +kernel
theorem dX1_add_44 : decode cX1_add 44 = .ok (.getfield 9, 3) := by decide +kernel
theorem dX1_add_47 : decode cX1_add 47 = .ok (.ireturn, 1) := by decide +kernel
theorem dX1_removeAll_0 : decode cX1_removeAll 0 = .ok (.aload_n 0, 1) := by decide +kernel
theorem dX1_removeAll_1 : decode cX1_removeAll 1 = .ok (.iconst 0, 1) := by decide +kernel
theorem dX1_removeAll_2 : decode cX1_removeAll 2 = .ok (.putfield 9, 3) := by decide +kernel
theorem dX1_removeAll_5 : decode cX1_removeAll 5 = .ok (.return_, 1) := by decide +kernel
theorem dX1_first_0 : decode cX1_first 0 = .ok (.aload_n 0, 1) := by decide +kernel
theorem dX1_first_1 : decode cX1_first 1 = .ok (.iload_n 1, 1) := by decide +kernel
theorem dX1_first_2 : decode cX1_first 2 = .ok (.invokevirtual 28, 3) := by decide +kernel
theorem dX1_first_5 : decode cX1_first 5 = .ok (.ifCond .eq 12, 3) := by decide +kernel
theorem dX1_first_8 : decode cX1_first 8 = .ok (.aload_n 0, 1) := by decide +kernel
theorem dX1_first_9 : decode cX1_first 9 = .ok (.getfield 21, 3) := by decide +kernel
theorem dX1_first_12 : decode cX1_first 12 = .ok (.iload_n 1, 1) := by decide +kernel
theorem dX1_first_13 : decode cX1_first 13 = .ok (.daload, 1) := by decide +kernel
theorem dX1_first_14 : decode cX1_first 14 = .ok (.goto 4, 3) := by decide +kernel
theorem dX1_first_17 : decode cX1_first 17 = .ok (.dconst 0, 1) := by decide +kernel
theorem dX1_first_18 : decode cX1_first 18 = .ok (.dreturn, 1) := by decide +kernel
theorem dX1_second_0 : decode cX1_second 0 = .ok (.aload_n 0, 1) := by decide +kernel
theorem dX1_second_1 : decode cX1_second 1 = .ok (.iload_n 1, 1) := by decide +kernel
theorem dX1_second_2 : decode cX1_second 2 = .ok (.invokevirtual 28, 3) := by decide +kernel
theorem dX1_second_5 : decode cX1_second 5 = .ok (.ifCond .eq 12, 3) := by decide +kernel
theorem dX1_second_8 : decode cX1_second 8 = .ok (.aload_n 0, 1) := by decide +kernel
theorem dX1_second_9 : decode cX1_second 9 = .ok (.getfield 25, 3) := by decide +kernel
theorem dX1_second_12 : decode cX1_second 12 = .ok (.iload_n 1, 1) := by decide +kernel
theorem dX1_second_13 : decode cX1_second 13 = .ok (.daload, 1) := by decide +kernel
theorem dX1_second_14 : decode cX1_second 14 = .ok (.goto 4, 3) := by decide +kernel
theorem dX1_second_17 : decode cX1_second 17 = .ok (.dconst 0, 1) := by decide +kernel
theorem dX1_second_18 : decode cX1_second 18 = .ok (.dreturn, 1) := by decide +kernel
theorem dX1_isPlace_0 : decode cX1_isPlace 0 = .ok (.iload_n 1, 1) := by decide +kernel
theorem dX1_isPlace_1 : decode cX1_isPlace 1 = .ok (.ifCond .lt 25, 3) := by decide +kernel
theorem dX1_isPlace_4 : decode cX1_isPlace 4 = .ok (.iload_n 1, 1) := by decide +kernel
theorem dX1_isPlace_5 : decode cX1_isPlace 5 = .ok (.aload_n 0, 1) := by decide +kernel
theorem dX1_isPlace_6 : decode cX1_isPlace 6 = .ok (.getfield 21, 3) := by decide +kernel
theorem dX1_isPlace_9 : decode cX1_isPlace 9 = .ok (.arraylength, 1) := by decide +kernel
theorem dX1_isPlace_10 : decode cX1_isPlace 10 = .ok (.if_icmp .ge 16, 3) := by decide +kernel
theorem dX1_isPlace_13 : decode cX1_isPlace 13 = .ok (.iload_n 1, 1) := by decide +kernel
theorem dX1_isPlace_14 : decode cX1_isPlace 14 = .ok (.aload_n 0, 1) := by decide +kernel
theorem dX1_isPlace_15 : decode cX1_isPlace 15 = .ok (.getfield 25, 3) := by decide +kernel
theorem dX1_isPlace_18 : decode cX1_isPlace 18 = .ok (.arraylength, 1) := by decide +kernel
theorem dX1_isPlace_19 : decode cX1_isPlace 19 = .ok (.if_icmp .ge 7, 3) := by decide +kernel
theorem dX1_isPlace_22 : decode cX1_isPlace 22 = .ok (.iconst 1, 1) := by decide +kernel
theorem dX1_isPlace_23 : decode cX1_isPlace 23 = .ok (.goto 4, 3) := by decide +kernel
theorem dX1_isPlace_26 : decode cX1_isPlace 26 = .ok (.iconst 0, 1) := by decide +kernel
theorem dX1_isPlace_27 : decode cX1_isPlace 27 = .ok (.ireturn, 1) := by decide +kernel
theorem dX2_init_0 : decode cX2_init 0 = .ok (.aload_n 0, 1) := by decide +kernel
theorem dX2_init_1 : decode cX2_init 1 = .ok (.invokespecial 3, 3) := by decide +kernel
theorem dX2_init_4 : decode cX2_init 4 = .ok (.aload_n 0, 1) := by decide +kernel
theorem dX2_init_5 : decode cX2_init 5 = .ok (.new 9, 3) := by decide +kernel
theorem dX2_init_8 : decode cX2_init 8 = .ok (.dup, 1) := by decide +kernel
theorem dX2_init_9 : decode cX2_init 9 = .ok (.bipush 12, 2) := by decide +kernel
theorem dX2_init_11 : decode cX2_init 11 = .ok (.invokespecial 11, 3) := by decide +kernel
theorem dX2_init_14 : decode cX2_init 14 = .ok (.putfield 14, 3) := by decide +kernel
theorem dX2_init_17 : decode cX2_init 17 = .ok (.return_, 1) := by decide +kernel
theorem dX2_isBendable_0 : decode cX2_isBendable 0 = .ok (.iconst 0, 1) := by decide +kernel
theorem dX2_isBendable_1 : decode cX2_isBendable 1 = .ok (.istore_n 3, 1) := by decide +kernel
theorem dX2_isBendable_2 : decode cX2_isBendable 2 = .ok (.iload_n 3, 1) := by decide +kernel
theorem dX2_isBendable_3 : decode cX2_isBendable 3 = .ok (.aload_n 0, 1) := by decide +kernel
theorem dX2_isBendable_4 : decode cX2_isBendable 4 = .ok (.getfield 14, 3) := by decide +kernel
theorem dX2_isBendable_7 : decode cX2_isBendable 7 = .ok (.getfield 20, 3) := by decide +kernel
theorem dX2_isBendable_10 : decode cX2_isBendable 10 = .ok (.if_icmp .ge 39, 3) := by decide +kernel
theorem dX2_isBendable_13 : decode cX2_isBendable 13 = .ok (.aload_n 0, 1) := by decide +kernel
theorem dX2_isBendable_14 : decode cX2_isBendable 14 = .ok (.getfield 14, 3) := by decide +kernel
theorem dX2_isBendable_17 : decode cX2_isBendable 17 = .ok (.iload_n 3, 1) := by decide +kernel
theorem dX2_isBendable_18 : decode cX2_isBendable 18 = .ok (.invokevirtual 24, 3) := by decide +kernel
theorem dX2_isBendable_21 : decode cX2_isBendable 21 = .ok (.dstore 4, 2) := by decide +kernel
theorem dX2_isBendable_23 : decode cX2_isBendable 23 = .ok (.dload 4, 2) := by decide +kernel
theorem dX2_isBendable_25 : decode cX2_isBendable 25 = .ok (.dconst 0, 1) := by decide +kernel
theorem dX2_isBendable_26 : decode cX2_isBendable 26 = .ok (.dcmp .l, 1) := by decide +kernel
theorem dX2_isBendable_27 : decode cX2_isBendable 27 = .ok (.ifCond .le 16, 3) := by decide +kernel
theorem dX2_isBendable_30 : decode cX2_isBendable 30 = .ok (.dload_n 1, 1) := by decide +kernel
theorem dX2_isBendable_31 : decode cX2_isBendable 31 = .ok (.ldc2_w 28, 3) := by decide +kernel
theorem dX2_isBendable_34 : decode cX2_isBendable 34 = .ok (.dload 4, 2) := by decide +kernel
theorem dX2_isBendable_36 : decode cX2_isBendable 36 = .ok (.dmul, 1) := by decide +kernel
theorem dX2_isBendable_37 : decode cX2_isBendable 37 = .ok (.dcmp .l, 1) := by decide +kernel
theorem dX2_isBendable_38 : decode cX2_isBendable 38 = .ok (.ifCond .le 5, 3) := by decide +kernel
theorem dX2_isBendable_41 : decode cX2_isBendable 41 = .ok (.iconst 0, 1) := by decide +kernel
theorem dX2_isBendable_42 : decode cX2_isBendable 42 = .ok (.ireturn, 1) := by decide +kernel
theorem dX2_isBendable_43 : decode cX2_isBendable 43 = .ok (.iinc 3 1, 3) := by decide +kernel
theorem dX2_isBendable_46 : decode cX2_isBendable 46 = .ok (.goto (-44), 3) := by decide +kernel
theorem dX2_isBendable_49 : decode cX2_isBendable 49 = .ok (.iconst 1, 1) := by decide +kernel
theorem dX2_isBendable_50 : decode cX2_isBendable 50 = .ok (.ireturn, 1) := by decide +kernel
theorem dX2_sumOfLengths_0 : decode cX2_sumOfLengths 0 = .ok (.dconst 0, 1) := by decide +kernel
theorem dX2_sumOfLengths_1 : decode cX2_sumOfLengths 1 = .ok (.dstore 4, 2) := by decide +kernel
theorem dX2_sumOfLengths_3 : decode cX2_sumOfLengths 3 = .ok (.iconst 0, 1) := by decide +kernel
theorem dX2_sumOfLengths_4 : decode cX2_sumOfLengths 4 = .ok (.istore 6, 2) := by decide +kernel
theorem dX2_sumOfLengths_6 : decode cX2_sumOfLengths 6 = .ok (.iload 6, 2) := by decide +kernel
theorem dX2_sumOfLengths_8 : decode cX2_sumOfLengths 8 = .ok (.aload_n 0, 1) := by decide +kernel
theorem dX2_sumOfLengths_9 : decode cX2_sumOfLengths 9 = .ok (.getfield 14, 3) := by decide +kernel
theorem dX2_sumOfLengths_12 : decode cX2_sumOfLengths 12 = .ok (.getfield 20, 3) := by decide +kernel
theorem dX2_sumOfLengths_15 : decode cX2_sumOfLengths 15 = .ok (.if_icmp .ge 22, 3) := by decide +kernel
theorem dX2_sumOfLengths_18 : decode cX2_sumOfLengths 18 = .ok (.dload 4, 2) := by decide +kernel
theorem dX2_sumOfLengths_20 : decode cX2_sumOfLengths 20 = .ok (.aload_n 0, 1) := by decide +kernel
theorem dX2_sumOfLengths_21 : decode cX2_sumOfLengths 21 = .ok (.iload 6, 2) := by decide +kernel
theorem dX2_sumOfLengths_23 : decode cX2_sumOfLengths 23 = .ok (.iload_n 1, 1) := by decide +kernel
theorem dX2_sumOfLengths_24 : decode cX2_sumOfLengths 24 = .ok (.dload_n 2, 1) := by decide +kernel
theorem dX2_sumOfLengths_25 : decode cX2_sumOfLengths 25 = .ok (.invokevirtual 30, 3) := by decide +kernel
theorem dX2_sumOfLengths_28 : decode cX2_sumOfLengths 28 = .ok (.dadd, 1) := by decide +kernel
theorem dX2_sumOfLengths_29 : decode cX2_sumOfLengths 29 = .ok (.dstore 4, 2) := by decide +kernel
theorem dX2_sumOfLengths_31 : decode cX2_sumOfLengths 31 = .ok (.iinc 6 1, 3) := by decide +kernel
theorem dX2_sumOfLengths_34 : decode cX2_sumOfLengths 34 = .ok (.goto (-28), 3) := by decide +kernel
theorem dX2_sumOfLengths_37 : decode cX2_sumOfLengths 37 = .ok (.dload 4, 2) := by decide +kernel
theorem dX2_sumOfLengths_39 : decode cX2_sumOfLengths 39 = .ok (.dreturn, 1) := by decide +kernel
theorem dX2_lengthOf_0 : decode cX2_lengthOf 0 = .ok (.aload_n 0, 1) := by decide +kernel
theorem dX2_lengthOf_1 : decode cX2_lengthOf 1 = .ok (.getfield 14, 3) := by decide +kernel
theorem dX2_lengthOf_4 : decode cX2_lengthOf 4 = .ok (.iload_n 1, 1) := by decide +kernel
theorem dX2_lengthOf_5 : decode cX2_lengthOf 5 = .ok (.invokevirtual 34, 3) := by decide +kernel
theorem dX2_lengthOf_8 : decode cX2_lengthOf 8 = .ok (.dstore 5, 2) := by decide +kernel
theorem dX2_lengthOf_10 : decode cX2_lengthOf 10 = .ok (.aload_n 0, 1) := by decide +kernel
theorem dX2_lengthOf_11 : decode cX2_lengthOf 11 = .ok (.getfield 14, 3) := by decide +kernel
theorem dX2_lengthOf_14 : decode cX2_lengthOf 14 = .ok (.iload_n 1, 1) := by decide +kernel
theorem dX2_lengthOf_15 : decode cX2_lengthOf 15 = .ok (.invokevirtual 24, 3) := by decide +kernel
theorem dX2_lengthOf_18 : decode cX2_lengthOf 18 = .ok (.dstore 7, 2) := by decide +kernel
theorem dX2_lengthOf_20 : decode cX2_lengthOf 20 = .ok (.dload 7, 2) := by decide +kernel
theorem dX2_lengthOf_22 : decode cX2_lengthOf 22 = .ok (.dconst 0, 1) := by decide +kernel
theorem dX2_lengthOf_23 : decode cX2_lengthOf 23 = .ok (.dcmp .l, 1) := by decide +kernel
theorem dX2_lengthOf_24 : decode cX2_lengthOf 24 = .ok (.ifCond .gt 6, 3) := by decide +kernel
theorem dX2_lengthOf_27 : decode cX2_lengthOf 27 = .ok (.dload 5, 2) := by decide +kernel
theorem dX2_lengthOf_29 : decode cX2_lengthOf 29 = .ok (.dreturn, 1) := by decide +kernel
theorem dX2_lengthOf_30 : decode cX2_lengthOf 30 = .ok (.iload_n 2, 1) := by decide +kernel
theorem dX2_lengthOf_31 : decode cX2_lengthOf 31 = .ok (.ifCond .eq 14, 3) := by decide +kernel
theorem dX2_lengthOf_34 : decode cX2_lengthOf 34 = .ok (.dload 7, 2) := by decide +kernel
theorem dX2_lengthOf_36 : decode cX2_lengthOf 36 = .ok (.dload_n 3, 1) := by decide +kernel
theorem dX2_lengthOf_37 : decode cX2_lengthOf 37 = .ok (.ldc2_w 28, 3) := by decide +kernel
theorem dX2_lengthOf_40 : decode cX2_lengthOf 40 = .ok (.ddiv, 1) := by decide +kernel
theorem dX2_lengthOf_41 : decode cX2_lengthOf 41 = .ok (.dadd, 1) := by decide +kernel
theorem dX2_lengthOf_42 : decode cX2_lengthOf 42 = .ok (.goto 11, 3) := by decide +kernel
theorem dX2_lengthOf_45 : decode cX2_lengthOf 45 = .ok (.dload 7, 2) := by decide +kernel
theorem dX2_lengthOf_47 : decode cX2_lengthOf 47 = .ok (.dload_n 3, 1) := by decide +kernel
theorem dX2_lengthOf_48 : decode cX2_lengthOf 48 = .ok (.ldc2_w 28, 3) := by decide +kernel
theorem dX2_lengthOf_51 : decode cX2_lengthOf 51 = .ok (.ddiv, 1) := by decide +kernel
theorem dX2_lengthOf_52 : decode cX2_lengthOf 52 = .ok (.dsub, 1) := by decide +kernel
theorem dX2_lengthOf_53 : decode cX2_lengthOf 53 = .ok (.dstore 9, 2) := by decide +kernel
theorem dX2_lengthOf_55 : decode cX2_lengthOf 55 = .ok (.dload 5, 2) := by decide +kernel
theorem dX2_lengthOf_57 : decode cX2_lengthOf 57 = .ok (.dload 9, 2) := by decide +kernel
theorem dX2_lengthOf_59 : decode cX2_lengthOf 59 = .ok (.dmul, 1) := by decide +kernel
theorem dX2_lengthOf_60 : decode cX2_lengthOf 60 = .ok (.dload 7, 2) := by decide +kernel
theorem dX2_lengthOf_62 : decode cX2_lengthOf 62 = .ok (.ddiv, 1) := by decide +kernel
theorem dX2_lengthOf_63 : decode cX2_lengthOf 63 = .ok (.dreturn, 1) := by decide +kernel
theorem dX3_init_0 : decode cX3_init 0 = .ok (.aload_n 0, 1) := by decide +kernel
theorem dX3_init_1 : decode cX3_init 1 = .ok (.invokespecial 1, 3) := by decide +kernel
theorem dX3_init_4 : decode cX3_init 4 = .ok (.aload_n 0, 1) := by decide +kernel
theorem dX3_init_5 : decode cX3_init 5 = .ok (.iconst 4, 1) := by decide +kernel
theorem dX3_init_6 : decode cX3_init 6 = .ok (.anewarray 9, 3) := by decide +kernel
theorem dX3_init_9 : decode cX3_init 9 = .ok (.putfield 11, 3) := by decide +kernel
theorem dX3_init_12 : decode cX3_init 12 = .ok (.aload_n 0, 1) := by decide +kernel
theorem dX3_init_13 : decode cX3_init 13 = .ok (.new 15, 3) := by decide +kernel
theorem dX3_init_16 : decode cX3_init 16 = .ok (.dup, 1) := by decide +kernel
theorem dX3_init_17 : decode cX3_init 17 = .ok (.invokespecial 17, 3) := by decide +kernel
theorem dX3_init_20 : decode cX3_init 20 = .ok (.putfield 18, 3) := by decide +kernel
theorem dX3_init_23 : decode cX3_init 23 = .ok (.aload_n 0, 1) := by decide +kernel
theorem dX3_init_24 : decode cX3_init 24 = .ok (.iconst 0, 1) := by decide +kernel
theorem dX3_init_25 : decode cX3_init 25 = .ok (.putfield 22, 3) := by decide +kernel
theorem dX3_init_28 : decode cX3_init 28 = .ok (.aload_n 0, 1) := by decide +kernel
theorem dX3_init_29 : decode cX3_init 29 = .ok (.dconst 0, 1) := by decide +kernel
theorem dX3_init_30 : decode cX3_init 30 = .ok (.putfield 26, 3) := by decide +kernel
theorem dX3_init_33 : decode cX3_init 33 = .ok (.iconst 0, 1) := by decide +kernel
theorem dX3_init_34 : decode cX3_init 34 = .ok (.istore_n 1, 1) := by decide +kernel
theorem dX3_init_35 : decode cX3_init 35 = .ok (.iload_n 1, 1) := by decide +kernel
theorem dX3_init_36 : decode cX3_init 36 = .ok (.aload_n 0, 1) := by decide +kernel
theorem dX3_init_37 : decode cX3_init 37 = .ok (.getfield 11, 3) := by decide +kernel
theorem dX3_init_40 : decode cX3_init 40 = .ok (.arraylength, 1) := by decide +kernel
theorem dX3_init_41 : decode cX3_init 41 = .ok (.if_icmp .ge 22, 3) := by decide +kernel
theorem dX3_init_44 : decode cX3_init 44 = .ok (.aload_n 0, 1) := by decide +kernel
theorem dX3_init_45 : decode cX3_init 45 = .ok (.getfield 11, 3) := by decide +kernel
theorem dX3_init_48 : decode cX3_init 48 = .ok (.iload_n 1, 1) := by decide +kernel
theorem dX3_init_49 : decode cX3_init 49 = .ok (.new 9, 3) := by decide +kernel
theorem dX3_init_52 : decode cX3_init 52 = .ok (.dup, 1) := by decide +kernel
theorem dX3_init_53 : decode cX3_init 53 = .ok (.invokespecial 30, 3) := by decide +kernel
theorem dX3_init_56 : decode cX3_init 56 = .ok (.aastore, 1) := by decide +kernel
theorem dX3_init_57 : decode cX3_init 57 = .ok (.iinc 1 1, 3) := by decide +kernel
theorem dX3_init_60 : decode cX3_init 60 = .ok (.goto (-25), 3) := by decide +kernel
theorem dX3_init_63 : decode cX3_init 63 = .ok (.return_, 1) := by decide +kernel
theorem dX3_table_0 : decode cX3_table 0 = .ok (.aload_n 0, 1) := by decide +kernel
theorem dX3_table_1 : decode cX3_table 1 = .ok (.iload_n 1, 1) := by decide +kernel
theorem dX3_table_2 : decode cX3_table 2 = .ok (.invokevirtual 31, 3) := by decide +kernel
theorem dX3_table_5 : decode cX3_table 5 = .ok (.astore 6, 2) := by decide +kernel
theorem dX3_table_7 : decode cX3_table 7 = .ok (.dload_n 2, 1) := by decide +kernel
theorem dX3_table_8 : decode cX3_table 8 = .ok (.ldc2_w 35, 3) := by decide +kernel
theorem dX3_table_11 : decode cX3_table 11 = .ok (.ldc2_w 37, 3) := by decide +kernel
theorem dX3_table_14 : decode cX3_table 14 = .ok (.invokestatic 39, 3) := by decide +kernel
theorem dX3_table_17 : decode cX3_table 17 = .ok (.ifCond .eq 26, 3) := by decide +kernel
theorem dX3_table_20 : decode cX3_table 20 = .ok (.dload 4, 2) := by decide +kernel
theorem dX3_table_22 : decode cX3_table 22 = .ok (.ldc2_w 35, 3) := by decide +kernel
theorem dX3_table_25 : decode cX3_table 25 = .ok (.ldc2_w 43, 3) := by decide +kernel
theorem dX3_table_28 : decode cX3_table 28 = .ok (.invokestatic 39, 3) := by decide +kernel
theorem dX3_table_31 : decode cX3_table 31 = .ok (.ifCond .eq 12, 3) := by decide +kernel
theorem dX3_table_34 : decode cX3_table 34 = .ok (.aload 6, 2) := by decide +kernel
theorem dX3_table_36 : decode cX3_table 36 = .ok (.dload_n 2, 1) := by decide +kernel
theorem dX3_table_37 : decode cX3_table 37 = .ok (.invokevirtual 45, 3) := by decide +kernel
theorem dX3_table_40 : decode cX3_table 40 = .ok (.ifCond .ne 13, 3) := by decide +kernel
theorem dX3_table_43 : decode cX3_table 43 = .ok (.new 49, 3) := by decide +kernel
theorem dX3_table_46 : decode cX3_table 46 = .ok (.dup, 1) := by decide +kernel
theorem dX3_table_47 : decode cX3_table 47 = .ok (.ldc 51, 2) := by decide +kernel
theorem dX3_table_49 : decode cX3_table 49 = .ok (.invokespecial 53, 3) := by decide +kernel
theorem dX3_table_52 : decode cX3_table 52 = .ok (.athrow, 1) := by decide +kernel
theorem dX3_table_53 : decode cX3_table 53 = .ok (.aload 6, 2) := by decide +kernel
theorem dX3_table_55 : decode cX3_table 55 = .ok (.getfield 56, 3) := by decide +kernel
theorem dX3_table_58 : decode cX3_table 58 = .ok (.dload_n 2, 1) := by decide +kernel
theorem dX3_table_59 : decode cX3_table 59 = .ok (.dload 4, 2) := by decide +kernel
theorem dX3_table_61 : decode cX3_table 61 = .ok (.invokevirtual 60, 3) := by decide +kernel
theorem dX3_table_64 : decode cX3_table 64 = .ok (.istore 7, 2) := by decide +kernel
theorem dX3_table_66 : decode cX3_table 66 = .ok (.iload 7, 2) := by decide +kernel
theorem dX3_table_68 : decode cX3_table 68 = .ok (.iconst (-1), 1) := by decide +kernel
theorem dX3_table_69 : decode cX3_table 69 = .ok (.if_icmp .ne 13, 3) := by decide +kernel
theorem dX3_table_72 : decode cX3_table 72 = .ok (.new 66, 3) := by decide +kernel
theorem dX3_table_75 : decode cX3_table 75 = .ok (.dup, 1) := by decide +kernel
theorem dX3_table_76 : decode cX3_table 76 = .ok (.ldc 68, 2) := by decide +kernel
theorem dX3_table_78 : decode cX3_table 78 = .ok (.invokespecial 70, 3) := by decide +kernel
theorem dX3_table_81 : decode cX3_table 81 = .ok (.athrow, 1) := by decide +kernel
theorem dX3_table_82 : decode cX3_table 82 = .ok (.iload 7, 2) := by decide +kernel
theorem dX3_table_84 : decode cX3_table 84 = .ok (.ireturn, 1) := by decide +kernel
theorem dX3_radius_0 : decode cX3_radius 0 = .ok (.aload_n 0, 1) := by decide +kernel
theorem dX3_radius_1 : decode cX3_radius 1 = .ok (.iload_n 1, 1) := by decide +kernel
theorem dX3_radius_2 : decode cX3_radius 2 = .ok (.invokevirtual 31, 3) := by decide +kernel
theorem dX3_radius_5 : decode cX3_radius 5 = .ok (.astore 4, 2) := by decide +kernel
theorem dX3_radius_7 : decode cX3_radius 7 = .ok (.dload_n 2, 1) := by decide +kernel
theorem dX3_radius_8 : decode cX3_radius 8 = .ok (.dconst 0, 1) := by decide +kernel
theorem dX3_radius_9 : decode cX3_radius 9 = .ok (.ldc2_w 37, 3) := by decide +kernel
theorem dX3_radius_12 : decode cX3_radius 12 = .ok (.invokestatic 39, 3) := by decide +kernel
theorem dX3_radius_15 : decode cX3_radius 15 = .ok (.ifCond .ne 13, 3) := by decide +kernel
theorem dX3_radius_18 : decode cX3_radius 18 = .ok (.new 49, 3) := by decide +kernel
theorem dX3_radius_21 : decode cX3_radius 21 = .ok (.dup, 1) := by decide +kernel
theorem dX3_radius_22 : decode cX3_radius 22 = .ok (.ldc 71, 2) := by decide +kernel
theorem dX3_radius_24 : decode cX3_radius 24 = .ok (.invokespecial 53, 3) := by decide +kernel
theorem dX3_radius_27 : decode cX3_radius 27 = .ok (.athrow, 1) := by decide +kernel
theorem dX3_radius_28 : decode cX3_radius 28 = .ok (.aload 4, 2) := by decide +kernel
theorem dX3_radius_30 : decode cX3_radius 30 = .ok (.dload_n 2, 1) := by decide +kernel
theorem dX3_radius_31 : decode cX3_radius 31 = .ok (.invokevirtual 73, 3) := by decide +kernel
theorem dX3_radius_34 : decode cX3_radius 34 = .ok (.dstore 5, 2) := by decide +kernel
theorem dX3_radius_36 : decode cX3_radius 36 = .ok (.dload 5, 2) := by decide +kernel
theorem dX3_radius_38 : decode cX3_radius 38 = .ok (.invokestatic 77, 3) := by decide +kernel
theorem dX3_radius_41 : decode cX3_radius 41 = .ok (.ifCond .eq 13, 3) := by decide +kernel
theorem dX3_radius_44 : decode cX3_radius 44 = .ok (.new 66, 3) := by decide +kernel
theorem dX3_radius_47 : decode cX3_radius 47 = .ok (.dup, 1) := by decide +kernel
theorem dX3_radius_48 : decode cX3_radius 48 = .ok (.ldc 80, 2) := by decide +kernel
theorem dX3_radius_50 : decode cX3_radius 50 = .ok (.invokespecial 70, 3) := by decide +kernel
theorem dX3_radius_53 : decode cX3_radius 53 = .ok (.athrow, 1) := by decide +kernel
theorem dX3_radius_54 : decode cX3_radius 54 = .ok (.dload 5, 2) := by decide +kernel
theorem dX3_radius_56 : decode cX3_radius 56 = .ok (.dreturn, 1) := by decide +kernel
theorem dX3_strips_0 : decode cX3_strips 0 = .ok (.aload_n 0, 1) := by decide +kernel
theorem dX3_strips_1 : decode cX3_strips 1 = .ok (.iload_n 1, 1) := by decide +kernel
theorem dX3_strips_2 : decode cX3_strips 2 = .ok (.invokevirtual 31, 3) := by decide +kernel
theorem dX3_strips_5 : decode cX3_strips 5 = .ok (.astore 6, 2) := by decide +kernel
theorem dX3_strips_7 : decode cX3_strips 7 = .ok (.dload_n 2, 1) := by decide +kernel
theorem dX3_strips_8 : decode cX3_strips 8 = .ok (.ldc2_w 35, 3) := by decide +kernel
theorem dX3_strips_11 : decode cX3_strips 11 = .ok (.ldc2_w 43, 3) := by decide +kernel
theorem dX3_strips_14 : decode cX3_strips 14 = .ok (.invokestatic 39, 3) := by decide +kernel
theorem dX3_strips_17 : decode cX3_strips 17 = .ok (.ifCond .eq 17, 3) := by decide +kernel
theorem dX3_strips_20 : decode cX3_strips 20 = .ok (.dload 4, 2) := by decide +kernel
theorem dX3_strips_22 : decode cX3_strips 22 = .ok (.ldc2_w 35, 3) := by decide +kernel
theorem dX3_strips_25 : decode cX3_strips 25 = .ok (.ldc2_w 43, 3) := by decide +kernel
theorem dX3_strips_28 : decode cX3_strips 28 = .ok (.invokestatic 39, 3) := by decide +kernel
theorem dX3_strips_31 : decode cX3_strips 31 = .ok (.ifCond .ne 13, 3) := by decide +kernel
theorem dX3_strips_34 : decode cX3_strips 34 = .ok (.new 49, 3) := by decide +kernel
theorem dX3_strips_37 : decode cX3_strips 37 = .ok (.dup, 1) := by decide +kernel
theorem dX3_strips_38 : decode cX3_strips 38 = .ok (.ldc 82, 2) := by decide +kernel
theorem dX3_strips_40 : decode cX3_strips 40 = .ok (.invokespecial 53, 3) := by decide +kernel
theorem dX3_strips_43 : decode cX3_strips 43 = .ok (.athrow, 1) := by decide +kernel
theorem dX3_strips_44 : decode cX3_strips 44 = .ok (.aload 6, 2) := by decide +kernel
theorem dX3_strips_46 : decode cX3_strips 46 = .ok (.dload_n 2, 1) := by decide +kernel
theorem dX3_strips_47 : decode cX3_strips 47 = .ok (.dload 4, 2) := by decide +kernel
theorem dX3_strips_49 : decode cX3_strips 49 = .ok (.invokevirtual 84, 3) := by decide +kernel
theorem dX3_strips_52 : decode cX3_strips 52 = .ok (.ireturn, 1) := by decide +kernel
theorem dX3_read_0 : decode cX3_read 0 = .ok (.aload_n 0, 1) := by decide +kernel
theorem dX3_read_1 : decode cX3_read 1 = .ok (.iload_n 1, 1) := by decide +kernel
theorem dX3_read_2 : decode cX3_read 2 = .ok (.invokevirtual 31, 3) := by decide +kernel
theorem dX3_read_5 : decode cX3_read 5 = .ok (.astore 6, 2) := by decide +kernel
theorem dX3_read_7 : decode cX3_read 7 = .ok (.dload_n 2, 1) := by decide +kernel
theorem dX3_read_8 : decode cX3_read 8 = .ok (.ldc2_w 35, 3) := by decide +kernel
theorem dX3_read_11 : decode cX3_read 11 = .ok (.ldc2_w 43, 3) := by decide +kernel
theorem dX3_read_14 : decode cX3_read 14 = .ok (.invokestatic 39, 3) := by decide +kernel
theorem dX3_read_17 : decode cX3_read 17 = .ok (.ifCond .eq 15, 3) := by decide +kernel
theorem dX3_read_20 : decode cX3_read 20 = .ok (.dload 4, 2) := by decide +kernel
theorem dX3_read_22 : decode cX3_read 22 = .ok (.dload_n 2, 1) := by decide +kernel
theorem dX3_read_23 : decode cX3_read 23 = .ok (.ldc2_w 87, 3) := by decide +kernel
theorem dX3_read_26 : decode cX3_read 26 = .ok (.invokestatic 39, 3) := by decide +kernel
theorem dX3_read_29 : decode cX3_read 29 = .ok (.ifCond .ne 13, 3) := by decide +kernel
theorem dX3_read_32 : decode cX3_read 32 = .ok (.new 49, 3) := by decide +kernel
theorem dX3_read_35 : decode cX3_read 35 = .ok (.dup, 1) := by decide +kernel
theorem dX3_read_36 : decode cX3_read 36 = .ok (.ldc 89, 2) := by decide +kernel
theorem dX3_read_38 : decode cX3_read 38 = .ok (.invokespecial 53, 3) := by decide +kernel
theorem dX3_read_41 : decode cX3_read 41 = .ok (.athrow, 1) := by decide +kernel
theorem dX3_read_42 : decode cX3_read 42 = .ok (.aload 6, 2) := by decide +kernel
theorem dX3_read_44 : decode cX3_read 44 = .ok (.getfield 91, 3) := by decide +kernel
theorem dX3_read_47 : decode cX3_read 47 = .ok (.dload_n 2, 1) := by decide +kernel
theorem dX3_read_48 : decode cX3_read 48 = .ok (.dload 4, 2) := by decide +kernel
theorem dX3_read_50 : decode cX3_read 50 = .ok (.invokevirtual 60, 3) := by decide +kernel
theorem dX3_read_53 : decode cX3_read 53 = .ok (.istore 7, 2) := by decide +kernel
theorem dX3_read_55 : decode cX3_read 55 = .ok (.iload 7, 2) := by decide +kernel
theorem dX3_read_57 : decode cX3_read 57 = .ok (.iconst (-1), 1) := by decide +kernel
theorem dX3_read_58 : decode cX3_read 58 = .ok (.if_icmp .ne 13, 3) := by decide +kernel
theorem dX3_read_61 : decode cX3_read 61 = .ok (.new 66, 3) := by decide +kernel
theorem dX3_read_64 : decode cX3_read 64 = .ok (.dup, 1) := by decide +kernel
theorem dX3_read_65 : decode cX3_read 65 = .ok (.ldc 94, 2) := by decide +kernel
theorem dX3_read_67 : decode cX3_read 67 = .ok (.invokespecial 70, 3) := by decide +kernel
theorem dX3_read_70 : decode cX3_read 70 = .ok (.athrow, 1) := by decide +kernel
theorem dX3_read_71 : decode cX3_read 71 = .ok (.iload 7, 2) := by decide +kernel
theorem dX3_read_73 : decode cX3_read 73 = .ok (.ireturn, 1) := by decide +kernel
theorem dX3_fit_0 : decode cX3_fit 0 = .ok (.aload_n 0, 1) := by decide +kernel
theorem dX3_fit_1 : decode cX3_fit 1 = .ok (.iload_n 1, 1) := by decide +kernel
theorem dX3_fit_2 : decode cX3_fit 2 = .ok (.invokevirtual 31, 3) := by decide +kernel
theorem dX3_fit_5 : decode cX3_fit 5 = .ok (.astore_n 3, 1) := by decide +kernel
theorem dX3_fit_6 : decode cX3_fit 6 = .ok (.iload_n 2, 1) := by decide +kernel
theorem dX3_fit_7 : decode cX3_fit 7 = .ok (.ifCond .lt 9, 3) := by decide +kernel
theorem dX3_fit_10 : decode cX3_fit 10 = .ok (.iload_n 2, 1) := by decide +kernel
theorem dX3_fit_11 : decode cX3_fit 11 = .ok (.bipush 100, 2) := by decide +kernel
theorem dX3_fit_13 : decode cX3_fit 13 = .ok (.if_icmp .le 13, 3) := by decide +kernel
theorem dX3_fit_16 : decode cX3_fit 16 = .ok (.new 49, 3) := by decide +kernel
theorem dX3_fit_19 : decode cX3_fit 19 = .ok (.dup, 1) := by decide +kernel
theorem dX3_fit_20 : decode cX3_fit 20 = .ok (.ldc 96, 2) := by decide +kernel
theorem dX3_fit_22 : decode cX3_fit 22 = .ok (.invokespecial 53, 3) := by decide +kernel
theorem dX3_fit_25 : decode cX3_fit 25 = .ok (.athrow, 1) := by decide +kernel
theorem dX3_fit_26 : decode cX3_fit 26 = .ok (.iconst 0, 1) := by decide +kernel
theorem dX3_fit_27 : decode cX3_fit 27 = .ok (.istore 4, 2) := by decide +kernel
theorem dX3_fit_29 : decode cX3_fit 29 = .ok (.iconst 0, 1) := by decide +kernel
theorem dX3_fit_30 : decode cX3_fit 30 = .ok (.istore 5, 2) := by decide +kernel
theorem dX3_fit_32 : decode cX3_fit 32 = .ok (.iload 5, 2) := by decide +kernel
theorem dX3_fit_34 : decode cX3_fit 34 = .ok (.iload_n 2, 1) := by decide +kernel
theorem dX3_fit_35 : decode cX3_fit 35 = .ok (.if_icmp .ge 19, 3) := by decide +kernel
theorem dX3_fit_38 : decode cX3_fit 38 = .ok (.aload_n 3, 1) := by decide +kernel
theorem dX3_fit_39 : decode cX3_fit 39 = .ok (.invokevirtual 98, 3) := by decide +kernel
theorem dX3_fit_42 : decode cX3_fit 42 = .ok (.ifCond .eq 6, 3) := by decide +kernel
theorem dX3_fit_45 : decode cX3_fit 45 = .ok (.iinc 4 1, 3) := by decide +kernel
theorem dX3_fit_48 : decode cX3_fit 48 = .ok (.iinc 5 1, 3) := by decide +kernel
theorem dX3_fit_51 : decode cX3_fit 51 = .ok (.goto (-19), 3) := by decide +kernel
theorem dX3_fit_54 : decode cX3_fit 54 = .ok (.iload 4, 2) := by decide +kernel
theorem dX3_fit_56 : decode cX3_fit 56 = .ok (.ireturn, 1) := by decide +kernel
theorem dX3_back_0 : decode cX3_back 0 = .ok (.aload_n 0, 1) := by decide +kernel
theorem dX3_back_1 : decode cX3_back 1 = .ok (.iload_n 1, 1) := by decide +kernel
theorem dX3_back_2 : decode cX3_back 2 = .ok (.invokevirtual 31, 3) := by decide +kernel
theorem dX3_back_5 : decode cX3_back 5 = .ok (.astore_n 3, 1) := by decide +kernel
theorem dX3_back_6 : decode cX3_back 6 = .ok (.iload_n 2, 1) := by decide +kernel
theorem dX3_back_7 : decode cX3_back 7 = .ok (.tableswitch 44 0 2 #[25, 30, 35], 25) := by decide +kernel
theorem dX3_back_32 : decode cX3_back 32 = .ok (.aload_n 3, 1) := by decide +kernel
theorem dX3_back_33 : decode cX3_back 33 = .ok (.getfield 102, 3) := by decide +kernel
theorem dX3_back_36 : decode cX3_back 36 = .ok (.dreturn, 1) := by decide +kernel
theorem dX3_back_37 : decode cX3_back 37 = .ok (.aload_n 3, 1) := by decide +kernel
theorem dX3_back_38 : decode cX3_back 38 = .ok (.getfield 105, 3) := by decide +kernel
theorem dX3_back_41 : decode cX3_back 41 = .ok (.dreturn, 1) := by decide +kernel
theorem dX3_back_42 : decode cX3_back 42 = .ok (.aload_n 3, 1) := by decide +kernel
theorem dX3_back_43 : decode cX3_back 43 = .ok (.aload_n 3, 1) := by decide +kernel
theorem dX3_back_44 : decode cX3_back 44 = .ok (.getfield 102, 3) := by decide +kernel
theorem dX3_back_47 : decode cX3_back 47 = .ok (.invokevirtual 108, 3) := by decide +kernel
theorem dX3_back_50 : decode cX3_back 50 = .ok (.dreturn, 1) := by decide +kernel
theorem dX3_back_51 : decode cX3_back 51 = .ok (.new 111, 3) := by decide +kernel
theorem dX3_back_54 : decode cX3_back 54 = .ok (.dup, 1) := by decide +kernel
theorem dX3_back_55 : decode cX3_back 55 = .ok (.ldc 113, 2) := by decide +kernel
theorem dX3_back_57 : decode cX3_back 57 = .ok (.invokespecial 115, 3) := by decide +kernel
theorem dX3_back_60 : decode cX3_back 60 = .ok (.athrow, 1) := by decide +kernel
theorem dX3_form_0 : decode cX3_form 0 = .ok (.aload_n 0, 1) := by decide +kernel
theorem dX3_form_1 : decode cX3_form 1 = .ok (.iload_n 1, 1) := by decide +kernel
theorem dX3_form_2 : decode cX3_form 2 = .ok (.invokevirtual 31, 3) := by decide +kernel
theorem dX3_form_5 : decode cX3_form 5 = .ok (.astore 4, 2) := by decide +kernel
theorem dX3_form_7 : decode cX3_form 7 = .ok (.dload_n 2, 1) := by decide +kernel
theorem dX3_form_8 : decode cX3_form 8 = .ok (.ldc2_w 35, 3) := by decide +kernel
theorem dX3_form_11 : decode cX3_form 11 = .ok (.ldc2_w 87, 3) := by decide +kernel
theorem dX3_form_14 : decode cX3_form 14 = .ok (.invokestatic 39, 3) := by decide +kernel
theorem dX3_form_17 : decode cX3_form 17 = .ok (.ifCond .ne 13, 3) := by decide +kernel
theorem dX3_form_20 : decode cX3_form 20 = .ok (.new 49, 3) := by decide +kernel
theorem dX3_form_23 : decode cX3_form 23 = .ok (.dup, 1) := by decide +kernel
theorem dX3_form_24 : decode cX3_form 24 = .ok (.ldc 116, 2) := by decide +kernel
theorem dX3_form_26 : decode cX3_form 26 = .ok (.invokespecial 53, 3) := by decide +kernel
theorem dX3_form_29 : decode cX3_form 29 = .ok (.athrow, 1) := by decide +kernel
theorem dX3_form_30 : decode cX3_form 30 = .ok (.aload 4, 2) := by decide +kernel
theorem dX3_form_32 : decode cX3_form 32 = .ok (.dload_n 2, 1) := by decide +kernel
theorem dX3_form_33 : decode cX3_form 33 = .ok (.invokevirtual 118, 3) := by decide +kernel
theorem dX3_form_36 : decode cX3_form 36 = .ok (.dreturn, 1) := by decide +kernel
theorem dX3_minutes_0 : decode cX3_minutes 0 = .ok (.dload_n 1, 1) := by decide +kernel
theorem dX3_minutes_1 : decode cX3_minutes 1 = .ok (.dconst 0, 1) := by decide +kernel
theorem dX3_minutes_2 : decode cX3_minutes 2 = .ok (.ldc2_w 37, 3) := by decide +kernel
theorem dX3_minutes_5 : decode cX3_minutes 5 = .ok (.invokestatic 39, 3) := by decide +kernel
theorem dX3_minutes_8 : decode cX3_minutes 8 = .ok (.ifCond .ne 13, 3) := by decide +kernel
theorem dX3_minutes_11 : decode cX3_minutes 11 = .ok (.new 49, 3) := by decide +kernel
theorem dX3_minutes_14 : decode cX3_minutes 14 = .ok (.dup, 1) := by decide +kernel
theorem dX3_minutes_15 : decode cX3_minutes 15 = .ok (.ldc 71, 2) := by decide +kernel
theorem dX3_minutes_17 : decode cX3_minutes 17 = .ok (.invokespecial 53, 3) := by decide +kernel
theorem dX3_minutes_20 : decode cX3_minutes 20 = .ok (.athrow, 1) := by decide +kernel
theorem dX3_minutes_21 : decode cX3_minutes 21 = .ok (.dload_n 1, 1) := by decide +kernel
theorem dX3_minutes_22 : decode cX3_minutes 22 = .ok (.ldc2_w 121, 3) := by decide +kernel
theorem dX3_minutes_25 : decode cX3_minutes 25 = .ok (.dmul, 1) := by decide +kernel
theorem dX3_minutes_26 : decode cX3_minutes 26 = .ok (.dstore_n 3, 1) := by decide +kernel
theorem dX3_minutes_27 : decode cX3_minutes 27 = .ok (.dload_n 1, 1) := by decide +kernel
theorem dX3_minutes_28 : decode cX3_minutes 28 = .ok (.ldc2_w 123, 3) := by decide +kernel
theorem dX3_minutes_31 : decode cX3_minutes 31 = .ok (.dcmp .l, 1) := by decide +kernel
theorem dX3_minutes_32 : decode cX3_minutes 32 = .ok (.ifCond .le 11, 3) := by decide +kernel
theorem dX3_minutes_35 : decode cX3_minutes 35 = .ok (.dload_n 3, 1) := by decide +kernel
theorem dX3_minutes_36 : decode cX3_minutes 36 = .ok (.ldc2_w 125, 3) := by decide +kernel
theorem dX3_minutes_39 : decode cX3_minutes 39 = .ok (.dadd, 1) := by decide +kernel
theorem dX3_minutes_40 : decode cX3_minutes 40 = .ok (.goto 4, 3) := by decide +kernel
theorem dX3_minutes_43 : decode cX3_minutes 43 = .ok (.dload_n 3, 1) := by decide +kernel
theorem dX3_minutes_44 : decode cX3_minutes 44 = .ok (.dreturn, 1) := by decide +kernel
theorem dX3_piece_0 : decode cX3_piece 0 = .ok (.dload_n 1, 1) := by decide +kernel
theorem dX3_piece_1 : decode cX3_piece 1 = .ok (.dconst 0, 1) := by decide +kernel
theorem dX3_piece_2 : decode cX3_piece 2 = .ok (.ldc2_w 43, 3) := by decide +kernel
theorem dX3_piece_5 : decode cX3_piece 5 = .ok (.invokestatic 39, 3) := by decide +kernel
theorem dX3_piece_8 : decode cX3_piece 8 = .ok (.ifCond .eq 20, 3) := by decide +kernel
theorem dX3_piece_11 : decode cX3_piece 11 = .ok (.dload_n 3, 1) := by decide +kernel
theorem dX3_piece_12 : decode cX3_piece 12 = .ok (.dconst 0, 1) := by decide +kernel
theorem dX3_piece_13 : decode cX3_piece 13 = .ok (.dcmp .l, 1) := by decide +kernel
theorem dX3_piece_14 : decode cX3_piece 14 = .ok (.ifCond .eq 24, 3) := by decide +kernel
theorem dX3_piece_17 : decode cX3_piece 17 = .ok (.dload_n 3, 1) := by decide +kernel
theorem dX3_piece_18 : decode cX3_piece 18 = .ok (.dconst 1, 1) := by decide +kernel
theorem dX3_piece_19 : decode cX3_piece 19 = .ok (.ldc2_w 43, 3) := by decide +kernel
theorem dX3_piece_22 : decode cX3_piece 22 = .ok (.invokestatic 39, 3) := by decide +kernel
theorem dX3_piece_25 : decode cX3_piece 25 = .ok (.ifCond .ne 13, 3) := by decide +kernel
theorem dX3_piece_28 : decode cX3_piece 28 = .ok (.new 49, 3) := by decide +kernel
theorem dX3_piece_31 : decode cX3_piece 31 = .ok (.dup, 1) := by decide +kernel
theorem dX3_piece_32 : decode cX3_piece 32 = .ok (.ldc 127, 2) := by decide +kernel
theorem dX3_piece_34 : decode cX3_piece 34 = .ok (.invokespecial 53, 3) := by decide +kernel
theorem dX3_piece_37 : decode cX3_piece 37 = .ok (.athrow, 1) := by decide +kernel
theorem dX3_piece_38 : decode cX3_piece 38 = .ok (.aload_n 0, 1) := by decide +kernel
theorem dX3_piece_39 : decode cX3_piece 39 = .ok (.getfield 18, 3) := by decide +kernel
theorem dX3_piece_42 : decode cX3_piece 42 = .ok (.getfield 129, 3) := by decide +kernel
theorem dX3_piece_45 : decode cX3_piece 45 = .ok (.dload_n 1, 1) := by decide +kernel
theorem dX3_piece_46 : decode cX3_piece 46 = .ok (.dload_n 3, 1) := by decide +kernel
theorem dX3_piece_47 : decode cX3_piece 47 = .ok (.invokevirtual 60, 3) := by decide +kernel
theorem dX3_piece_50 : decode cX3_piece 50 = .ok (.istore 5, 2) := by decide +kernel
theorem dX3_piece_52 : decode cX3_piece 52 = .ok (.iload 5, 2) := by decide +kernel
theorem dX3_piece_54 : decode cX3_piece 54 = .ok (.iconst (-1), 1) := by decide +kernel
theorem dX3_piece_55 : decode cX3_piece 55 = .ok (.if_icmp .ne 13, 3) := by decide +kernel
theorem dX3_piece_58 : decode cX3_piece 58 = .ok (.new 66, 3) := by decide +kernel
theorem dX3_piece_61 : decode cX3_piece 61 = .ok (.dup, 1) := by decide +kernel
theorem dX3_piece_62 : decode cX3_piece 62 = .ok (.ldc 132, 2) := by decide +kernel
theorem dX3_piece_64 : decode cX3_piece 64 = .ok (.invokespecial 70, 3) := by decide +kernel
theorem dX3_piece_67 : decode cX3_piece 67 = .ok (.athrow, 1) := by decide +kernel
theorem dX3_piece_68 : decode cX3_piece 68 = .ok (.iload 5, 2) := by decide +kernel
theorem dX3_piece_70 : decode cX3_piece 70 = .ok (.ireturn, 1) := by decide +kernel
theorem dX3_clear_0 : decode cX3_clear 0 = .ok (.aload_n 0, 1) := by decide +kernel
theorem dX3_clear_1 : decode cX3_clear 1 = .ok (.getfield 18, 3) := by decide +kernel
theorem dX3_clear_4 : decode cX3_clear 4 = .ok (.getfield 129, 3) := by decide +kernel
theorem dX3_clear_7 : decode cX3_clear 7 = .ok (.invokevirtual 134, 3) := by decide +kernel
theorem dX3_clear_10 : decode cX3_clear 10 = .ok (.return_, 1) := by decide +kernel
theorem dX3_length_0 : decode cX3_length 0 = .ok (.dload_n 2, 1) := by decide +kernel
theorem dX3_length_1 : decode cX3_length 1 = .ok (.dconst 0, 1) := by decide +kernel
theorem dX3_length_2 : decode cX3_length 2 = .ok (.ldc2_w 37, 3) := by decide +kernel
theorem dX3_length_5 : decode cX3_length 5 = .ok (.invokestatic 39, 3) := by decide +kernel
theorem dX3_length_8 : decode cX3_length 8 = .ok (.ifCond .eq 14, 3) := by decide +kernel
theorem dX3_length_11 : decode cX3_length 11 = .ok (.aload_n 0, 1) := by decide +kernel
theorem dX3_length_12 : decode cX3_length 12 = .ok (.getfield 18, 3) := by decide +kernel
theorem dX3_length_15 : decode cX3_length 15 = .ok (.dload_n 2, 1) := by decide +kernel
theorem dX3_length_16 : decode cX3_length 16 = .ok (.invokevirtual 137, 3) := by decide +kernel
theorem dX3_length_19 : decode cX3_length 19 = .ok (.ifCond .ne 13, 3) := by decide +kernel
theorem dX3_length_22 : decode cX3_length 22 = .ok (.new 49, 3) := by decide +kernel
theorem dX3_length_25 : decode cX3_length 25 = .ok (.dup, 1) := by decide +kernel
theorem dX3_length_26 : decode cX3_length 26 = .ok (.ldc 140, 2) := by decide +kernel
theorem dX3_length_28 : decode cX3_length 28 = .ok (.invokespecial 53, 3) := by decide +kernel
theorem dX3_length_31 : decode cX3_length 31 = .ok (.athrow, 1) := by decide +kernel
theorem dX3_length_32 : decode cX3_length 32 = .ok (.aload_n 0, 1) := by decide +kernel
theorem dX3_length_33 : decode cX3_length 33 = .ok (.getfield 18, 3) := by decide +kernel
theorem dX3_length_36 : decode cX3_length 36 = .ok (.iload_n 1, 1) := by decide +kernel
theorem dX3_length_37 : decode cX3_length 37 = .ok (.dload_n 2, 1) := by decide +kernel
theorem dX3_length_38 : decode cX3_length 38 = .ok (.invokevirtual 142, 3) := by decide +kernel
theorem dX3_length_41 : decode cX3_length 41 = .ok (.dreturn, 1) := by decide +kernel
theorem dX3_kerfs_0 : decode cX3_kerfs 0 = .ok (.dload_n 1, 1) := by decide +kernel
theorem dX3_kerfs_1 : decode cX3_kerfs 1 = .ok (.dconst 1, 1) := by decide +kernel
theorem dX3_kerfs_2 : decode cX3_kerfs 2 = .ok (.ldc2_w 146, 3) := by decide +kernel
theorem dX3_kerfs_5 : decode cX3_kerfs 5 = .ok (.invokestatic 39, 3) := by decide +kernel
theorem dX3_kerfs_8 : decode cX3_kerfs 8 = .ok (.ifCond .eq 47, 3) := by decide +kernel
theorem dX3_kerfs_11 : decode cX3_kerfs 11 = .ok (.dload_n 3, 1) := by decide +kernel
theorem dX3_kerfs_12 : decode cX3_kerfs 12 = .ok (.dconst 1, 1) := by decide +kernel
theorem dX3_kerfs_13 : decode cX3_kerfs 13 = .ok (.ldc2_w 37, 3) := by decide +kernel
theorem dX3_kerfs_16 : decode cX3_kerfs 16 = .ok (.invokestatic 39, 3) := by decide +kernel
theorem dX3_kerfs_19 : decode cX3_kerfs 19 = .ok (.ifCond .eq 36, 3) := by decide +kernel
theorem dX3_kerfs_22 : decode cX3_kerfs 22 = .ok (.dload 5, 2) := by decide +kernel
theorem dX3_kerfs_24 : decode cX3_kerfs 24 = .ok (.ldc2_w 35, 3) := by decide +kernel
theorem dX3_kerfs_27 : decode cX3_kerfs 27 = .ok (.dload_n 3, 1) := by decide +kernel
theorem dX3_kerfs_28 : decode cX3_kerfs 28 = .ok (.invokestatic 39, 3) := by decide +kernel
theorem dX3_kerfs_31 : decode cX3_kerfs 31 = .ok (.ifCond .eq 24, 3) := by decide +kernel
theorem dX3_kerfs_34 : decode cX3_kerfs 34 = .ok (.dload 5, 2) := by decide +kernel
theorem dX3_kerfs_36 : decode cX3_kerfs 36 = .ok (.dload_n 3, 1) := by decide +kernel
theorem dX3_kerfs_37 : decode cX3_kerfs 37 = .ok (.dcmp .l, 1) := by decide +kernel
theorem dX3_kerfs_38 : decode cX3_kerfs 38 = .ok (.ifCond .eq 17, 3) := by decide +kernel
theorem dX3_kerfs_41 : decode cX3_kerfs 41 = .ok (.dload 7, 2) := by decide +kernel
theorem dX3_kerfs_43 : decode cX3_kerfs 43 = .ok (.ldc2_w 35, 3) := by decide +kernel
theorem dX3_kerfs_46 : decode cX3_kerfs 46 = .ok (.ldc2_w 148, 3) := by decide +kernel
theorem dX3_kerfs_49 : decode cX3_kerfs 49 = .ok (.invokestatic 39, 3) := by decide +kernel
theorem dX3_kerfs_52 : decode cX3_kerfs 52 = .ok (.ifCond .ne 13, 3) := by decide +kernel
theorem dX3_kerfs_55 : decode cX3_kerfs 55 = .ok (.new 49, 3) := by decide +kernel
theorem dX3_kerfs_58 : decode cX3_kerfs 58 = .ok (.dup, 1) := by decide +kernel
theorem dX3_kerfs_59 : decode cX3_kerfs 59 = .ok (.ldc 150, 2) := by decide +kernel
theorem dX3_kerfs_61 : decode cX3_kerfs 61 = .ok (.invokespecial 53, 3) := by decide +kernel
theorem dX3_kerfs_64 : decode cX3_kerfs 64 = .ok (.athrow, 1) := by decide +kernel
theorem dX3_kerfs_65 : decode cX3_kerfs 65 = .ok (.dload 7, 2) := by decide +kernel
theorem dX3_kerfs_67 : decode cX3_kerfs 67 = .ok (.dload_n 3, 1) := by decide +kernel
theorem dX3_kerfs_68 : decode cX3_kerfs 68 = .ok (.dload 5, 2) := by decide +kernel
theorem dX3_kerfs_70 : decode cX3_kerfs 70 = .ok (.dsub, 1) := by decide +kernel
theorem dX3_kerfs_71 : decode cX3_kerfs 71 = .ok (.ddiv, 1) := by decide +kernel
theorem dX3_kerfs_72 : decode cX3_kerfs 72 = .ok (.ldc2_w 152, 3) := by decide +kernel
theorem dX3_kerfs_75 : decode cX3_kerfs 75 = .ok (.dmul, 1) := by decide +kernel
theorem dX3_kerfs_76 : decode cX3_kerfs 76 = .ok (.dstore 9, 2) := by decide +kernel
theorem dX3_kerfs_78 : decode cX3_kerfs 78 = .ok (.aload_n 0, 1) := by decide +kernel
theorem dX3_kerfs_79 : decode cX3_kerfs 79 = .ok (.dload_n 1, 1) := by decide +kernel
theorem dX3_kerfs_80 : decode cX3_kerfs 80 = .ok (.dload 9, 2) := by decide +kernel
theorem dX3_kerfs_82 : decode cX3_kerfs 82 = .ok (.invokestatic 154, 3) := by decide +kernel
theorem dX3_kerfs_85 : decode cX3_kerfs 85 = .ok (.putfield 22, 3) := by decide +kernel
theorem dX3_kerfs_88 : decode cX3_kerfs 88 = .ok (.aload_n 0, 1) := by decide +kernel
theorem dX3_kerfs_89 : decode cX3_kerfs 89 = .ok (.aload_n 0, 1) := by decide +kernel
theorem dX3_kerfs_90 : decode cX3_kerfs 90 = .ok (.getfield 22, 3) := by decide +kernel
theorem dX3_kerfs_93 : decode cX3_kerfs 93 = .ok (.i2d, 1) := by decide +kernel
theorem dX3_kerfs_94 : decode cX3_kerfs 94 = .ok (.dload 9, 2) := by decide +kernel
theorem dX3_kerfs_96 : decode cX3_kerfs 96 = .ok (.dmul, 1) := by decide +kernel
theorem dX3_kerfs_97 : decode cX3_kerfs 97 = .ok (.dload_n 1, 1) := by decide +kernel
theorem dX3_kerfs_98 : decode cX3_kerfs 98 = .ok (.dsub, 1) := by decide +kernel
theorem dX3_kerfs_99 : decode cX3_kerfs 99 = .ok (.putfield 26, 3) := by decide +kernel
theorem dX3_kerfs_102 : decode cX3_kerfs 102 = .ok (.aload_n 0, 1) := by decide +kernel
theorem dX3_kerfs_103 : decode cX3_kerfs 103 = .ok (.getfield 22, 3) := by decide +kernel
theorem dX3_kerfs_106 : decode cX3_kerfs 106 = .ok (.ireturn, 1) := by decide +kernel
theorem dX3_kerfAt_0 : decode cX3_kerfAt 0 = .ok (.aload_n 0, 1) := by decide +kernel
theorem dX3_kerfAt_1 : decode cX3_kerfAt 1 = .ok (.getfield 22, 3) := by decide +kernel
theorem dX3_kerfAt_4 : decode cX3_kerfAt 4 = .ok (.ifCond .gt 13, 3) := by decide +kernel
theorem dX3_kerfAt_7 : decode cX3_kerfAt 7 = .ok (.new 66, 3) := by decide +kernel
theorem dX3_kerfAt_10 : decode cX3_kerfAt 10 = .ok (.dup, 1) := by decide +kernel
theorem dX3_kerfAt_11 : decode cX3_kerfAt 11 = .ok (.ldc 157, 2) := by decide +kernel
theorem dX3_kerfAt_13 : decode cX3_kerfAt 13 = .ok (.invokespecial 70, 3) := by decide +kernel
theorem dX3_kerfAt_16 : decode cX3_kerfAt 16 = .ok (.athrow, 1) := by decide +kernel
theorem dX3_kerfAt_17 : decode cX3_kerfAt 17 = .ok (.iload_n 1, 1) := by decide +kernel
theorem dX3_kerfAt_18 : decode cX3_kerfAt 18 = .ok (.ifCond .lt 11, 3) := by decide +kernel
theorem dX3_kerfAt_21 : decode cX3_kerfAt 21 = .ok (.iload_n 1, 1) := by decide +kernel
theorem dX3_kerfAt_22 : decode cX3_kerfAt 22 = .ok (.aload_n 0, 1) := by decide +kernel
theorem dX3_kerfAt_23 : decode cX3_kerfAt 23 = .ok (.getfield 22, 3) := by decide +kernel
theorem dX3_kerfAt_26 : decode cX3_kerfAt 26 = .ok (.if_icmp .lt 13, 3) := by decide +kernel
theorem dX3_kerfAt_29 : decode cX3_kerfAt 29 = .ok (.new 111, 3) := by decide +kernel
theorem dX3_kerfAt_32 : decode cX3_kerfAt 32 = .ok (.dup, 1) := by decide +kernel
theorem dX3_kerfAt_33 : decode cX3_kerfAt 33 = .ok (.ldc 159, 2) := by decide +kernel
theorem dX3_kerfAt_35 : decode cX3_kerfAt 35 = .ok (.invokespecial 115, 3) := by decide +kernel
theorem dX3_kerfAt_38 : decode cX3_kerfAt 38 = .ok (.athrow, 1) := by decide +kernel
theorem dX3_kerfAt_39 : decode cX3_kerfAt 39 = .ok (.dload_n 2, 1) := by decide +kernel
theorem dX3_kerfAt_40 : decode cX3_kerfAt 40 = .ok (.dconst 0, 1) := by decide +kernel
theorem dX3_kerfAt_41 : decode cX3_kerfAt 41 = .ok (.ldc2_w 43, 3) := by decide +kernel
theorem dX3_kerfAt_44 : decode cX3_kerfAt 44 = .ok (.invokestatic 39, 3) := by decide +kernel
theorem dX3_kerfAt_47 : decode cX3_kerfAt 47 = .ok (.ifCond .ne 13, 3) := by decide +kernel
theorem dX3_kerfAt_50 : decode cX3_kerfAt 50 = .ok (.new 49, 3) := by decide +kernel
theorem dX3_kerfAt_53 : decode cX3_kerfAt 53 = .ok (.dup, 1) := by decide +kernel
theorem dX3_kerfAt_54 : decode cX3_kerfAt 54 = .ok (.ldc 161, 2) := by decide +kernel
theorem dX3_kerfAt_56 : decode cX3_kerfAt 56 = .ok (.invokespecial 53, 3) := by decide +kernel
theorem dX3_kerfAt_59 : decode cX3_kerfAt 59 = .ok (.athrow, 1) := by decide +kernel
theorem dX3_kerfAt_60 : decode cX3_kerfAt 60 = .ok (.dload_n 2, 1) := by decide +kernel
theorem dX3_kerfAt_61 : decode cX3_kerfAt 61 = .ok (.iconst 2, 1) := by decide +kernel
theorem dX3_kerfAt_62 : decode cX3_kerfAt 62 = .ok (.iload_n 1, 1) := by decide +kernel
theorem dX3_kerfAt_63 : decode cX3_kerfAt 63 = .ok (.imul, 1) := by decide +kernel
theorem dX3_kerfAt_64 : decode cX3_kerfAt 64 = .ok (.iconst 1, 1) := by decide +kernel
theorem dX3_kerfAt_65 : decode cX3_kerfAt 65 = .ok (.iadd, 1) := by decide +kernel
theorem dX3_kerfAt_66 : decode cX3_kerfAt 66 = .ok (.i2d, 1) := by decide +kernel
theorem dX3_kerfAt_67 : decode cX3_kerfAt 67 = .ok (.dmul, 1) := by decide +kernel
theorem dX3_kerfAt_68 : decode cX3_kerfAt 68 = .ok (.iconst 2, 1) := by decide +kernel
theorem dX3_kerfAt_69 : decode cX3_kerfAt 69 = .ok (.aload_n 0, 1) := by decide +kernel
theorem dX3_kerfAt_70 : decode cX3_kerfAt 70 = .ok (.getfield 22, 3) := by decide +kernel
theorem dX3_kerfAt_73 : decode cX3_kerfAt 73 = .ok (.imul, 1) := by decide +kernel
theorem dX3_kerfAt_74 : decode cX3_kerfAt 74 = .ok (.i2d, 1) := by decide +kernel
theorem dX3_kerfAt_75 : decode cX3_kerfAt 75 = .ok (.ddiv, 1) := by decide +kernel
theorem dX3_kerfAt_76 : decode cX3_kerfAt 76 = .ok (.dreturn, 1) := by decide +kernel
theorem dX3_rest_0 : decode cX3_rest 0 = .ok (.aload_n 0, 1) := by decide +kernel
theorem dX3_rest_1 : decode cX3_rest 1 = .ok (.getfield 22, 3) := by decide +kernel
theorem dX3_rest_4 : decode cX3_rest 4 = .ok (.ifCond .gt 13, 3) := by decide +kernel
theorem dX3_rest_7 : decode cX3_rest 7 = .ok (.new 66, 3) := by decide +kernel
theorem dX3_rest_10 : decode cX3_rest 10 = .ok (.dup, 1) := by decide +kernel
theorem dX3_rest_11 : decode cX3_rest 11 = .ok (.ldc 157, 2) := by decide +kernel
theorem dX3_rest_13 : decode cX3_rest 13 = .ok (.invokespecial 70, 3) := by decide +kernel
theorem dX3_rest_16 : decode cX3_rest 16 = .ok (.athrow, 1) := by decide +kernel
theorem dX3_rest_17 : decode cX3_rest 17 = .ok (.aload_n 0, 1) := by decide +kernel
theorem dX3_rest_18 : decode cX3_rest 18 = .ok (.getfield 26, 3) := by decide +kernel
theorem dX3_rest_21 : decode cX3_rest 21 = .ok (.dreturn, 1) := by decide +kernel
theorem dX3_broken_0 : decode cX3_broken 0 = .ok (.iload_n 3, 1) := by decide +kernel
theorem dX3_broken_1 : decode cX3_broken 1 = .ok (.ifCond .lt 8, 3) := by decide +kernel
theorem dX3_broken_4 : decode cX3_broken 4 = .ok (.iload_n 3, 1) := by decide +kernel
theorem dX3_broken_5 : decode cX3_broken 5 = .ok (.iconst 3, 1) := by decide +kernel
theorem dX3_broken_6 : decode cX3_broken 6 = .ok (.if_icmp .le 13, 3) := by decide +kernel
theorem dX3_broken_9 : decode cX3_broken 9 = .ok (.new 111, 3) := by decide +kernel
theorem dX3_broken_12 : decode cX3_broken 12 = .ok (.dup, 1) := by decide +kernel
theorem dX3_broken_13 : decode cX3_broken 13 = .ok (.ldc 163, 2) := by decide +kernel
theorem dX3_broken_15 : decode cX3_broken 15 = .ok (.invokespecial 115, 3) := by decide +kernel
theorem dX3_broken_18 : decode cX3_broken 18 = .ok (.athrow, 1) := by decide +kernel
theorem dX3_broken_19 : decode cX3_broken 19 = .ok (.iload_n 1, 1) := by decide +kernel
theorem dX3_broken_20 : decode cX3_broken 20 = .ok (.iconst 1, 1) := by decide +kernel
theorem dX3_broken_21 : decode cX3_broken 21 = .ok (.if_icmp .lt 18, 3) := by decide +kernel
theorem dX3_broken_24 : decode cX3_broken 24 = .ok (.iload_n 1, 1) := by decide +kernel
theorem dX3_broken_25 : decode cX3_broken 25 = .ok (.ldc 165, 2) := by decide +kernel
theorem dX3_broken_27 : decode cX3_broken 27 = .ok (.if_icmp .gt 12, 3) := by decide +kernel
theorem dX3_broken_30 : decode cX3_broken 30 = .ok (.iload_n 2, 1) := by decide +kernel
theorem dX3_broken_31 : decode cX3_broken 31 = .ok (.ifCond .lt 8, 3) := by decide +kernel
theorem dX3_broken_34 : decode cX3_broken 34 = .ok (.iload_n 2, 1) := by decide +kernel
theorem dX3_broken_35 : decode cX3_broken 35 = .ok (.iload_n 1, 1) := by decide +kernel
theorem dX3_broken_36 : decode cX3_broken 36 = .ok (.if_icmp .le 13, 3) := by decide +kernel
theorem dX3_broken_39 : decode cX3_broken 39 = .ok (.new 49, 3) := by decide +kernel
theorem dX3_broken_42 : decode cX3_broken 42 = .ok (.dup, 1) := by decide +kernel
theorem dX3_broken_43 : decode cX3_broken 43 = .ok (.ldc 166, 2) := by decide +kernel
theorem dX3_broken_45 : decode cX3_broken 45 = .ok (.invokespecial 53, 3) := by decide +kernel
theorem dX3_broken_48 : decode cX3_broken 48 = .ok (.athrow, 1) := by decide +kernel
theorem dX3_broken_49 : decode cX3_broken 49 = .ok (.iload_n 3, 1) := by decide +kernel
theorem dX3_broken_50 : decode cX3_broken 50 = .ok (.iconst 2, 1) := by decide +kernel
theorem dX3_broken_51 : decode cX3_broken 51 = .ok (.if_icmp .ge 7, 3) := by decide +kernel
theorem dX3_broken_54 : decode cX3_broken 54 = .ok (.iload_n 2, 1) := by decide +kernel
theorem dX3_broken_55 : decode cX3_broken 55 = .ok (.goto 6, 3) := by decide +kernel
theorem dX3_broken_58 : decode cX3_broken 58 = .ok (.iload_n 2, 1) := by decide +kernel
theorem dX3_broken_59 : decode cX3_broken 59 = .ok (.iconst 1, 1) := by decide +kernel
theorem dX3_broken_60 : decode cX3_broken 60 = .ok (.iadd, 1) := by decide +kernel
theorem dX3_broken_61 : decode cX3_broken 61 = .ok (.istore 4, 2) := by decide +kernel
theorem dX3_broken_63 : decode cX3_broken 63 = .ok (.iload_n 1, 1) := by decide +kernel
theorem dX3_broken_64 : decode cX3_broken 64 = .ok (.iconst 1, 1) := by decide +kernel
theorem dX3_broken_65 : decode cX3_broken 65 = .ok (.iadd, 1) := by decide +kernel
theorem dX3_broken_66 : decode cX3_broken 66 = .ok (.istore 5, 2) := by decide +kernel
theorem dX3_broken_68 : decode cX3_broken 68 = .ok (.iload_n 3, 1) := by decide +kernel
theorem dX3_broken_69 : decode cX3_broken 69 = .ok (.ifCond .eq 8, 3) := by decide +kernel
theorem dX3_broken_72 : decode cX3_broken 72 = .ok (.iload_n 3, 1) := by decide +kernel
theorem dX3_broken_73 : decode cX3_broken 73 = .ok (.iconst 2, 1) := by decide +kernel
theorem dX3_broken_74 : decode cX3_broken 74 = .ok (.if_icmp .ne 8, 3) := by decide +kernel
theorem dX3_broken_77 : decode cX3_broken 77 = .ok (.iload 4, 2) := by decide +kernel
theorem dX3_broken_79 : decode cX3_broken 79 = .ok (.goto 5, 3) := by decide +kernel
theorem dX3_broken_82 : decode cX3_broken 82 = .ok (.iload 5, 2) := by decide +kernel
theorem dX3_broken_84 : decode cX3_broken 84 = .ok (.istore 6, 2) := by decide +kernel
theorem dX3_broken_86 : decode cX3_broken 86 = .ok (.iload 5, 2) := by decide +kernel
theorem dX3_broken_88 : decode cX3_broken 88 = .ok (.iload 4, 2) := by decide +kernel
theorem dX3_broken_90 : decode cX3_broken 90 = .ok (.invokestatic 168, 3) := by decide +kernel
theorem dX3_broken_93 : decode cX3_broken 93 = .ok (.istore 7, 2) := by decide +kernel
theorem dX3_broken_95 : decode cX3_broken 95 = .ok (.iload 7, 2) := by decide +kernel
theorem dX3_broken_97 : decode cX3_broken 97 = .ok (.ifCond .le 12, 3) := by decide +kernel
theorem dX3_broken_100 : decode cX3_broken 100 = .ok (.iload 6, 2) := by decide +kernel
theorem dX3_broken_102 : decode cX3_broken 102 = .ok (.iload 7, 2) := by decide +kernel
theorem dX3_broken_104 : decode cX3_broken 104 = .ok (.idiv, 1) := by decide +kernel
theorem dX3_broken_105 : decode cX3_broken 105 = .ok (.i2l, 1) := by decide +kernel
theorem dX3_broken_106 : decode cX3_broken 106 = .ok (.goto 6, 3) := by decide +kernel
theorem dX3_broken_109 : decode cX3_broken 109 = .ok (.iload 6, 2) := by decide +kernel
theorem dX3_broken_111 : decode cX3_broken 111 = .ok (.i2l, 1) := by decide +kernel
theorem dX3_broken_112 : decode cX3_broken 112 = .ok (.lreturn, 1) := by decide +kernel
theorem dX3_relaxed_0 : decode cX3_relaxed 0 = .ok (.aload_n 0, 1) := by decide +kernel
theorem dX3_relaxed_1 : decode cX3_relaxed 1 = .ok (.iload_n 1, 1) := by decide +kernel
theorem dX3_relaxed_2 : decode cX3_relaxed 2 = .ok (.invokevirtual 31, 3) := by decide +kernel
theorem dX3_relaxed_5 : decode cX3_relaxed 5 = .ok (.astore_n 3, 1) := by decide +kernel
theorem dX3_relaxed_6 : decode cX3_relaxed 6 = .ok (.iload_n 2, 1) := by decide +kernel
theorem dX3_relaxed_7 : decode cX3_relaxed 7 = .ok (.ifCond .lt 10, 3) := by decide +kernel
theorem dX3_relaxed_10 : decode cX3_relaxed 10 = .ok (.iload_n 2, 1) := by decide +kernel
theorem dX3_relaxed_11 : decode cX3_relaxed 11 = .ok (.sipush 10000, 3) := by decide +kernel
theorem dX3_relaxed_14 : decode cX3_relaxed 14 = .ok (.if_icmp .le 13, 3) := by decide +kernel
theorem dX3_relaxed_17 : decode cX3_relaxed 17 = .ok (.new 49, 3) := by decide +kernel
theorem dX3_relaxed_20 : decode cX3_relaxed 20 = .ok (.dup, 1) := by decide +kernel
theorem dX3_relaxed_21 : decode cX3_relaxed 21 = .ok (.ldc 172, 2) := by decide +kernel
theorem dX3_relaxed_23 : decode cX3_relaxed 23 = .ok (.invokespecial 53, 3) := by decide +kernel
theorem dX3_relaxed_26 : decode cX3_relaxed 26 = .ok (.athrow, 1) := by decide +kernel
theorem dX3_relaxed_27 : decode cX3_relaxed 27 = .ok (.dconst 1, 1) := by decide +kernel
theorem dX3_relaxed_28 : decode cX3_relaxed 28 = .ok (.aload_n 3, 1) := by decide +kernel
theorem dX3_relaxed_29 : decode cX3_relaxed 29 = .ok (.getfield 102, 3) := by decide +kernel
theorem dX3_relaxed_32 : decode cX3_relaxed 32 = .ok (.dconst 1, 1) := by decide +kernel
theorem dX3_relaxed_33 : decode cX3_relaxed 33 = .ok (.dconst 1, 1) := by decide +kernel
theorem dX3_relaxed_34 : decode cX3_relaxed 34 = .ok (.dconst 1, 1) := by decide +kernel
theorem dX3_relaxed_35 : decode cX3_relaxed 35 = .ok (.iload_n 2, 1) := by decide +kernel
theorem dX3_relaxed_36 : decode cX3_relaxed 36 = .ok (.i2d, 1) := by decide +kernel
theorem dX3_relaxed_37 : decode cX3_relaxed 37 = .ok (.ldc2_w 174, 3) := by decide +kernel
theorem dX3_relaxed_40 : decode cX3_relaxed 40 = .ok (.ddiv, 1) := by decide +kernel
theorem dX3_relaxed_41 : decode cX3_relaxed 41 = .ok (.dadd, 1) := by decide +kernel
theorem dX3_relaxed_42 : decode cX3_relaxed 42 = .ok (.ddiv, 1) := by decide +kernel
theorem dX3_relaxed_43 : decode cX3_relaxed 43 = .ok (.dsub, 1) := by decide +kernel
theorem dX3_relaxed_44 : decode cX3_relaxed 44 = .ok (.dmul, 1) := by decide +kernel
theorem dX3_relaxed_45 : decode cX3_relaxed 45 = .ok (.dadd, 1) := by decide +kernel
theorem dX3_relaxed_46 : decode cX3_relaxed 46 = .ok (.dreturn, 1) := by decide +kernel
theorem dX3_kindOf_0 : decode cX3_kindOf 0 = .ok (.iload_n 1, 1) := by decide +kernel
theorem dX3_kindOf_1 : decode cX3_kindOf 1 = .ok (.ifCond .lt 21, 3) := by decide +kernel
theorem dX3_kindOf_4 : decode cX3_kindOf 4 = .ok (.iload_n 1, 1) := by decide +kernel
theorem dX3_kindOf_5 : decode cX3_kindOf 5 = .ok (.aload_n 0, 1) := by decide +kernel
theorem dX3_kindOf_6 : decode cX3_kindOf 6 = .ok (.getfield 11, 3) := by decide +kernel
theorem dX3_kindOf_9 : decode cX3_kindOf 9 = .ok (.arraylength, 1) := by decide +kernel
theorem dX3_kindOf_10 : decode cX3_kindOf 10 = .ok (.if_icmp .ge 12, 3) := by decide +kernel
theorem dX3_kindOf_13 : decode cX3_kindOf 13 = .ok (.aload_n 0, 1) := by decide +kernel
theorem dX3_kindOf_14 : decode cX3_kindOf 14 = .ok (.getfield 11, 3) := by decide +kernel
theorem dX3_kindOf_17 : decode cX3_kindOf 17 = .ok (.iload_n 1, 1) := by decide +kernel
theorem dX3_kindOf_18 : decode cX3_kindOf 18 = .ok (.aaload, 1) := by decide +kernel
theorem dX3_kindOf_19 : decode cX3_kindOf 19 = .ok (.goto 4, 3) := by decide +kernel
theorem dX3_kindOf_22 : decode cX3_kindOf 22 = .ok (.aconst_null, 1) := by decide +kernel
theorem dX3_kindOf_23 : decode cX3_kindOf 23 = .ok (.astore_n 2, 1) := by decide +kernel
theorem dX3_kindOf_24 : decode cX3_kindOf 24 = .ok (.aload_n 2, 1) := by decide +kernel
theorem dX3_kindOf_25 : decode cX3_kindOf 25 = .ok (.ifnonnull 13, 3) := by decide +kernel
theorem dX3_kindOf_28 : decode cX3_kindOf 28 = .ok (.new 111, 3) := by decide +kernel
theorem dX3_kindOf_31 : decode cX3_kindOf 31 = .ok (.dup, 1) := by decide +kernel
theorem dX3_kindOf_32 : decode cX3_kindOf 32 = .ok (.ldc 176, 2) := by decide +kernel
theorem dX3_kindOf_34 : decode cX3_kindOf 34 = .ok (.invokespecial 115, 3) := by decide +kernel
theorem dX3_kindOf_37 : decode cX3_kindOf 37 = .ok (.athrow, 1) := by decide +kernel
theorem dX3_kindOf_38 : decode cX3_kindOf 38 = .ok (.aload_n 2, 1) := by decide +kernel
theorem dX3_kindOf_39 : decode cX3_kindOf 39 = .ok (.areturn, 1) := by decide +kernel
theorem dX3_isWithin_0 : decode cX3_isWithin 0 = .ok (.dload_n 0, 1) := by decide +kernel
theorem dX3_isWithin_1 : decode cX3_isWithin 1 = .ok (.dload_n 2, 1) := by decide +kernel
theorem dX3_isWithin_2 : decode cX3_isWithin 2 = .ok (.dcmp .l, 1) := by decide +kernel
theorem dX3_isWithin_3 : decode cX3_isWithin 3 = .ok (.ifCond .lt 14, 3) := by decide +kernel
theorem dX3_isWithin_6 : decode cX3_isWithin 6 = .ok (.dload_n 0, 1) := by decide +kernel
theorem dX3_isWithin_7 : decode cX3_isWithin 7 = .ok (.dload 4, 2) := by decide +kernel
theorem dX3_isWithin_9 : decode cX3_isWithin 9 = .ok (.dcmp .g, 1) := by decide +kernel
theorem dX3_isWithin_10 : decode cX3_isWithin 10 = .ok (.ifCond .gt 7, 3) := by decide +kernel
theorem dX3_isWithin_13 : decode cX3_isWithin 13 = .ok (.iconst 1, 1) := by decide +kernel
theorem dX3_isWithin_14 : decode cX3_isWithin 14 = .ok (.goto 4, 3) := by decide +kernel
theorem dX3_isWithin_17 : decode cX3_isWithin 17 = .ok (.iconst 0, 1) := by decide +kernel
theorem dX3_isWithin_18 : decode cX3_isWithin 18 = .ok (.ireturn, 1) := by decide +kernel
theorem dX3_isNone_0 : decode cX3_isNone 0 = .ok (.dload_n 0, 1) := by decide +kernel
theorem dX3_isNone_1 : decode cX3_isNone 1 = .ok (.dconst 0, 1) := by decide +kernel
theorem dX3_isNone_2 : decode cX3_isNone 2 = .ok (.dcmp .g, 1) := by decide +kernel
theorem dX3_isNone_3 : decode cX3_isNone 3 = .ok (.ifCond .ge 7, 3) := by decide +kernel
theorem dX3_isNone_6 : decode cX3_isNone 6 = .ok (.iconst 1, 1) := by decide +kernel
theorem dX3_isNone_7 : decode cX3_isNone 7 = .ok (.goto 4, 3) := by decide +kernel
theorem dX3_isNone_10 : decode cX3_isNone 10 = .ok (.iconst 0, 1) := by decide +kernel
theorem dX3_isNone_11 : decode cX3_isNone 11 = .ok (.ireturn, 1) := by decide +kernel
theorem dX3_leastKerfs_0 : decode cX3_leastKerfs 0 = .ok (.iconst 0, 1) := by decide +kernel
theorem dX3_leastKerfs_1 : decode cX3_leastKerfs 1 = .ok (.istore 4, 2) := by decide +kernel
theorem dX3_leastKerfs_3 : decode cX3_leastKerfs 3 = .ok (.ldc 178, 2) := by decide +kernel
theorem dX3_leastKerfs_5 : decode cX3_leastKerfs 5 = .ok (.istore 5, 2) := by decide +kernel
theorem dX3_leastKerfs_7 : decode cX3_leastKerfs 7 = .ok (.iload 5, 2) := by decide +kernel
theorem dX3_leastKerfs_9 : decode cX3_leastKerfs 9 = .ok (.ifCond .le 32, 3) := by decide +kernel
theorem dX3_leastKerfs_12 : decode cX3_leastKerfs 12 = .ok (.iload 4, 2) := by decide +kernel
theorem dX3_leastKerfs_14 : decode cX3_leastKerfs 14 = .ok (.iload 5, 2) := by decide +kernel
theorem dX3_leastKerfs_16 : decode cX3_leastKerfs 16 = .ok (.iadd, 1) := by decide +kernel
theorem dX3_leastKerfs_17 : decode cX3_leastKerfs 17 = .ok (.i2d, 1) := by decide +kernel
theorem dX3_leastKerfs_18 : decode cX3_leastKerfs 18 = .ok (.dload_n 2, 1) := by decide +kernel
theorem dX3_leastKerfs_19 : decode cX3_leastKerfs 19 = .ok (.dmul, 1) := by decide +kernel
theorem dX3_leastKerfs_20 : decode cX3_leastKerfs 20 = .ok (.dload_n 0, 1) := by decide +kernel
theorem dX3_leastKerfs_21 : decode cX3_leastKerfs 21 = .ok (.dcmp .g, 1) := by decide +kernel
theorem dX3_leastKerfs_22 : decode cX3_leastKerfs 22 = .ok (.ifCond .ge 10, 3) := by decide +kernel
theorem dX3_leastKerfs_25 : decode cX3_leastKerfs 25 = .ok (.iload 4, 2) := by decide +kernel
theorem dX3_leastKerfs_27 : decode cX3_leastKerfs 27 = .ok (.iload 5, 2) := by decide +kernel
theorem dX3_leastKerfs_29 : decode cX3_leastKerfs 29 = .ok (.iadd, 1) := by decide +kernel
theorem dX3_leastKerfs_30 : decode cX3_leastKerfs 30 = .ok (.istore 4, 2) := by decide +kernel
theorem dX3_leastKerfs_32 : decode cX3_leastKerfs 32 = .ok (.iload 5, 2) := by decide +kernel
theorem dX3_leastKerfs_34 : decode cX3_leastKerfs 34 = .ok (.iconst 2, 1) := by decide +kernel
theorem dX3_leastKerfs_35 : decode cX3_leastKerfs 35 = .ok (.idiv, 1) := by decide +kernel
theorem dX3_leastKerfs_36 : decode cX3_leastKerfs 36 = .ok (.istore 5, 2) := by decide +kernel
theorem dX3_leastKerfs_38 : decode cX3_leastKerfs 38 = .ok (.goto (-31), 3) := by decide +kernel
theorem dX3_leastKerfs_41 : decode cX3_leastKerfs 41 = .ok (.iload 4, 2) := by decide +kernel
theorem dX3_leastKerfs_43 : decode cX3_leastKerfs 43 = .ok (.iconst 1, 1) := by decide +kernel
theorem dX3_leastKerfs_44 : decode cX3_leastKerfs 44 = .ok (.iadd, 1) := by decide +kernel
theorem dX3_leastKerfs_45 : decode cX3_leastKerfs 45 = .ok (.ireturn, 1) := by decide +kernel
theorem dX3_commonDivisor_0 : decode cX3_commonDivisor 0 = .ok (.iload_n 0, 1) := by decide +kernel
theorem dX3_commonDivisor_1 : decode cX3_commonDivisor 1 = .ok (.istore_n 2, 1) := by decide +kernel
theorem dX3_commonDivisor_2 : decode cX3_commonDivisor 2 = .ok (.iload_n 1, 1) := by decide +kernel
theorem dX3_commonDivisor_3 : decode cX3_commonDivisor 3 = .ok (.istore_n 3, 1) := by decide +kernel
theorem dX3_commonDivisor_4 : decode cX3_commonDivisor 4 = .ok (.iconst 0, 1) := by decide +kernel
theorem dX3_commonDivisor_5 : decode cX3_commonDivisor 5 = .ok (.istore 4, 2) := by decide +kernel
theorem dX3_commonDivisor_7 : decode cX3_commonDivisor 7 = .ok (.iload 4, 2) := by decide +kernel
theorem dX3_commonDivisor_9 : decode cX3_commonDivisor 9 = .ok (.bipush 64, 2) := by decide +kernel
theorem dX3_commonDivisor_11 : decode cX3_commonDivisor 11 = .ok (.if_icmp .ge 23, 3) := by decide +kernel
theorem dX3_commonDivisor_14 : decode cX3_commonDivisor 14 = .ok (.iload_n 3, 1) := by decide +kernel
theorem dX3_commonDivisor_15 : decode cX3_commonDivisor 15 = .ok (.ifCond .le 19, 3) := by decide +kernel
theorem dX3_commonDivisor_18 : decode cX3_commonDivisor 18 = .ok (.iload_n 2, 1) := by decide +kernel
theorem dX3_commonDivisor_19 : decode cX3_commonDivisor 19 = .ok (.iload_n 3, 1) := by decide +kernel
theorem dX3_commonDivisor_20 : decode cX3_commonDivisor 20 = .ok (.irem, 1) := by decide +kernel
theorem dX3_commonDivisor_21 : decode cX3_commonDivisor 21 = .ok (.istore 5, 2) := by decide +kernel
theorem dX3_commonDivisor_23 : decode cX3_commonDivisor 23 = .ok (.iload_n 3, 1) := by decide +kernel
theorem dX3_commonDivisor_24 : decode cX3_commonDivisor 24 = .ok (.istore_n 2, 1) := by decide +kernel
theorem dX3_commonDivisor_25 : decode cX3_commonDivisor 25 = .ok (.iload 5, 2) := by decide +kernel
theorem dX3_commonDivisor_27 : decode cX3_commonDivisor 27 = .ok (.istore_n 3, 1) := by decide +kernel
theorem dX3_commonDivisor_28 : decode cX3_commonDivisor 28 = .ok (.iinc 4 1, 3) := by decide +kernel
theorem dX3_commonDivisor_31 : decode cX3_commonDivisor 31 = .ok (.goto (-24), 3) := by decide +kernel
theorem dX3_commonDivisor_34 : decode cX3_commonDivisor 34 = .ok (.iload_n 2, 1) := by decide +kernel
theorem dX3_commonDivisor_35 : decode cX3_commonDivisor 35 = .ok (.ireturn, 1) := by decide +kernel
theorem dX4_init_0 : decode cX4_init 0 = .ok (.aload_n 0, 1) := by decide +kernel
theorem dX4_init_1 : decode cX4_init 1 = .ok (.invokespecial 1, 3) := by decide +kernel
theorem dX4_init_4 : decode cX4_init 4 = .ok (.aload_n 0, 1) := by decide +kernel
theorem dX4_init_5 : decode cX4_init 5 = .ok (.iconst 4, 1) := by decide +kernel
theorem dX4_init_6 : decode cX4_init 6 = .ok (.newarray .int, 2) := by decide +kernel
theorem dX4_init_8 : decode cX4_init 8 = .ok (.putfield 7, 3) := by decide +kernel
theorem dX4_init_11 : decode cX4_init 11 = .ok (.aload_n 0, 1) := by decide +kernel
theorem dX4_init_12 : decode cX4_init 12 = .ok (.bipush 48, 2) := by decide +kernel
theorem dX4_init_14 : decode cX4_init 14 = .ok (.newarray .double, 2) := by decide +kernel
theorem dX4_init_16 : decode cX4_init 16 = .ok (.putfield 13, 3) := by decide +kernel
theorem dX4_init_19 : decode cX4_init 19 = .ok (.aload_n 0, 1) := by decide +kernel
theorem dX4_init_20 : decode cX4_init 20 = .ok (.bipush 48, 2) := by decide +kernel
theorem dX4_init_22 : decode cX4_init 22 = .ok (.newarray .double, 2) := by decide +kernel
theorem dX4_init_24 : decode cX4_init 24 = .ok (.putfield 17, 3) := by decide +kernel
theorem dX4_init_27 : decode cX4_init 27 = .ok (.aload_n 0, 1) := by decide +kernel
theorem dX4_init_28 : decode cX4_init 28 = .ok (.iconst 4, 1) := by decide +kernel
theorem dX4_init_29 : decode cX4_init 29 = .ok (.newarray .int, 2) := by decide +kernel
theorem dX4_init_31 : decode cX4_init 31 = .ok (.putfield 20, 3) := by decide +kernel
theorem dX4_init_34 : decode cX4_init 34 = .ok (.aload_n 0, 1) := by decide +kernel
theorem dX4_init_35 : decode cX4_init 35 = .ok (.bipush 80, 2) := by decide +kernel
theorem dX4_init_37 : decode cX4_init 37 = .ok (.newarray .double, 2) := by decide +kernel
theorem dX4_init_39 : decode cX4_init 39 = .ok (.putfield 23, 3) := by decide +kernel
theorem dX4_init_42 : decode cX4_init 42 = .ok (.aload_n 0, 1) := by decide +kernel
theorem dX4_init_43 : decode cX4_init 43 = .ok (.bipush 80, 2) := by decide +kernel
theorem dX4_init_45 : decode cX4_init 45 = .ok (.newarray .double, 2) := by decide +kernel
theorem dX4_init_47 : decode cX4_init 47 = .ok (.putfield 26, 3) := by decide +kernel
theorem dX4_init_50 : decode cX4_init 50 = .ok (.aload_n 0, 1) := by decide +kernel
theorem dX4_init_51 : decode cX4_init 51 = .ok (.iconst 4, 1) := by decide +kernel
theorem dX4_init_52 : decode cX4_init 52 = .ok (.newarray .double, 2) := by decide +kernel
theorem dX4_init_54 : decode cX4_init 54 = .ok (.putfield 29, 3) := by decide +kernel
theorem dX4_init_57 : decode cX4_init 57 = .ok (.aload_n 0, 1) := by decide +kernel
theorem dX4_init_58 : decode cX4_init 58 = .ok (.iconst 4, 1) := by decide +kernel
theorem dX4_init_59 : decode cX4_init 59 = .ok (.newarray .double, 2) := by decide +kernel
theorem dX4_init_61 : decode cX4_init 61 = .ok (.putfield 32, 3) := by decide +kernel
theorem dX4_init_64 : decode cX4_init 64 = .ok (.aload_n 0, 1) := by decide +kernel
theorem dX4_init_65 : decode cX4_init 65 = .ok (.bipush 12, 2) := by decide +kernel
theorem dX4_init_67 : decode cX4_init 67 = .ok (.newarray .double, 2) := by decide +kernel
theorem dX4_init_69 : decode cX4_init 69 = .ok (.putfield 35, 3) := by decide +kernel
theorem dX4_init_72 : decode cX4_init 72 = .ok (.aload_n 0, 1) := by decide +kernel
theorem dX4_init_73 : decode cX4_init 73 = .ok (.bipush 12, 2) := by decide +kernel
theorem dX4_init_75 : decode cX4_init 75 = .ok (.newarray .double, 2) := by decide +kernel
theorem dX4_init_77 : decode cX4_init 77 = .ok (.putfield 38, 3) := by decide +kernel
theorem dX4_init_80 : decode cX4_init 80 = .ok (.iconst 0, 1) := by decide +kernel
theorem dX4_init_81 : decode cX4_init 81 = .ok (.istore_n 1, 1) := by decide +kernel
theorem dX4_init_82 : decode cX4_init 82 = .ok (.iload_n 1, 1) := by decide +kernel
theorem dX4_init_83 : decode cX4_init 83 = .ok (.iconst 4, 1) := by decide +kernel
theorem dX4_init_84 : decode cX4_init 84 = .ok (.if_icmp .ge 27, 3) := by decide +kernel
theorem dX4_init_87 : decode cX4_init 87 = .ok (.aload_n 0, 1) := by decide +kernel
theorem dX4_init_88 : decode cX4_init 88 = .ok (.getfield 29, 3) := by decide +kernel
theorem dX4_init_91 : decode cX4_init 91 = .ok (.iload_n 1, 1) := by decide +kernel
theorem dX4_init_92 : decode cX4_init 92 = .ok (.ldc2_w 41, 3) := by decide +kernel
theorem dX4_init_95 : decode cX4_init 95 = .ok (.dastore, 1) := by decide +kernel
theorem dX4_init_96 : decode cX4_init 96 = .ok (.aload_n 0, 1) := by decide +kernel
theorem dX4_init_97 : decode cX4_init 97 = .ok (.getfield 32, 3) := by decide +kernel
theorem dX4_init_100 : decode cX4_init 100 = .ok (.iload_n 1, 1) := by decide +kernel
theorem dX4_init_101 : decode cX4_init 101 = .ok (.ldc2_w 41, 3) := by decide +kernel
theorem dX4_init_104 : decode cX4_init 104 = .ok (.dastore, 1) := by decide +kernel
theorem dX4_init_105 : decode cX4_init 105 = .ok (.iinc 1 1, 3) := by decide +kernel
theorem dX4_init_108 : decode cX4_init 108 = .ok (.goto (-26), 3) := by decide +kernel
theorem dX4_init_111 : decode cX4_init 111 = .ok (.return_, 1) := by decide +kernel
theorem dX4_thrown_0 : decode cX4_thrown 0 = .ok (.aload_n 0, 1) := by decide +kernel
theorem dX4_thrown_1 : decode cX4_thrown 1 = .ok (.getfield 43, 3) := by decide +kernel
theorem dX4_thrown_4 : decode cX4_thrown 4 = .ok (.ireturn, 1) := by decide +kernel
theorem dX4_isIn_0 : decode cX4_isIn 0 = .ok (.dload_n 0, 1) := by decide +kernel
theorem dX4_isIn_1 : decode cX4_isIn 1 = .ok (.dload_n 2, 1) := by decide +kernel
theorem dX4_isIn_2 : decode cX4_isIn 2 = .ok (.dcmp .l, 1) := by decide +kernel
theorem dX4_isIn_3 : decode cX4_isIn 3 = .ok (.ifCond .lt 14, 3) := by decide +kernel
theorem dX4_isIn_6 : decode cX4_isIn 6 = .ok (.dload_n 0, 1) := by decide +kernel
theorem dX4_isIn_7 : decode cX4_isIn 7 = .ok (.dload 4, 2) := by decide +kernel
theorem dX4_isIn_9 : decode cX4_isIn 9 = .ok (.dcmp .g, 1) := by decide +kernel
theorem dX4_isIn_10 : decode cX4_isIn 10 = .ok (.ifCond .gt 7, 3) := by decide +kernel
theorem dX4_isIn_13 : decode cX4_isIn 13 = .ok (.iconst 1, 1) := by decide +kernel
theorem dX4_isIn_14 : decode cX4_isIn 14 = .ok (.goto 4, 3) := by decide +kernel
theorem dX4_isIn_17 : decode cX4_isIn 17 = .ok (.iconst 0, 1) := by decide +kernel
theorem dX4_isIn_18 : decode cX4_isIn 18 = .ok (.ireturn, 1) := by decide +kernel
theorem dX4_isKind_0 : decode cX4_isKind 0 = .ok (.iload_n 0, 1) := by decide +kernel
theorem dX4_isKind_1 : decode cX4_isKind 1 = .ok (.ifCond .lt 12, 3) := by decide +kernel
theorem dX4_isKind_4 : decode cX4_isKind 4 = .ok (.iload_n 0, 1) := by decide +kernel
theorem dX4_isKind_5 : decode cX4_isKind 5 = .ok (.iconst 4, 1) := by decide +kernel
theorem dX4_isKind_6 : decode cX4_isKind 6 = .ok (.if_icmp .ge 7, 3) := by decide +kernel
theorem dX4_isKind_9 : decode cX4_isKind 9 = .ok (.iconst 1, 1) := by decide +kernel
theorem dX4_isKind_10 : decode cX4_isKind 10 = .ok (.goto 4, 3) := by decide +kernel
theorem dX4_isKind_13 : decode cX4_isKind 13 = .ok (.iconst 0, 1) := by decide +kernel
theorem dX4_isKind_14 : decode cX4_isKind 14 = .ok (.ireturn, 1) := by decide +kernel
theorem dX4_table_0 : decode cX4_table 0 = .ok (.aload_n 0, 1) := by decide +kernel
theorem dX4_table_1 : decode cX4_table 1 = .ok (.iload_n 1, 1) := by decide +kernel
theorem dX4_table_2 : decode cX4_table 2 = .ok (.invokestatic 47, 3) := by decide +kernel
theorem dX4_table_5 : decode cX4_table 5 = .ok (.ifCond .eq 7, 3) := by decide +kernel
theorem dX4_table_8 : decode cX4_table 8 = .ok (.iconst 0, 1) := by decide +kernel
theorem dX4_table_9 : decode cX4_table 9 = .ok (.goto 4, 3) := by decide +kernel
theorem dX4_table_12 : decode cX4_table 12 = .ok (.iconst 1, 1) := by decide +kernel
theorem dX4_table_13 : decode cX4_table 13 = .ok (.putfield 43, 3) := by decide +kernel
theorem dX4_table_16 : decode cX4_table 16 = .ok (.aload_n 0, 1) := by decide +kernel
theorem dX4_table_17 : decode cX4_table 17 = .ok (.getfield 43, 3) := by decide +kernel
theorem dX4_table_20 : decode cX4_table 20 = .ok (.ifCond .le 5, 3) := by decide +kernel
theorem dX4_table_23 : decode cX4_table 23 = .ok (.iconst 0, 1) := by decide +kernel
theorem dX4_table_24 : decode cX4_table 24 = .ok (.ireturn, 1) := by decide +kernel
theorem dX4_table_25 : decode cX4_table 25 = .ok (.bipush 12, 2) := by decide +kernel
theorem dX4_table_27 : decode cX4_table 27 = .ok (.iload_n 1, 1) := by decide +kernel
theorem dX4_table_28 : decode cX4_table 28 = .ok (.imul, 1) := by decide +kernel
theorem dX4_table_29 : decode cX4_table 29 = .ok (.aload_n 0, 1) := by decide +kernel
theorem dX4_table_30 : decode cX4_table 30 = .ok (.getfield 7, 3) := by decide +kernel
theorem dX4_table_33 : decode cX4_table 33 = .ok (.iload_n 1, 1) := by decide +kernel
theorem dX4_table_34 : decode cX4_table 34 = .ok (.iaload, 1) := by decide +kernel
theorem dX4_table_35 : decode cX4_table 35 = .ok (.iadd, 1) := by decide +kernel
theorem dX4_table_36 : decode cX4_table 36 = .ok (.iconst 1, 1) := by decide +kernel
theorem dX4_table_37 : decode cX4_table 37 = .ok (.isub, 1) := by decide +kernel
theorem dX4_table_38 : decode cX4_table 38 = .ok (.istore 6, 2) := by decide +kernel
theorem dX4_table_40 : decode cX4_table 40 = .ok (.dload_n 2, 1) := by decide +kernel
theorem dX4_table_41 : decode cX4_table 41 = .ok (.ldc2_w 51, 3) := by decide +kernel
theorem dX4_table_44 : decode cX4_table 44 = .ok (.ldc2_w 53, 3) := by decide +kernel
theorem dX4_table_47 : decode cX4_table 47 = .ok (.invokestatic 55, 3) := by decide +kernel
theorem dX4_table_50 : decode cX4_table 50 = .ok (.ifCond .eq 42, 3) := by decide +kernel
theorem dX4_table_53 : decode cX4_table 53 = .ok (.dload 4, 2) := by decide +kernel
theorem dX4_table_55 : decode cX4_table 55 = .ok (.ldc2_w 51, 3) := by decide +kernel
theorem dX4_table_58 : decode cX4_table 58 = .ok (.ldc2_w 59, 3) := by decide +kernel
theorem dX4_table_61 : decode cX4_table 61 = .ok (.invokestatic 55, 3) := by decide +kernel
theorem dX4_table_64 : decode cX4_table 64 = .ok (.ifCond .eq 28, 3) := by decide +kernel
theorem dX4_table_67 : decode cX4_table 67 = .ok (.aload_n 0, 1) := by decide +kernel
theorem dX4_table_68 : decode cX4_table 68 = .ok (.getfield 7, 3) := by decide +kernel
theorem dX4_table_71 : decode cX4_table 71 = .ok (.iload_n 1, 1) := by decide +kernel
theorem dX4_table_72 : decode cX4_table 72 = .ok (.iaload, 1) := by decide +kernel
theorem dX4_table_73 : decode cX4_table 73 = .ok (.ifCond .eq 15, 3) := by decide +kernel
theorem dX4_table_76 : decode cX4_table 76 = .ok (.dload_n 2, 1) := by decide +kernel
theorem dX4_table_77 : decode cX4_table 77 = .ok (.aload_n 0, 1) := by decide +kernel
theorem dX4_table_78 : decode cX4_table 78 = .ok (.getfield 13, 3) := by decide +kernel
theorem dX4_table_81 : decode cX4_table 81 = .ok (.iload 6, 2) := by decide +kernel
theorem dX4_table_83 : decode cX4_table 83 = .ok (.daload, 1) := by decide +kernel
theorem dX4_table_84 : decode cX4_table 84 = .ok (.dcmp .l, 1) := by decide +kernel
theorem dX4_table_85 : decode cX4_table 85 = .ok (.ifCond .le 7, 3) := by decide +kernel
theorem dX4_table_88 : decode cX4_table 88 = .ok (.iconst 1, 1) := by decide +kernel
theorem dX4_table_89 : decode cX4_table 89 = .ok (.goto 4, 3) := by decide +kernel
theorem dX4_table_92 : decode cX4_table 92 = .ok (.iconst 0, 1) := by decide +kernel
theorem dX4_table_93 : decode cX4_table 93 = .ok (.istore 7, 2) := by decide +kernel
theorem dX4_table_95 : decode cX4_table 95 = .ok (.aload_n 0, 1) := by decide +kernel
theorem dX4_table_96 : decode cX4_table 96 = .ok (.iload 7, 2) := by decide +kernel
theorem dX4_table_98 : decode cX4_table 98 = .ok (.ifCond .ne 7, 3) := by decide +kernel
theorem dX4_table_101 : decode cX4_table 101 = .ok (.iconst 2, 1) := by decide +kernel
theorem dX4_table_102 : decode cX4_table 102 = .ok (.goto 19, 3) := by decide +kernel
theorem dX4_table_105 : decode cX4_table 105 = .ok (.aload_n 0, 1) := by decide +kernel
theorem dX4_table_106 : decode cX4_table 106 = .ok (.getfield 7, 3) := by decide +kernel
theorem dX4_table_109 : decode cX4_table 109 = .ok (.iload_n 1, 1) := by decide +kernel
theorem dX4_table_110 : decode cX4_table 110 = .ok (.iaload, 1) := by decide +kernel
theorem dX4_table_111 : decode cX4_table 111 = .ok (.bipush 12, 2) := by decide +kernel
theorem dX4_table_113 : decode cX4_table 113 = .ok (.if_icmp .ne 7, 3) := by decide +kernel
theorem dX4_table_116 : decode cX4_table 116 = .ok (.iconst 3, 1) := by decide +kernel
theorem dX4_table_117 : decode cX4_table 117 = .ok (.goto 4, 3) := by decide +kernel
theorem dX4_table_120 : decode cX4_table 120 = .ok (.iconst 0, 1) := by decide +kernel
theorem dX4_table_121 : decode cX4_table 121 = .ok (.putfield 43, 3) := by decide +kernel
theorem dX4_table_124 : decode cX4_table 124 = .ok (.aload_n 0, 1) := by decide +kernel
theorem dX4_table_125 : decode cX4_table 125 = .ok (.getfield 43, 3) := by decide +kernel
theorem dX4_table_128 : decode cX4_table 128 = .ok (.ifCond .le 5, 3) := by decide +kernel
theorem dX4_table_131 : decode cX4_table 131 = .ok (.iconst 0, 1) := by decide +kernel
theorem dX4_table_132 : decode cX4_table 132 = .ok (.ireturn, 1) := by decide +kernel
theorem dX4_table_133 : decode cX4_table 133 = .ok (.aload_n 0, 1) := by decide +kernel
theorem dX4_table_134 : decode cX4_table 134 = .ok (.getfield 13, 3) := by decide +kernel
theorem dX4_table_137 : decode cX4_table 137 = .ok (.iload 6, 2) := by decide +kernel
theorem dX4_table_139 : decode cX4_table 139 = .ok (.iconst 1, 1) := by decide +kernel
theorem dX4_table_140 : decode cX4_table 140 = .ok (.iadd, 1) := by decide +kernel
theorem dX4_table_141 : decode cX4_table 141 = .ok (.dload_n 2, 1) := by decide +kernel
theorem dX4_table_142 : decode cX4_table 142 = .ok (.dastore, 1) := by decide +kernel
theorem dX4_table_143 : decode cX4_table 143 = .ok (.aload_n 0, 1) := by decide +kernel
theorem dX4_table_144 : decode cX4_table 144 = .ok (.getfield 17, 3) := by decide +kernel
theorem dX4_table_147 : decode cX4_table 147 = .ok (.iload 6, 2) := by decide +kernel
theorem dX4_table_149 : decode cX4_table 149 = .ok (.iconst 1, 1) := by decide +kernel
theorem dX4_table_150 : decode cX4_table 150 = .ok (.iadd, 1) := by decide +kernel
theorem dX4_table_151 : decode cX4_table 151 = .ok (.dload 4, 2) := by decide +kernel
theorem dX4_table_153 : decode cX4_table 153 = .ok (.dastore, 1) := by decide +kernel
theorem dX4_table_154 : decode cX4_table 154 = .ok (.aload_n 0, 1) := by decide +kernel
theorem dX4_table_155 : decode cX4_table 155 = .ok (.getfield 7, 3) := by decide +kernel
theorem dX4_table_158 : decode cX4_table 158 = .ok (.iload_n 1, 1) := by decide +kernel
theorem dX4_table_159 : decode cX4_table 159 = .ok (.dup2, 1) := by decide +kernel
theorem dX4_table_160 : decode cX4_table 160 = .ok (.iaload, 1) := by decide +kernel
theorem dX4_table_161 : decode cX4_table 161 = .ok (.iconst 1, 1) := by decide +kernel
theorem dX4_table_162 : decode cX4_table 162 = .ok (.iadd, 1) := by decide +kernel
theorem dX4_table_163 : decode cX4_table 163 = .ok (.iastore, 1) := by decide +kernel
theorem dX4_table_164 : decode cX4_table 164 = .ok (.aload_n 0, 1) := by decide +kernel
theorem dX4_table_165 : decode cX4_table 165 = .ok (.getfield 7, 3) := by decide +kernel
theorem dX4_table_168 : decode cX4_table 168 = .ok (.iload_n 1, 1) := by decide +kernel
theorem dX4_table_169 : decode cX4_table 169 = .ok (.iaload, 1) := by decide +kernel
theorem dX4_table_170 : decode cX4_table 170 = .ok (.ireturn, 1) := by decide +kernel
theorem dX4_radiusAt_0 : decode cX4_radiusAt 0 = .ok (.aload_n 0, 1) := by decide +kernel
theorem dX4_radiusAt_1 : decode cX4_radiusAt 1 = .ok (.iconst 0, 1) := by decide +kernel
theorem dX4_radiusAt_2 : decode cX4_radiusAt 2 = .ok (.putfield 61, 3) := by decide +kernel
theorem dX4_radiusAt_5 : decode cX4_radiusAt 5 = .ok (.dconst 0, 1) := by decide +kernel
theorem dX4_radiusAt_6 : decode cX4_radiusAt 6 = .ok (.dstore 4, 2) := by decide +kernel
theorem dX4_radiusAt_8 : decode cX4_radiusAt 8 = .ok (.bipush 12, 2) := by decide +kernel
theorem dX4_radiusAt_10 : decode cX4_radiusAt 10 = .ok (.iload_n 1, 1) := by decide +kernel
theorem dX4_radiusAt_11 : decode cX4_radiusAt 11 = .ok (.imul, 1) := by decide +kernel
theorem dX4_radiusAt_12 : decode cX4_radiusAt 12 = .ok (.istore 6, 2) := by decide +kernel
theorem dX4_radiusAt_14 : decode cX4_radiusAt 14 = .ok (.iload 6, 2) := by decide +kernel
theorem dX4_radiusAt_16 : decode cX4_radiusAt 16 = .ok (.bipush 12, 2) := by decide +kernel
theorem dX4_radiusAt_18 : decode cX4_radiusAt 18 = .ok (.iload_n 1, 1) := by decide +kernel
theorem dX4_radiusAt_19 : decode cX4_radiusAt 19 = .ok (.imul, 1) := by decide +kernel
theorem dX4_radiusAt_20 : decode cX4_radiusAt 20 = .ok (.aload_n 0, 1) := by decide +kernel
theorem dX4_radiusAt_21 : decode cX4_radiusAt 21 = .ok (.getfield 7, 3) := by decide +kernel
theorem dX4_radiusAt_24 : decode cX4_radiusAt 24 = .ok (.iload_n 1, 1) := by decide +kernel
theorem dX4_radiusAt_25 : decode cX4_radiusAt 25 = .ok (.iaload, 1) := by decide +kernel
theorem dX4_radiusAt_26 : decode cX4_radiusAt 26 = .ok (.iadd, 1) := by decide +kernel
theorem dX4_radiusAt_27 : decode cX4_radiusAt 27 = .ok (.if_icmp .ge 137, 3) := by decide +kernel
theorem dX4_radiusAt_30 : decode cX4_radiusAt 30 = .ok (.dload_n 2, 1) := by decide +kernel
theorem dX4_radiusAt_31 : decode cX4_radiusAt 31 = .ok (.aload_n 0, 1) := by decide +kernel
theorem dX4_radiusAt_32 : decode cX4_radiusAt 32 = .ok (.getfield 13, 3) := by decide +kernel
theorem dX4_radiusAt_35 : decode cX4_radiusAt 35 = .ok (.iload 6, 2) := by decide +kernel
theorem dX4_radiusAt_37 : decode cX4_radiusAt 37 = .ok (.daload, 1) := by decide +kernel
theorem dX4_radiusAt_38 : decode cX4_radiusAt 38 = .ok (.dcmp .l, 1) := by decide +kernel
theorem dX4_radiusAt_39 : decode cX4_radiusAt 39 = .ok (.ifCond .ne 20, 3) := by decide +kernel
theorem dX4_radiusAt_42 : decode cX4_radiusAt 42 = .ok (.aload_n 0, 1) := by decide +kernel
theorem dX4_radiusAt_43 : decode cX4_radiusAt 43 = .ok (.iconst 1, 1) := by decide +kernel
theorem dX4_radiusAt_44 : decode cX4_radiusAt 44 = .ok (.putfield 61, 3) := by decide +kernel
theorem dX4_radiusAt_47 : decode cX4_radiusAt 47 = .ok (.aload_n 0, 1) := by decide +kernel
theorem dX4_radiusAt_48 : decode cX4_radiusAt 48 = .ok (.getfield 17, 3) := by decide +kernel
theorem dX4_radiusAt_51 : decode cX4_radiusAt 51 = .ok (.iload 6, 2) := by decide +kernel
theorem dX4_radiusAt_53 : decode cX4_radiusAt 53 = .ok (.daload, 1) := by decide +kernel
theorem dX4_radiusAt_54 : decode cX4_radiusAt 54 = .ok (.dstore 4, 2) := by decide +kernel
theorem dX4_radiusAt_56 : decode cX4_radiusAt 56 = .ok (.goto 102, 3) := by decide +kernel
theorem dX4_radiusAt_59 : decode cX4_radiusAt 59 = .ok (.iload 6, 2) := by decide +kernel
theorem dX4_radiusAt_61 : decode cX4_radiusAt 61 = .ok (.bipush 12, 2) := by decide +kernel
theorem dX4_radiusAt_63 : decode cX4_radiusAt 63 = .ok (.iload_n 1, 1) := by decide +kernel
theorem dX4_radiusAt_64 : decode cX4_radiusAt 64 = .ok (.imul, 1) := by decide +kernel
theorem dX4_radiusAt_65 : decode cX4_radiusAt 65 = .ok (.if_icmp .le 93, 3) := by decide +kernel
theorem dX4_radiusAt_68 : decode cX4_radiusAt 68 = .ok (.dload_n 2, 1) := by decide +kernel
theorem dX4_radiusAt_69 : decode cX4_radiusAt 69 = .ok (.aload_n 0, 1) := by decide +kernel
theorem dX4_radiusAt_70 : decode cX4_radiusAt 70 = .ok (.getfield 13, 3) := by decide +kernel
theorem dX4_radiusAt_73 : decode cX4_radiusAt 73 = .ok (.iload 6, 2) := by decide +kernel
theorem dX4_radiusAt_75 : decode cX4_radiusAt 75 = .ok (.iconst 1, 1) := by decide +kernel
theorem dX4_radiusAt_76 : decode cX4_radiusAt 76 = .ok (.isub, 1) := by decide +kernel
theorem dX4_radiusAt_77 : decode cX4_radiusAt 77 = .ok (.daload, 1) := by decide +kernel
theorem dX4_radiusAt_78 : decode cX4_radiusAt 78 = .ok (.dcmp .l, 1) := by decide +kernel
theorem dX4_radiusAt_79 : decode cX4_radiusAt 79 = .ok (.ifCond .le 79, 3) := by decide +kernel
theorem dX4_radiusAt_82 : decode cX4_radiusAt 82 = .ok (.dload_n 2, 1) := by decide +kernel
theorem dX4_radiusAt_83 : decode cX4_radiusAt 83 = .ok (.aload_n 0, 1) := by decide +kernel
theorem dX4_radiusAt_84 : decode cX4_radiusAt 84 = .ok (.getfield 13, 3) := by decide +kernel
theorem dX4_radiusAt_87 : decode cX4_radiusAt 87 = .ok (.iload 6, 2) := by decide +kernel
theorem dX4_radiusAt_89 : decode cX4_radiusAt 89 = .ok (.daload, 1) := by decide +kernel
theorem dX4_radiusAt_90 : decode cX4_radiusAt 90 = .ok (.dcmp .g, 1) := by decide +kernel
theorem dX4_radiusAt_91 : decode cX4_radiusAt 91 = .ok (.ifCond .ge 67, 3) := by decide +kernel
theorem dX4_radiusAt_94 : decode cX4_radiusAt 94 = .ok (.aload_n 0, 1) := by decide +kernel
theorem dX4_radiusAt_95 : decode cX4_radiusAt 95 = .ok (.iconst 1, 1) := by decide +kernel
theorem dX4_radiusAt_96 : decode cX4_radiusAt 96 = .ok (.putfield 61, 3) := by decide +kernel
theorem dX4_radiusAt_99 : decode cX4_radiusAt 99 = .ok (.aload_n 0, 1) := by decide +kernel
theorem dX4_radiusAt_100 : decode cX4_radiusAt 100 = .ok (.getfield 17, 3) := by decide +kernel
theorem dX4_radiusAt_103 : decode cX4_radiusAt 103 = .ok (.iload 6, 2) := by decide +kernel
theorem dX4_radiusAt_105 : decode cX4_radiusAt 105 = .ok (.iconst 1, 1) := by decide +kernel
theorem dX4_radiusAt_106 : decode cX4_radiusAt 106 = .ok (.isub, 1) := by decide +kernel
theorem dX4_radiusAt_107 : decode cX4_radiusAt 107 = .ok (.daload, 1) := by decide +kernel
theorem dX4_radiusAt_108 : decode cX4_radiusAt 108 = .ok (.dload_n 2, 1) := by decide +kernel
theorem dX4_radiusAt_109 : decode cX4_radiusAt 109 = .ok (.aload_n 0, 1) := by decide +kernel
theorem dX4_radiusAt_110 : decode cX4_radiusAt 110 = .ok (.getfield 13, 3) := by decide +kernel
theorem dX4_radiusAt_113 : decode cX4_radiusAt 113 = .ok (.iload 6, 2) := by decide +kernel
theorem dX4_radiusAt_115 : decode cX4_radiusAt 115 = .ok (.iconst 1, 1) := by decide +kernel
theorem dX4_radiusAt_116 : decode cX4_radiusAt 116 = .ok (.isub, 1) := by decide +kernel
theorem dX4_radiusAt_117 : decode cX4_radiusAt 117 = .ok (.daload, 1) := by decide +kernel
theorem dX4_radiusAt_118 : decode cX4_radiusAt 118 = .ok (.dsub, 1) := by decide +kernel
theorem dX4_radiusAt_119 : decode cX4_radiusAt 119 = .ok (.aload_n 0, 1) := by decide +kernel
theorem dX4_radiusAt_120 : decode cX4_radiusAt 120 = .ok (.getfield 17, 3) := by decide +kernel
theorem dX4_radiusAt_123 : decode cX4_radiusAt 123 = .ok (.iload 6, 2) := by decide +kernel
theorem dX4_radiusAt_125 : decode cX4_radiusAt 125 = .ok (.daload, 1) := by decide +kernel
theorem dX4_radiusAt_126 : decode cX4_radiusAt 126 = .ok (.aload_n 0, 1) := by decide +kernel
theorem dX4_radiusAt_127 : decode cX4_radiusAt 127 = .ok (.getfield 17, 3) := by decide +kernel
theorem dX4_radiusAt_130 : decode cX4_radiusAt 130 = .ok (.iload 6, 2) := by decide +kernel
theorem dX4_radiusAt_132 : decode cX4_radiusAt 132 = .ok (.iconst 1, 1) := by decide +kernel
theorem dX4_radiusAt_133 : decode cX4_radiusAt 133 = .ok (.isub, 1) := by decide +kernel
theorem dX4_radiusAt_134 : decode cX4_radiusAt 134 = .ok (.daload, 1) := by decide +kernel
theorem dX4_radiusAt_135 : decode cX4_radiusAt 135 = .ok (.dsub, 1) := by decide +kernel
theorem dX4_radiusAt_136 : decode cX4_radiusAt 136 = .ok (.dmul, 1) := by decide +kernel
theorem dX4_radiusAt_137 : decode cX4_radiusAt 137 = .ok (.aload_n 0, 1) := by decide +kernel
theorem dX4_radiusAt_138 : decode cX4_radiusAt 138 = .ok (.getfield 13, 3) := by decide +kernel
theorem dX4_radiusAt_141 : decode cX4_radiusAt 141 = .ok (.iload 6, 2) := by decide +kernel
theorem dX4_radiusAt_143 : decode cX4_radiusAt 143 = .ok (.daload, 1) := by decide +kernel
theorem dX4_radiusAt_144 : decode cX4_radiusAt 144 = .ok (.aload_n 0, 1) := by decide +kernel
theorem dX4_radiusAt_145 : decode cX4_radiusAt 145 = .ok (.getfield 13, 3) := by decide +kernel
theorem dX4_radiusAt_148 : decode cX4_radiusAt 148 = .ok (.iload 6, 2) := by decide +kernel
theorem dX4_radiusAt_150 : decode cX4_radiusAt 150 = .ok (.iconst 1, 1) := by decide +kernel
theorem dX4_radiusAt_151 : decode cX4_radiusAt 151 = .ok (.isub, 1) := by decide +kernel
theorem dX4_radiusAt_152 : decode cX4_radiusAt 152 = .ok (.daload, 1) := by decide +kernel
theorem dX4_radiusAt_153 : decode cX4_radiusAt 153 = .ok (.dsub, 1) := by decide +kernel
theorem dX4_radiusAt_154 : decode cX4_radiusAt 154 = .ok (.ddiv, 1) := by decide +kernel
theorem dX4_radiusAt_155 : decode cX4_radiusAt 155 = .ok (.dadd, 1) := by decide +kernel
theorem dX4_radiusAt_156 : decode cX4_radiusAt 156 = .ok (.dstore 4, 2) := by decide +kernel
theorem dX4_radiusAt_158 : decode cX4_radiusAt 158 = .ok (.iinc 6 1, 3) := by decide +kernel
theorem dX4_radiusAt_161 : decode cX4_radiusAt 161 = .ok (.goto (-147), 3) := by decide +kernel
theorem dX4_radiusAt_164 : decode cX4_radiusAt 164 = .ok (.dload 4, 2) := by decide +kernel
theorem dX4_radiusAt_166 : decode cX4_radiusAt 166 = .ok (.dreturn, 1) := by decide +kernel
theorem dX4_radius_0 : decode cX4_radius 0 = .ok (.aload_n 0, 1) := by decide +kernel
theorem dX4_radius_1 : decode cX4_radius 1 = .ok (.iload_n 1, 1) := by decide +kernel
theorem dX4_radius_2 : decode cX4_radius 2 = .ok (.invokestatic 47, 3) := by decide +kernel
theorem dX4_radius_5 : decode cX4_radius 5 = .ok (.ifCond .ne 7, 3) := by decide +kernel
theorem dX4_radius_8 : decode cX4_radius 8 = .ok (.iconst 1, 1) := by decide +kernel
theorem dX4_radius_9 : decode cX4_radius 9 = .ok (.goto 19, 3) := by decide +kernel
theorem dX4_radius_12 : decode cX4_radius 12 = .ok (.dload_n 2, 1) := by decide +kernel
theorem dX4_radius_13 : decode cX4_radius 13 = .ok (.dconst 0, 1) := by decide +kernel
theorem dX4_radius_14 : decode cX4_radius 14 = .ok (.ldc2_w 53, 3) := by decide +kernel
theorem dX4_radius_17 : decode cX4_radius 17 = .ok (.invokestatic 55, 3) := by decide +kernel
theorem dX4_radius_20 : decode cX4_radius 20 = .ok (.ifCond .eq 7, 3) := by decide +kernel
theorem dX4_radius_23 : decode cX4_radius 23 = .ok (.iconst 0, 1) := by decide +kernel
theorem dX4_radius_24 : decode cX4_radius 24 = .ok (.goto 4, 3) := by decide +kernel
theorem dX4_radius_27 : decode cX4_radius 27 = .ok (.iconst 2, 1) := by decide +kernel
theorem dX4_radius_28 : decode cX4_radius 28 = .ok (.putfield 43, 3) := by decide +kernel
theorem dX4_radius_31 : decode cX4_radius 31 = .ok (.aload_n 0, 1) := by decide +kernel
theorem dX4_radius_32 : decode cX4_radius 32 = .ok (.getfield 43, 3) := by decide +kernel
theorem dX4_radius_35 : decode cX4_radius 35 = .ok (.ifCond .le 5, 3) := by decide +kernel
theorem dX4_radius_38 : decode cX4_radius 38 = .ok (.dconst 0, 1) := by decide +kernel
theorem dX4_radius_39 : decode cX4_radius 39 = .ok (.dreturn, 1) := by decide +kernel
theorem dX4_radius_40 : decode cX4_radius 40 = .ok (.aload_n 0, 1) := by decide +kernel
theorem dX4_radius_41 : decode cX4_radius 41 = .ok (.iload_n 1, 1) := by decide +kernel
theorem dX4_radius_42 : decode cX4_radius 42 = .ok (.dload_n 2, 1) := by decide +kernel
theorem dX4_radius_43 : decode cX4_radius 43 = .ok (.invokevirtual 65, 3) := by decide +kernel
theorem dX4_radius_46 : decode cX4_radius 46 = .ok (.dstore 4, 2) := by decide +kernel
theorem dX4_radius_48 : decode cX4_radius 48 = .ok (.aload_n 0, 1) := by decide +kernel
theorem dX4_radius_49 : decode cX4_radius 49 = .ok (.aload_n 0, 1) := by decide +kernel
theorem dX4_radius_50 : decode cX4_radius 50 = .ok (.getfield 61, 3) := by decide +kernel
theorem dX4_radius_53 : decode cX4_radius 53 = .ok (.ifCond .eq 7, 3) := by decide +kernel
theorem dX4_radius_56 : decode cX4_radius 56 = .ok (.iconst 0, 1) := by decide +kernel
theorem dX4_radius_57 : decode cX4_radius 57 = .ok (.goto 4, 3) := by decide +kernel
theorem dX4_radius_60 : decode cX4_radius 60 = .ok (.iconst 3, 1) := by decide +kernel
theorem dX4_radius_61 : decode cX4_radius 61 = .ok (.putfield 43, 3) := by decide +kernel
theorem dX4_radius_64 : decode cX4_radius 64 = .ok (.aload_n 0, 1) := by decide +kernel
theorem dX4_radius_65 : decode cX4_radius 65 = .ok (.getfield 43, 3) := by decide +kernel
theorem dX4_radius_68 : decode cX4_radius 68 = .ok (.ifCond .le 7, 3) := by decide +kernel
theorem dX4_radius_71 : decode cX4_radius 71 = .ok (.dconst 0, 1) := by decide +kernel
theorem dX4_radius_72 : decode cX4_radius 72 = .ok (.goto 5, 3) := by decide +kernel
theorem dX4_radius_75 : decode cX4_radius 75 = .ok (.dload 4, 2) := by decide +kernel
theorem dX4_radius_77 : decode cX4_radius 77 = .ok (.dreturn, 1) := by decide +kernel
theorem dX4_strips_0 : decode cX4_strips 0 = .ok (.aload_n 0, 1) := by decide +kernel
theorem dX4_strips_1 : decode cX4_strips 1 = .ok (.iload_n 1, 1) := by decide +kernel
theorem dX4_strips_2 : decode cX4_strips 2 = .ok (.invokestatic 47, 3) := by decide +kernel
theorem dX4_strips_5 : decode cX4_strips 5 = .ok (.ifCond .ne 7, 3) := by decide +kernel
theorem dX4_strips_8 : decode cX4_strips 8 = .ok (.iconst 1, 1) := by decide +kernel
theorem dX4_strips_9 : decode cX4_strips 9 = .ok (.goto 35, 3) := by decide +kernel
theorem dX4_strips_12 : decode cX4_strips 12 = .ok (.dload_n 2, 1) := by decide +kernel
theorem dX4_strips_13 : decode cX4_strips 13 = .ok (.ldc2_w 51, 3) := by decide +kernel
theorem dX4_strips_16 : decode cX4_strips 16 = .ok (.ldc2_w 59, 3) := by decide +kernel
theorem dX4_strips_19 : decode cX4_strips 19 = .ok (.invokestatic 55, 3) := by decide +kernel
theorem dX4_strips_22 : decode cX4_strips 22 = .ok (.ifCond .eq 21, 3) := by decide +kernel
theorem dX4_strips_25 : decode cX4_strips 25 = .ok (.dload 4, 2) := by decide +kernel
theorem dX4_strips_27 : decode cX4_strips 27 = .ok (.ldc2_w 51, 3) := by decide +kernel
theorem dX4_strips_30 : decode cX4_strips 30 = .ok (.ldc2_w 59, 3) := by decide +kernel
theorem dX4_strips_33 : decode cX4_strips 33 = .ok (.invokestatic 55, 3) := by decide +kernel
theorem dX4_strips_36 : decode cX4_strips 36 = .ok (.ifCond .eq 7, 3) := by decide +kernel
theorem dX4_strips_39 : decode cX4_strips 39 = .ok (.iconst 0, 1) := by decide +kernel
theorem dX4_strips_40 : decode cX4_strips 40 = .ok (.goto 4, 3) := by decide +kernel
theorem dX4_strips_43 : decode cX4_strips 43 = .ok (.iconst 2, 1) := by decide +kernel
theorem dX4_strips_44 : decode cX4_strips 44 = .ok (.putfield 43, 3) := by decide +kernel
theorem dX4_strips_47 : decode cX4_strips 47 = .ok (.iconst 1, 1) := by decide +kernel
theorem dX4_strips_48 : decode cX4_strips 48 = .ok (.istore 6, 2) := by decide +kernel
theorem dX4_strips_50 : decode cX4_strips 50 = .ok (.iload 6, 2) := by decide +kernel
theorem dX4_strips_52 : decode cX4_strips 52 = .ok (.bipush 100, 2) := by decide +kernel
theorem dX4_strips_54 : decode cX4_strips 54 = .ok (.if_icmp .gt 46, 3) := by decide +kernel
theorem dX4_strips_57 : decode cX4_strips 57 = .ok (.aload_n 0, 1) := by decide +kernel
theorem dX4_strips_58 : decode cX4_strips 58 = .ok (.getfield 43, 3) := by decide +kernel
theorem dX4_strips_61 : decode cX4_strips 61 = .ok (.ifCond .ne 39, 3) := by decide +kernel
theorem dX4_strips_64 : decode cX4_strips 64 = .ok (.aload_n 0, 1) := by decide +kernel
theorem dX4_strips_65 : decode cX4_strips 65 = .ok (.iload_n 1, 1) := by decide +kernel
theorem dX4_strips_66 : decode cX4_strips 66 = .ok (.dload_n 2, 1) := by decide +kernel
theorem dX4_strips_67 : decode cX4_strips 67 = .ok (.iload 6, 2) := by decide +kernel
theorem dX4_strips_69 : decode cX4_strips 69 = .ok (.i2d, 1) := by decide +kernel
theorem dX4_strips_70 : decode cX4_strips 70 = .ok (.ddiv, 1) := by decide +kernel
theorem dX4_strips_71 : decode cX4_strips 71 = .ok (.invokevirtual 65, 3) := by decide +kernel
theorem dX4_strips_74 : decode cX4_strips 74 = .ok (.dstore 7, 2) := by decide +kernel
theorem dX4_strips_76 : decode cX4_strips 76 = .ok (.aload_n 0, 1) := by decide +kernel
theorem dX4_strips_77 : decode cX4_strips 77 = .ok (.getfield 61, 3) := by decide +kernel
theorem dX4_strips_80 : decode cX4_strips 80 = .ok (.ifCond .eq 14, 3) := by decide +kernel
theorem dX4_strips_83 : decode cX4_strips 83 = .ok (.dload 7, 2) := by decide +kernel
theorem dX4_strips_85 : decode cX4_strips 85 = .ok (.dload 4, 2) := by decide +kernel
theorem dX4_strips_87 : decode cX4_strips 87 = .ok (.dcmp .g, 1) := by decide +kernel
theorem dX4_strips_88 : decode cX4_strips 88 = .ok (.ifCond .gt 6, 3) := by decide +kernel
theorem dX4_strips_91 : decode cX4_strips 91 = .ok (.iload 6, 2) := by decide +kernel
theorem dX4_strips_93 : decode cX4_strips 93 = .ok (.ireturn, 1) := by decide +kernel
theorem dX4_strips_94 : decode cX4_strips 94 = .ok (.iinc 6 1, 3) := by decide +kernel
theorem dX4_strips_97 : decode cX4_strips 97 = .ok (.goto (-47), 3) := by decide +kernel
theorem dX4_strips_100 : decode cX4_strips 100 = .ok (.aload_n 0, 1) := by decide +kernel
theorem dX4_strips_101 : decode cX4_strips 101 = .ok (.getfield 43, 3) := by decide +kernel
theorem dX4_strips_104 : decode cX4_strips 104 = .ok (.ifCond .le 7, 3) := by decide +kernel
theorem dX4_strips_107 : decode cX4_strips 107 = .ok (.iconst 0, 1) := by decide +kernel
theorem dX4_strips_108 : decode cX4_strips 108 = .ok (.goto 4, 3) := by decide +kernel
theorem dX4_strips_111 : decode cX4_strips 111 = .ok (.iconst (-1), 1) := by decide +kernel
theorem dX4_strips_112 : decode cX4_strips 112 = .ok (.ireturn, 1) := by decide +kernel
theorem dX4_read_0 : decode cX4_read 0 = .ok (.aload_n 0, 1) := by decide +kernel
theorem dX4_read_1 : decode cX4_read 1 = .ok (.iload_n 1, 1) := by decide +kernel
theorem dX4_read_2 : decode cX4_read 2 = .ok (.invokestatic 47, 3) := by decide +kernel
theorem dX4_read_5 : decode cX4_read 5 = .ok (.ifCond .ne 7, 3) := by decide +kernel
theorem dX4_read_8 : decode cX4_read 8 = .ok (.iconst 1, 1) := by decide +kernel
theorem dX4_read_9 : decode cX4_read 9 = .ok (.goto 48, 3) := by decide +kernel
theorem dX4_read_12 : decode cX4_read 12 = .ok (.dload_n 2, 1) := by decide +kernel
theorem dX4_read_13 : decode cX4_read 13 = .ok (.ldc2_w 51, 3) := by decide +kernel
theorem dX4_read_16 : decode cX4_read 16 = .ok (.ldc2_w 59, 3) := by decide +kernel
theorem dX4_read_19 : decode cX4_read 19 = .ok (.invokestatic 55, 3) := by decide +kernel
theorem dX4_read_22 : decode cX4_read 22 = .ok (.ifCond .eq 15, 3) := by decide +kernel
theorem dX4_read_25 : decode cX4_read 25 = .ok (.dload 4, 2) := by decide +kernel
theorem dX4_read_27 : decode cX4_read 27 = .ok (.dload_n 2, 1) := by decide +kernel
theorem dX4_read_28 : decode cX4_read 28 = .ok (.ldc2_w 69, 3) := by decide +kernel
theorem dX4_read_31 : decode cX4_read 31 = .ok (.invokestatic 55, 3) := by decide +kernel
theorem dX4_read_34 : decode cX4_read 34 = .ok (.ifCond .ne 7, 3) := by decide +kernel
theorem dX4_read_37 : decode cX4_read 37 = .ok (.iconst 2, 1) := by decide +kernel
theorem dX4_read_38 : decode cX4_read 38 = .ok (.goto 19, 3) := by decide +kernel
theorem dX4_read_41 : decode cX4_read 41 = .ok (.aload_n 0, 1) := by decide +kernel
theorem dX4_read_42 : decode cX4_read 42 = .ok (.getfield 20, 3) := by decide +kernel
theorem dX4_read_45 : decode cX4_read 45 = .ok (.iload_n 1, 1) := by decide +kernel
theorem dX4_read_46 : decode cX4_read 46 = .ok (.iaload, 1) := by decide +kernel
theorem dX4_read_47 : decode cX4_read 47 = .ok (.bipush 20, 2) := by decide +kernel
theorem dX4_read_49 : decode cX4_read 49 = .ok (.if_icmp .ne 7, 3) := by decide +kernel
theorem dX4_read_52 : decode cX4_read 52 = .ok (.iconst 3, 1) := by decide +kernel
theorem dX4_read_53 : decode cX4_read 53 = .ok (.goto 4, 3) := by decide +kernel
theorem dX4_read_56 : decode cX4_read 56 = .ok (.iconst 0, 1) := by decide +kernel
theorem dX4_read_57 : decode cX4_read 57 = .ok (.putfield 43, 3) := by decide +kernel
theorem dX4_read_60 : decode cX4_read 60 = .ok (.aload_n 0, 1) := by decide +kernel
theorem dX4_read_61 : decode cX4_read 61 = .ok (.getfield 43, 3) := by decide +kernel
theorem dX4_read_64 : decode cX4_read 64 = .ok (.ifCond .le 5, 3) := by decide +kernel
theorem dX4_read_67 : decode cX4_read 67 = .ok (.iconst 0, 1) := by decide +kernel
theorem dX4_read_68 : decode cX4_read 68 = .ok (.ireturn, 1) := by decide +kernel
theorem dX4_read_69 : decode cX4_read 69 = .ok (.bipush 20, 2) := by decide +kernel
theorem dX4_read_71 : decode cX4_read 71 = .ok (.iload_n 1, 1) := by decide +kernel
theorem dX4_read_72 : decode cX4_read 72 = .ok (.imul, 1) := by decide +kernel
theorem dX4_read_73 : decode cX4_read 73 = .ok (.aload_n 0, 1) := by decide +kernel
theorem dX4_read_74 : decode cX4_read 74 = .ok (.getfield 20, 3) := by decide +kernel
theorem dX4_read_77 : decode cX4_read 77 = .ok (.iload_n 1, 1) := by decide +kernel
theorem dX4_read_78 : decode cX4_read 78 = .ok (.iaload, 1) := by decide +kernel
theorem dX4_read_79 : decode cX4_read 79 = .ok (.iadd, 1) := by decide +kernel
theorem dX4_read_80 : decode cX4_read 80 = .ok (.istore 6, 2) := by decide +kernel
theorem dX4_read_82 : decode cX4_read 82 = .ok (.aload_n 0, 1) := by decide +kernel
theorem dX4_read_83 : decode cX4_read 83 = .ok (.getfield 23, 3) := by decide +kernel
theorem dX4_read_86 : decode cX4_read 86 = .ok (.iload 6, 2) := by decide +kernel
theorem dX4_read_88 : decode cX4_read 88 = .ok (.dload_n 2, 1) := by decide +kernel
theorem dX4_read_89 : decode cX4_read 89 = .ok (.dastore, 1) := by decide +kernel
theorem dX4_read_90 : decode cX4_read 90 = .ok (.aload_n 0, 1) := by decide +kernel
theorem dX4_read_91 : decode cX4_read 91 = .ok (.getfield 26, 3) := by decide +kernel
theorem dX4_read_94 : decode cX4_read 94 = .ok (.iload 6, 2) := by decide +kernel
theorem dX4_read_96 : decode cX4_read 96 = .ok (.dload 4, 2) := by decide +kernel
theorem dX4_read_98 : decode cX4_read 98 = .ok (.dastore, 1) := by decide +kernel
theorem dX4_read_99 : decode cX4_read 99 = .ok (.aload_n 0, 1) := by decide +kernel
theorem dX4_read_100 : decode cX4_read 100 = .ok (.getfield 20, 3) := by decide +kernel
theorem dX4_read_103 : decode cX4_read 103 = .ok (.iload_n 1, 1) := by decide +kernel
theorem dX4_read_104 : decode cX4_read 104 = .ok (.dup2, 1) := by decide +kernel
theorem dX4_read_105 : decode cX4_read 105 = .ok (.iaload, 1) := by decide +kernel
theorem dX4_read_106 : decode cX4_read 106 = .ok (.iconst 1, 1) := by decide +kernel
theorem dX4_read_107 : decode cX4_read 107 = .ok (.iadd, 1) := by decide +kernel
theorem dX4_read_108 : decode cX4_read 108 = .ok (.iastore, 1) := by decide +kernel
theorem dX4_read_109 : decode cX4_read 109 = .ok (.aload_n 0, 1) := by decide +kernel
theorem dX4_read_110 : decode cX4_read 110 = .ok (.getfield 20, 3) := by decide +kernel
theorem dX4_read_113 : decode cX4_read 113 = .ok (.iload_n 1, 1) := by decide +kernel
theorem dX4_read_114 : decode cX4_read 114 = .ok (.iaload, 1) := by decide +kernel
theorem dX4_read_115 : decode cX4_read 115 = .ok (.ireturn, 1) := by decide +kernel
theorem dX4_residue_0 : decode cX4_residue 0 = .ok (.dconst 0, 1) := by decide +kernel
theorem dX4_residue_1 : decode cX4_residue 1 = .ok (.dstore 4, 2) := by decide +kernel
theorem dX4_residue_3 : decode cX4_residue 3 = .ok (.bipush 20, 2) := by decide +kernel
theorem dX4_residue_5 : decode cX4_residue 5 = .ok (.iload_n 1, 1) := by decide +kernel
theorem dX4_residue_6 : decode cX4_residue 6 = .ok (.imul, 1) := by decide +kernel
theorem dX4_residue_7 : decode cX4_residue 7 = .ok (.istore 6, 2) := by decide +kernel
theorem dX4_residue_9 : decode cX4_residue 9 = .ok (.iload 6, 2) := by decide +kernel
theorem dX4_residue_11 : decode cX4_residue 11 = .ok (.bipush 20, 2) := by decide +kernel
theorem dX4_residue_13 : decode cX4_residue 13 = .ok (.iload_n 1, 1) := by decide +kernel
theorem dX4_residue_14 : decode cX4_residue 14 = .ok (.imul, 1) := by decide +kernel
theorem dX4_residue_15 : decode cX4_residue 15 = .ok (.aload_n 0, 1) := by decide +kernel
theorem dX4_residue_16 : decode cX4_residue 16 = .ok (.getfield 20, 3) := by decide +kernel
theorem dX4_residue_19 : decode cX4_residue 19 = .ok (.iload_n 1, 1) := by decide +kernel
theorem dX4_residue_20 : decode cX4_residue 20 = .ok (.iaload, 1) := by decide +kernel
theorem dX4_residue_21 : decode cX4_residue 21 = .ok (.iadd, 1) := by decide +kernel
theorem dX4_residue_22 : decode cX4_residue 22 = .ok (.if_icmp .ge 40, 3) := by decide +kernel
theorem dX4_residue_25 : decode cX4_residue 25 = .ok (.aload_n 0, 1) := by decide +kernel
theorem dX4_residue_26 : decode cX4_residue 26 = .ok (.getfield 26, 3) := by decide +kernel
theorem dX4_residue_29 : decode cX4_residue 29 = .ok (.iload 6, 2) := by decide +kernel
theorem dX4_residue_31 : decode cX4_residue 31 = .ok (.daload, 1) := by decide +kernel
theorem dX4_residue_32 : decode cX4_residue 32 = .ok (.aload_n 0, 1) := by decide +kernel
theorem dX4_residue_33 : decode cX4_residue 33 = .ok (.getfield 23, 3) := by decide +kernel
theorem dX4_residue_36 : decode cX4_residue 36 = .ok (.iload 6, 2) := by decide +kernel
theorem dX4_residue_38 : decode cX4_residue 38 = .ok (.daload, 1) := by decide +kernel
theorem dX4_residue_39 : decode cX4_residue 39 = .ok (.dconst 1, 1) := by decide +kernel
theorem dX4_residue_40 : decode cX4_residue 40 = .ok (.dload_n 2, 1) := by decide +kernel
theorem dX4_residue_41 : decode cX4_residue 41 = .ok (.dadd, 1) := by decide +kernel
theorem dX4_residue_42 : decode cX4_residue 42 = .ok (.dmul, 1) := by decide +kernel
theorem dX4_residue_43 : decode cX4_residue 43 = .ok (.dsub, 1) := by decide +kernel
theorem dX4_residue_44 : decode cX4_residue 44 = .ok (.dstore 7, 2) := by decide +kernel
theorem dX4_residue_46 : decode cX4_residue 46 = .ok (.dload 4, 2) := by decide +kernel
theorem dX4_residue_48 : decode cX4_residue 48 = .ok (.dload 7, 2) := by decide +kernel
theorem dX4_residue_50 : decode cX4_residue 50 = .ok (.dload 7, 2) := by decide +kernel
theorem dX4_residue_52 : decode cX4_residue 52 = .ok (.dmul, 1) := by decide +kernel
theorem dX4_residue_53 : decode cX4_residue 53 = .ok (.dadd, 1) := by decide +kernel
theorem dX4_residue_54 : decode cX4_residue 54 = .ok (.dstore 4, 2) := by decide +kernel
theorem dX4_residue_56 : decode cX4_residue 56 = .ok (.iinc 6 1, 3) := by decide +kernel
theorem dX4_residue_59 : decode cX4_residue 59 = .ok (.goto (-50), 3) := by decide +kernel
theorem dX4_residue_62 : decode cX4_residue 62 = .ok (.dload 4, 2) := by decide +kernel
theorem dX4_residue_64 : decode cX4_residue 64 = .ok (.dreturn, 1) := by decide +kernel
theorem dX4_improves_0 : decode cX4_improves 0 = .ok (.aload_n 0, 1) := by decide +kernel
theorem dX4_improves_1 : decode cX4_improves 1 = .ok (.getfield 29, 3) := by decide +kernel
theorem dX4_improves_4 : decode cX4_improves 4 = .ok (.iload_n 1, 1) := by decide +kernel
theorem dX4_improves_5 : decode cX4_improves 5 = .ok (.daload, 1) := by decide +kernel
theorem dX4_improves_6 : decode cX4_improves 6 = .ok (.dstore_n 2, 1) := by decide +kernel
theorem dX4_improves_7 : decode cX4_improves 7 = .ok (.aload_n 0, 1) := by decide +kernel
theorem dX4_improves_8 : decode cX4_improves 8 = .ok (.getfield 32, 3) := by decide +kernel
theorem dX4_improves_11 : decode cX4_improves 11 = .ok (.iload_n 1, 1) := by decide +kernel
theorem dX4_improves_12 : decode cX4_improves 12 = .ok (.daload, 1) := by decide +kernel
theorem dX4_improves_13 : decode cX4_improves 13 = .ok (.dstore 4, 2) := by decide +kernel
theorem dX4_improves_15 : decode cX4_improves 15 = .ok (.aload_n 0, 1) := by decide +kernel
theorem dX4_improves_16 : decode cX4_improves 16 = .ok (.iload_n 1, 1) := by decide +kernel
theorem dX4_improves_17 : decode cX4_improves 17 = .ok (.dload_n 2, 1) := by decide +kernel
theorem dX4_improves_18 : decode cX4_improves 18 = .ok (.invokevirtual 71, 3) := by decide +kernel
theorem dX4_improves_21 : decode cX4_improves 21 = .ok (.dstore 6, 2) := by decide +kernel
theorem dX4_improves_23 : decode cX4_improves 23 = .ok (.aload_n 0, 1) := by decide +kernel
theorem dX4_improves_24 : decode cX4_improves 24 = .ok (.iload_n 1, 1) := by decide +kernel
theorem dX4_improves_25 : decode cX4_improves 25 = .ok (.dload_n 2, 1) := by decide +kernel
theorem dX4_improves_26 : decode cX4_improves 26 = .ok (.dload 4, 2) := by decide +kernel
theorem dX4_improves_28 : decode cX4_improves 28 = .ok (.dadd, 1) := by decide +kernel
theorem dX4_improves_29 : decode cX4_improves 29 = .ok (.invokevirtual 71, 3) := by decide +kernel
theorem dX4_improves_32 : decode cX4_improves 32 = .ok (.dload 6, 2) := by decide +kernel
theorem dX4_improves_34 : decode cX4_improves 34 = .ok (.dcmp .g, 1) := by decide +kernel
theorem dX4_improves_35 : decode cX4_improves 35 = .ok (.ifCond .ge 15, 3) := by decide +kernel
theorem dX4_improves_38 : decode cX4_improves 38 = .ok (.aload_n 0, 1) := by decide +kernel
theorem dX4_improves_39 : decode cX4_improves 39 = .ok (.getfield 29, 3) := by decide +kernel
theorem dX4_improves_42 : decode cX4_improves 42 = .ok (.iload_n 1, 1) := by decide +kernel
theorem dX4_improves_43 : decode cX4_improves 43 = .ok (.dload_n 2, 1) := by decide +kernel
theorem dX4_improves_44 : decode cX4_improves 44 = .ok (.dload 4, 2) := by decide +kernel
theorem dX4_improves_46 : decode cX4_improves 46 = .ok (.dadd, 1) := by decide +kernel
theorem dX4_improves_47 : decode cX4_improves 47 = .ok (.dastore, 1) := by decide +kernel
theorem dX4_improves_48 : decode cX4_improves 48 = .ok (.iconst 1, 1) := by decide +kernel
theorem dX4_improves_49 : decode cX4_improves 49 = .ok (.ireturn, 1) := by decide +kernel
theorem dX4_improves_50 : decode cX4_improves 50 = .ok (.dload_n 2, 1) := by decide +kernel
theorem dX4_improves_51 : decode cX4_improves 51 = .ok (.dload 4, 2) := by decide +kernel
theorem dX4_improves_53 : decode cX4_improves 53 = .ok (.dsub, 1) := by decide +kernel
theorem dX4_improves_54 : decode cX4_improves 54 = .ok (.dconst 0, 1) := by decide +kernel
theorem dX4_improves_55 : decode cX4_improves 55 = .ok (.dcmp .l, 1) := by decide +kernel
theorem dX4_improves_56 : decode cX4_improves 56 = .ok (.ifCond .lt 30, 3) := by decide +kernel
theorem dX4_improves_59 : decode cX4_improves 59 = .ok (.aload_n 0, 1) := by decide +kernel
theorem dX4_improves_60 : decode cX4_improves 60 = .ok (.iload_n 1, 1) := by decide +kernel
theorem dX4_improves_61 : decode cX4_improves 61 = .ok (.dload_n 2, 1) := by decide +kernel
theorem dX4_improves_62 : decode cX4_improves 62 = .ok (.dload 4, 2) := by decide +kernel
theorem dX4_improves_64 : decode cX4_improves 64 = .ok (.dsub, 1) := by decide +kernel
theorem dX4_improves_65 : decode cX4_improves 65 = .ok (.invokevirtual 71, 3) := by decide +kernel
theorem dX4_improves_68 : decode cX4_improves 68 = .ok (.dload 6, 2) := by decide +kernel
theorem dX4_improves_70 : decode cX4_improves 70 = .ok (.dcmp .g, 1) := by decide +kernel
theorem dX4_improves_71 : decode cX4_improves 71 = .ok (.ifCond .ge 15, 3) := by decide +kernel
theorem dX4_improves_74 : decode cX4_improves 74 = .ok (.aload_n 0, 1) := by decide +kernel
theorem dX4_improves_75 : decode cX4_improves 75 = .ok (.getfield 29, 3) := by decide +kernel
theorem dX4_improves_78 : decode cX4_improves 78 = .ok (.iload_n 1, 1) := by decide +kernel
theorem dX4_improves_79 : decode cX4_improves 79 = .ok (.dload_n 2, 1) := by decide +kernel
theorem dX4_improves_80 : decode cX4_improves 80 = .ok (.dload 4, 2) := by decide +kernel
theorem dX4_improves_82 : decode cX4_improves 82 = .ok (.dsub, 1) := by decide +kernel
theorem dX4_improves_83 : decode cX4_improves 83 = .ok (.dastore, 1) := by decide +kernel
theorem dX4_improves_84 : decode cX4_improves 84 = .ok (.iconst 1, 1) := by decide +kernel
theorem dX4_improves_85 : decode cX4_improves 85 = .ok (.ireturn, 1) := by decide +kernel
theorem dX4_improves_86 : decode cX4_improves 86 = .ok (.aload_n 0, 1) := by decide +kernel
theorem dX4_improves_87 : decode cX4_improves 87 = .ok (.getfield 32, 3) := by decide +kernel
theorem dX4_improves_90 : decode cX4_improves 90 = .ok (.iload_n 1, 1) := by decide +kernel
theorem dX4_improves_91 : decode cX4_improves 91 = .ok (.dload 4, 2) := by decide +kernel
theorem dX4_improves_93 : decode cX4_improves 93 = .ok (.ldc2_w 74, 3) := by decide +kernel
theorem dX4_improves_96 : decode cX4_improves 96 = .ok (.ddiv, 1) := by decide +kernel
theorem dX4_improves_97 : decode cX4_improves 97 = .ok (.dastore, 1) := by decide +kernel
theorem dX4_improves_98 : decode cX4_improves 98 = .ok (.iconst 0, 1) := by decide +kernel
theorem dX4_improves_99 : decode cX4_improves 99 = .ok (.ireturn, 1) := by decide +kernel
theorem dX4_fit_0 : decode cX4_fit 0 = .ok (.aload_n 0, 1) := by decide +kernel
theorem dX4_fit_1 : decode cX4_fit 1 = .ok (.iload_n 1, 1) := by decide +kernel
theorem dX4_fit_2 : decode cX4_fit 2 = .ok (.invokestatic 47, 3) := by decide +kernel
theorem dX4_fit_5 : decode cX4_fit 5 = .ok (.ifCond .ne 7, 3) := by decide +kernel
theorem dX4_fit_8 : decode cX4_fit 8 = .ok (.iconst 1, 1) := by decide +kernel
theorem dX4_fit_9 : decode cX4_fit 9 = .ok (.goto 18, 3) := by decide +kernel
theorem dX4_fit_12 : decode cX4_fit 12 = .ok (.iload_n 2, 1) := by decide +kernel
theorem dX4_fit_13 : decode cX4_fit 13 = .ok (.ifCond .lt 9, 3) := by decide +kernel
theorem dX4_fit_16 : decode cX4_fit 16 = .ok (.iload_n 2, 1) := by decide +kernel
theorem dX4_fit_17 : decode cX4_fit 17 = .ok (.bipush 100, 2) := by decide +kernel
theorem dX4_fit_19 : decode cX4_fit 19 = .ok (.if_icmp .le 7, 3) := by decide +kernel
theorem dX4_fit_22 : decode cX4_fit 22 = .ok (.iconst 2, 1) := by decide +kernel
theorem dX4_fit_23 : decode cX4_fit 23 = .ok (.goto 4, 3) := by decide +kernel
theorem dX4_fit_26 : decode cX4_fit 26 = .ok (.iconst 0, 1) := by decide +kernel
theorem dX4_fit_27 : decode cX4_fit 27 = .ok (.putfield 43, 3) := by decide +kernel
theorem dX4_fit_30 : decode cX4_fit 30 = .ok (.iconst 0, 1) := by decide +kernel
theorem dX4_fit_31 : decode cX4_fit 31 = .ok (.istore_n 3, 1) := by decide +kernel
theorem dX4_fit_32 : decode cX4_fit 32 = .ok (.iconst 0, 1) := by decide +kernel
theorem dX4_fit_33 : decode cX4_fit 33 = .ok (.istore 4, 2) := by decide +kernel
theorem dX4_fit_35 : decode cX4_fit 35 = .ok (.iload 4, 2) := by decide +kernel
theorem dX4_fit_37 : decode cX4_fit 37 = .ok (.iload_n 2, 1) := by decide +kernel
theorem dX4_fit_38 : decode cX4_fit 38 = .ok (.if_icmp .ge 32, 3) := by decide +kernel
theorem dX4_fit_41 : decode cX4_fit 41 = .ok (.aload_n 0, 1) := by decide +kernel
theorem dX4_fit_42 : decode cX4_fit 42 = .ok (.getfield 43, 3) := by decide +kernel
theorem dX4_fit_45 : decode cX4_fit 45 = .ok (.ifCond .ne 25, 3) := by decide +kernel
theorem dX4_fit_48 : decode cX4_fit 48 = .ok (.aload_n 0, 1) := by decide +kernel
theorem dX4_fit_49 : decode cX4_fit 49 = .ok (.iload_n 1, 1) := by decide +kernel
theorem dX4_fit_50 : decode cX4_fit 50 = .ok (.invokevirtual 76, 3) := by decide +kernel
theorem dX4_fit_53 : decode cX4_fit 53 = .ok (.ifCond .eq 9, 3) := by decide +kernel
theorem dX4_fit_56 : decode cX4_fit 56 = .ok (.iload_n 3, 1) := by decide +kernel
theorem dX4_fit_57 : decode cX4_fit 57 = .ok (.iconst 1, 1) := by decide +kernel
theorem dX4_fit_58 : decode cX4_fit 58 = .ok (.iadd, 1) := by decide +kernel
theorem dX4_fit_59 : decode cX4_fit 59 = .ok (.goto 4, 3) := by decide +kernel
theorem dX4_fit_62 : decode cX4_fit 62 = .ok (.iload_n 3, 1) := by decide +kernel
theorem dX4_fit_63 : decode cX4_fit 63 = .ok (.istore_n 3, 1) := by decide +kernel
theorem dX4_fit_64 : decode cX4_fit 64 = .ok (.iinc 4 1, 3) := by decide +kernel
theorem dX4_fit_67 : decode cX4_fit 67 = .ok (.goto (-32), 3) := by decide +kernel
theorem dX4_fit_70 : decode cX4_fit 70 = .ok (.iload_n 3, 1) := by decide +kernel
theorem dX4_fit_71 : decode cX4_fit 71 = .ok (.ireturn, 1) := by decide +kernel
theorem dX4_back_0 : decode cX4_back 0 = .ok (.aload_n 0, 1) := by decide +kernel
theorem dX4_back_1 : decode cX4_back 1 = .ok (.iload_n 1, 1) := by decide +kernel
theorem dX4_back_2 : decode cX4_back 2 = .ok (.invokestatic 47, 3) := by decide +kernel
theorem dX4_back_5 : decode cX4_back 5 = .ok (.ifCond .eq 16, 3) := by decide +kernel
theorem dX4_back_8 : decode cX4_back 8 = .ok (.iload_n 2, 1) := by decide +kernel
theorem dX4_back_9 : decode cX4_back 9 = .ok (.ifCond .lt 12, 3) := by decide +kernel
theorem dX4_back_12 : decode cX4_back 12 = .ok (.iload_n 2, 1) := by decide +kernel
theorem dX4_back_13 : decode cX4_back 13 = .ok (.iconst 2, 1) := by decide +kernel
theorem dX4_back_14 : decode cX4_back 14 = .ok (.if_icmp .gt 7, 3) := by decide +kernel
theorem dX4_back_17 : decode cX4_back 17 = .ok (.iconst 0, 1) := by decide +kernel
theorem dX4_back_18 : decode cX4_back 18 = .ok (.goto 4, 3) := by decide +kernel
theorem dX4_back_21 : decode cX4_back 21 = .ok (.iconst 1, 1) := by decide +kernel
theorem dX4_back_22 : decode cX4_back 22 = .ok (.putfield 43, 3) := by decide +kernel
theorem dX4_back_25 : decode cX4_back 25 = .ok (.aload_n 0, 1) := by decide +kernel
theorem dX4_back_26 : decode cX4_back 26 = .ok (.getfield 43, 3) := by decide +kernel
theorem dX4_back_29 : decode cX4_back 29 = .ok (.ifCond .le 5, 3) := by decide +kernel
theorem dX4_back_32 : decode cX4_back 32 = .ok (.dconst 0, 1) := by decide +kernel
theorem dX4_back_33 : decode cX4_back 33 = .ok (.dreturn, 1) := by decide +kernel
theorem dX4_back_34 : decode cX4_back 34 = .ok (.iload_n 2, 1) := by decide +kernel
theorem dX4_back_35 : decode cX4_back 35 = .ok (.ifCond .ne 12, 3) := by decide +kernel
theorem dX4_back_38 : decode cX4_back 38 = .ok (.aload_n 0, 1) := by decide +kernel
theorem dX4_back_39 : decode cX4_back 39 = .ok (.getfield 29, 3) := by decide +kernel
theorem dX4_back_42 : decode cX4_back 42 = .ok (.iload_n 1, 1) := by decide +kernel
theorem dX4_back_43 : decode cX4_back 43 = .ok (.daload, 1) := by decide +kernel
theorem dX4_back_44 : decode cX4_back 44 = .ok (.goto 28, 3) := by decide +kernel
theorem dX4_back_47 : decode cX4_back 47 = .ok (.iload_n 2, 1) := by decide +kernel
theorem dX4_back_48 : decode cX4_back 48 = .ok (.iconst 1, 1) := by decide +kernel
theorem dX4_back_49 : decode cX4_back 49 = .ok (.if_icmp .ne 12, 3) := by decide +kernel
theorem dX4_back_52 : decode cX4_back 52 = .ok (.aload_n 0, 1) := by decide +kernel
theorem dX4_back_53 : decode cX4_back 53 = .ok (.getfield 32, 3) := by decide +kernel
theorem dX4_back_56 : decode cX4_back 56 = .ok (.iload_n 1, 1) := by decide +kernel
theorem dX4_back_57 : decode cX4_back 57 = .ok (.daload, 1) := by decide +kernel
theorem dX4_back_58 : decode cX4_back 58 = .ok (.goto 14, 3) := by decide +kernel
theorem dX4_back_61 : decode cX4_back 61 = .ok (.aload_n 0, 1) := by decide +kernel
theorem dX4_back_62 : decode cX4_back 62 = .ok (.iload_n 1, 1) := by decide +kernel
theorem dX4_back_63 : decode cX4_back 63 = .ok (.aload_n 0, 1) := by decide +kernel
theorem dX4_back_64 : decode cX4_back 64 = .ok (.getfield 29, 3) := by decide +kernel
theorem dX4_back_67 : decode cX4_back 67 = .ok (.iload_n 1, 1) := by decide +kernel
theorem dX4_back_68 : decode cX4_back 68 = .ok (.daload, 1) := by decide +kernel
theorem dX4_back_69 : decode cX4_back 69 = .ok (.invokevirtual 71, 3) := by decide +kernel
theorem dX4_back_72 : decode cX4_back 72 = .ok (.dreturn, 1) := by decide +kernel
theorem dX4_form_0 : decode cX4_form 0 = .ok (.aload_n 0, 1) := by decide +kernel
theorem dX4_form_1 : decode cX4_form 1 = .ok (.iload_n 1, 1) := by decide +kernel
theorem dX4_form_2 : decode cX4_form 2 = .ok (.invokestatic 47, 3) := by decide +kernel
theorem dX4_form_5 : decode cX4_form 5 = .ok (.ifCond .ne 7, 3) := by decide +kernel
theorem dX4_form_8 : decode cX4_form 8 = .ok (.iconst 1, 1) := by decide +kernel
theorem dX4_form_9 : decode cX4_form 9 = .ok (.goto 21, 3) := by decide +kernel
theorem dX4_form_12 : decode cX4_form 12 = .ok (.dload_n 2, 1) := by decide +kernel
theorem dX4_form_13 : decode cX4_form 13 = .ok (.ldc2_w 51, 3) := by decide +kernel
theorem dX4_form_16 : decode cX4_form 16 = .ok (.ldc2_w 69, 3) := by decide +kernel
theorem dX4_form_19 : decode cX4_form 19 = .ok (.invokestatic 55, 3) := by decide +kernel
theorem dX4_form_22 : decode cX4_form 22 = .ok (.ifCond .eq 7, 3) := by decide +kernel
theorem dX4_form_25 : decode cX4_form 25 = .ok (.iconst 0, 1) := by decide +kernel
theorem dX4_form_26 : decode cX4_form 26 = .ok (.goto 4, 3) := by decide +kernel
theorem dX4_form_29 : decode cX4_form 29 = .ok (.iconst 2, 1) := by decide +kernel
theorem dX4_form_30 : decode cX4_form 30 = .ok (.putfield 43, 3) := by decide +kernel
theorem dX4_form_33 : decode cX4_form 33 = .ok (.aload_n 0, 1) := by decide +kernel
theorem dX4_form_34 : decode cX4_form 34 = .ok (.getfield 43, 3) := by decide +kernel
theorem dX4_form_37 : decode cX4_form 37 = .ok (.ifCond .le 5, 3) := by decide +kernel
theorem dX4_form_40 : decode cX4_form 40 = .ok (.dconst 0, 1) := by decide +kernel
theorem dX4_form_41 : decode cX4_form 41 = .ok (.dreturn, 1) := by decide +kernel
theorem dX4_form_42 : decode cX4_form 42 = .ok (.dconst 0, 1) := by decide +kernel
theorem dX4_form_43 : decode cX4_form 43 = .ok (.dstore 4, 2) := by decide +kernel
theorem dX4_form_45 : decode cX4_form 45 = .ok (.dload_n 2, 1) := by decide +kernel
theorem dX4_form_46 : decode cX4_form 46 = .ok (.dstore 6, 2) := by decide +kernel
theorem dX4_form_48 : decode cX4_form 48 = .ok (.iconst 0, 1) := by decide +kernel
theorem dX4_form_49 : decode cX4_form 49 = .ok (.istore 8, 2) := by decide +kernel
theorem dX4_form_51 : decode cX4_form 51 = .ok (.iload 8, 2) := by decide +kernel
theorem dX4_form_53 : decode cX4_form 53 = .ok (.bipush 40, 2) := by decide +kernel
theorem dX4_form_55 : decode cX4_form 55 = .ok (.if_icmp .ge 71, 3) := by decide +kernel
theorem dX4_form_58 : decode cX4_form 58 = .ok (.dload 4, 2) := by decide +kernel
theorem dX4_form_60 : decode cX4_form 60 = .ok (.dload 6, 2) := by decide +kernel
theorem dX4_form_62 : decode cX4_form 62 = .ok (.dadd, 1) := by decide +kernel
theorem dX4_form_63 : decode cX4_form 63 = .ok (.ldc2_w 74, 3) := by decide +kernel
theorem dX4_form_66 : decode cX4_form 66 = .ok (.ddiv, 1) := by decide +kernel
theorem dX4_form_67 : decode cX4_form 67 = .ok (.dstore 9, 2) := by decide +kernel
theorem dX4_form_69 : decode cX4_form 69 = .ok (.dload 9, 2) := by decide +kernel
theorem dX4_form_71 : decode cX4_form 71 = .ok (.dconst 1, 1) := by decide +kernel
theorem dX4_form_72 : decode cX4_form 72 = .ok (.aload_n 0, 1) := by decide +kernel
theorem dX4_form_73 : decode cX4_form 73 = .ok (.getfield 29, 3) := by decide +kernel
theorem dX4_form_76 : decode cX4_form 76 = .ok (.iload_n 1, 1) := by decide +kernel
theorem dX4_form_77 : decode cX4_form 77 = .ok (.daload, 1) := by decide +kernel
theorem dX4_form_78 : decode cX4_form 78 = .ok (.dadd, 1) := by decide +kernel
theorem dX4_form_79 : decode cX4_form 79 = .ok (.dmul, 1) := by decide +kernel
theorem dX4_form_80 : decode cX4_form 80 = .ok (.dload_n 2, 1) := by decide +kernel
theorem dX4_form_81 : decode cX4_form 81 = .ok (.dcmp .g, 1) := by decide +kernel
theorem dX4_form_82 : decode cX4_form 82 = .ok (.ifCond .ge 7, 3) := by decide +kernel
theorem dX4_form_85 : decode cX4_form 85 = .ok (.iconst 1, 1) := by decide +kernel
theorem dX4_form_86 : decode cX4_form 86 = .ok (.goto 4, 3) := by decide +kernel
theorem dX4_form_89 : decode cX4_form 89 = .ok (.iconst 0, 1) := by decide +kernel
theorem dX4_form_90 : decode cX4_form 90 = .ok (.istore 11, 2) := by decide +kernel
theorem dX4_form_92 : decode cX4_form 92 = .ok (.iload 11, 2) := by decide +kernel
theorem dX4_form_94 : decode cX4_form 94 = .ok (.ifCond .eq 8, 3) := by decide +kernel
theorem dX4_form_97 : decode cX4_form 97 = .ok (.dload 9, 2) := by decide +kernel
theorem dX4_form_99 : decode cX4_form 99 = .ok (.goto 5, 3) := by decide +kernel
theorem dX4_form_102 : decode cX4_form 102 = .ok (.dload 4, 2) := by decide +kernel
theorem dX4_form_104 : decode cX4_form 104 = .ok (.dstore 4, 2) := by decide +kernel
theorem dX4_form_106 : decode cX4_form 106 = .ok (.iload 11, 2) := by decide +kernel
theorem dX4_form_108 : decode cX4_form 108 = .ok (.ifCond .eq 8, 3) := by decide +kernel
theorem dX4_form_111 : decode cX4_form 111 = .ok (.dload 6, 2) := by decide +kernel
theorem dX4_form_113 : decode cX4_form 113 = .ok (.goto 5, 3) := by decide +kernel
theorem dX4_form_116 : decode cX4_form 116 = .ok (.dload 9, 2) := by decide +kernel
theorem dX4_form_118 : decode cX4_form 118 = .ok (.dstore 6, 2) := by decide +kernel
theorem dX4_form_120 : decode cX4_form 120 = .ok (.iinc 8 1, 3) := by decide +kernel
theorem dX4_form_123 : decode cX4_form 123 = .ok (.goto (-72), 3) := by decide +kernel
theorem dX4_form_126 : decode cX4_form 126 = .ok (.dload 6, 2) := by decide +kernel
theorem dX4_form_128 : decode cX4_form 128 = .ok (.dreturn, 1) := by decide +kernel
theorem dX4_minutes_0 : decode cX4_minutes 0 = .ok (.aload_n 0, 1) := by decide +kernel
theorem dX4_minutes_1 : decode cX4_minutes 1 = .ok (.dload_n 1, 1) := by decide +kernel
theorem dX4_minutes_2 : decode cX4_minutes 2 = .ok (.dconst 0, 1) := by decide +kernel
theorem dX4_minutes_3 : decode cX4_minutes 3 = .ok (.ldc2_w 53, 3) := by decide +kernel
theorem dX4_minutes_6 : decode cX4_minutes 6 = .ok (.invokestatic 55, 3) := by decide +kernel
theorem dX4_minutes_9 : decode cX4_minutes 9 = .ok (.ifCond .eq 7, 3) := by decide +kernel
theorem dX4_minutes_12 : decode cX4_minutes 12 = .ok (.iconst 0, 1) := by decide +kernel
theorem dX4_minutes_13 : decode cX4_minutes 13 = .ok (.goto 4, 3) := by decide +kernel
theorem dX4_minutes_16 : decode cX4_minutes 16 = .ok (.iconst 1, 1) := by decide +kernel
theorem dX4_minutes_17 : decode cX4_minutes 17 = .ok (.putfield 43, 3) := by decide +kernel
theorem dX4_minutes_20 : decode cX4_minutes 20 = .ok (.aload_n 0, 1) := by decide +kernel
theorem dX4_minutes_21 : decode cX4_minutes 21 = .ok (.getfield 43, 3) := by decide +kernel
theorem dX4_minutes_24 : decode cX4_minutes 24 = .ok (.ifCond .le 7, 3) := by decide +kernel
theorem dX4_minutes_27 : decode cX4_minutes 27 = .ok (.dconst 0, 1) := by decide +kernel
theorem dX4_minutes_28 : decode cX4_minutes 28 = .ok (.goto 28, 3) := by decide +kernel
theorem dX4_minutes_31 : decode cX4_minutes 31 = .ok (.dload_n 1, 1) := by decide +kernel
theorem dX4_minutes_32 : decode cX4_minutes 32 = .ok (.ldc2_w 79, 3) := by decide +kernel
theorem dX4_minutes_35 : decode cX4_minutes 35 = .ok (.dcmp .l, 1) := by decide +kernel
theorem dX4_minutes_36 : decode cX4_minutes 36 = .ok (.ifCond .le 15, 3) := by decide +kernel
theorem dX4_minutes_39 : decode cX4_minutes 39 = .ok (.dload_n 1, 1) := by decide +kernel
theorem dX4_minutes_40 : decode cX4_minutes 40 = .ok (.ldc2_w 81, 3) := by decide +kernel
theorem dX4_minutes_43 : decode cX4_minutes 43 = .ok (.dmul, 1) := by decide +kernel
theorem dX4_minutes_44 : decode cX4_minutes 44 = .ok (.ldc2_w 83, 3) := by decide +kernel
theorem dX4_minutes_47 : decode cX4_minutes 47 = .ok (.dadd, 1) := by decide +kernel
theorem dX4_minutes_48 : decode cX4_minutes 48 = .ok (.goto 8, 3) := by decide +kernel
theorem dX4_minutes_51 : decode cX4_minutes 51 = .ok (.dload_n 1, 1) := by decide +kernel
theorem dX4_minutes_52 : decode cX4_minutes 52 = .ok (.ldc2_w 81, 3) := by decide +kernel
theorem dX4_minutes_55 : decode cX4_minutes 55 = .ok (.dmul, 1) := by decide +kernel
theorem dX4_minutes_56 : decode cX4_minutes 56 = .ok (.dreturn, 1) := by decide +kernel
theorem dX4_piece_0 : decode cX4_piece 0 = .ok (.aload_n 0, 1) := by decide +kernel
theorem dX4_piece_1 : decode cX4_piece 1 = .ok (.dload_n 1, 1) := by decide +kernel
theorem dX4_piece_2 : decode cX4_piece 2 = .ok (.dconst 0, 1) := by decide +kernel
theorem dX4_piece_3 : decode cX4_piece 3 = .ok (.ldc2_w 59, 3) := by decide +kernel
theorem dX4_piece_6 : decode cX4_piece 6 = .ok (.invokestatic 55, 3) := by decide +kernel
theorem dX4_piece_9 : decode cX4_piece 9 = .ok (.ifCond .eq 20, 3) := by decide +kernel
theorem dX4_piece_12 : decode cX4_piece 12 = .ok (.dload_n 3, 1) := by decide +kernel
theorem dX4_piece_13 : decode cX4_piece 13 = .ok (.dconst 0, 1) := by decide +kernel
theorem dX4_piece_14 : decode cX4_piece 14 = .ok (.dcmp .l, 1) := by decide +kernel
theorem dX4_piece_15 : decode cX4_piece 15 = .ok (.ifCond .eq 18, 3) := by decide +kernel
theorem dX4_piece_18 : decode cX4_piece 18 = .ok (.dload_n 3, 1) := by decide +kernel
theorem dX4_piece_19 : decode cX4_piece 19 = .ok (.dconst 1, 1) := by decide +kernel
theorem dX4_piece_20 : decode cX4_piece 20 = .ok (.ldc2_w 59, 3) := by decide +kernel
theorem dX4_piece_23 : decode cX4_piece 23 = .ok (.invokestatic 55, 3) := by decide +kernel
theorem dX4_piece_26 : decode cX4_piece 26 = .ok (.ifCond .ne 7, 3) := by decide +kernel
theorem dX4_piece_29 : decode cX4_piece 29 = .ok (.iconst 1, 1) := by decide +kernel
theorem dX4_piece_30 : decode cX4_piece 30 = .ok (.goto 17, 3) := by decide +kernel
theorem dX4_piece_33 : decode cX4_piece 33 = .ok (.aload_n 0, 1) := by decide +kernel
theorem dX4_piece_34 : decode cX4_piece 34 = .ok (.getfield 85, 3) := by decide +kernel
theorem dX4_piece_37 : decode cX4_piece 37 = .ok (.bipush 12, 2) := by decide +kernel
theorem dX4_piece_39 : decode cX4_piece 39 = .ok (.if_icmp .ne 7, 3) := by decide +kernel
theorem dX4_piece_42 : decode cX4_piece 42 = .ok (.iconst 2, 1) := by decide +kernel
theorem dX4_piece_43 : decode cX4_piece 43 = .ok (.goto 4, 3) := by decide +kernel
theorem dX4_piece_46 : decode cX4_piece 46 = .ok (.iconst 0, 1) := by decide +kernel
theorem dX4_piece_47 : decode cX4_piece 47 = .ok (.putfield 43, 3) := by decide +kernel
theorem dX4_piece_50 : decode cX4_piece 50 = .ok (.aload_n 0, 1) := by decide +kernel
theorem dX4_piece_51 : decode cX4_piece 51 = .ok (.getfield 43, 3) := by decide +kernel
theorem dX4_piece_54 : decode cX4_piece 54 = .ok (.ifCond .le 5, 3) := by decide +kernel
theorem dX4_piece_57 : decode cX4_piece 57 = .ok (.iconst 0, 1) := by decide +kernel
theorem dX4_piece_58 : decode cX4_piece 58 = .ok (.ireturn, 1) := by decide +kernel
theorem dX4_piece_59 : decode cX4_piece 59 = .ok (.aload_n 0, 1) := by decide +kernel
theorem dX4_piece_60 : decode cX4_piece 60 = .ok (.getfield 35, 3) := by decide +kernel
theorem dX4_piece_63 : decode cX4_piece 63 = .ok (.aload_n 0, 1) := by decide +kernel
theorem dX4_piece_64 : decode cX4_piece 64 = .ok (.getfield 85, 3) := by decide +kernel
theorem dX4_piece_67 : decode cX4_piece 67 = .ok (.dload_n 1, 1) := by decide +kernel
theorem dX4_piece_68 : decode cX4_piece 68 = .ok (.dastore, 1) := by decide +kernel
theorem dX4_piece_69 : decode cX4_piece 69 = .ok (.aload_n 0, 1) := by decide +kernel
theorem dX4_piece_70 : decode cX4_piece 70 = .ok (.getfield 38, 3) := by decide +kernel
theorem dX4_piece_73 : decode cX4_piece 73 = .ok (.aload_n 0, 1) := by decide +kernel
theorem dX4_piece_74 : decode cX4_piece 74 = .ok (.getfield 85, 3) := by decide +kernel
theorem dX4_piece_77 : decode cX4_piece 77 = .ok (.dload_n 3, 1) := by decide +kernel
theorem dX4_piece_78 : decode cX4_piece 78 = .ok (.dastore, 1) := by decide +kernel
theorem dX4_piece_79 : decode cX4_piece 79 = .ok (.aload_n 0, 1) := by decide +kernel
theorem dX4_piece_80 : decode cX4_piece 80 = .ok (.dup, 1) := by decide +kernel
theorem dX4_piece_81 : decode cX4_piece 81 = .ok (.getfield 85, 3) := by decide +kernel
theorem dX4_piece_84 : decode cX4_piece 84 = .ok (.iconst 1, 1) := by decide +kernel
theorem dX4_piece_85 : decode cX4_piece 85 = .ok (.iadd, 1) := by decide +kernel
theorem dX4_piece_86 : decode cX4_piece 86 = .ok (.putfield 85, 3) := by decide +kernel
theorem dX4_piece_89 : decode cX4_piece 89 = .ok (.aload_n 0, 1) := by decide +kernel
theorem dX4_piece_90 : decode cX4_piece 90 = .ok (.getfield 85, 3) := by decide +kernel
theorem dX4_piece_93 : decode cX4_piece 93 = .ok (.ireturn, 1) := by decide +kernel
theorem dX4_clear_0 : decode cX4_clear 0 = .ok (.aload_n 0, 1) := by decide +kernel
theorem dX4_clear_1 : decode cX4_clear 1 = .ok (.iconst 0, 1) := by decide +kernel
theorem dX4_clear_2 : decode cX4_clear 2 = .ok (.putfield 43, 3) := by decide +kernel
theorem dX4_clear_5 : decode cX4_clear 5 = .ok (.aload_n 0, 1) := by decide +kernel
theorem dX4_clear_6 : decode cX4_clear 6 = .ok (.iconst 0, 1) := by decide +kernel
theorem dX4_clear_7 : decode cX4_clear 7 = .ok (.putfield 85, 3) := by decide +kernel
theorem dX4_clear_10 : decode cX4_clear 10 = .ok (.return_, 1) := by decide +kernel
theorem dX4_length_0 : decode cX4_length 0 = .ok (.dload_n 2, 1) := by decide +kernel
theorem dX4_length_1 : decode cX4_length 1 = .ok (.dconst 0, 1) := by decide +kernel
theorem dX4_length_2 : decode cX4_length 2 = .ok (.ldc2_w 53, 3) := by decide +kernel
theorem dX4_length_5 : decode cX4_length 5 = .ok (.invokestatic 55, 3) := by decide +kernel
theorem dX4_length_8 : decode cX4_length 8 = .ok (.istore 4, 2) := by decide +kernel
theorem dX4_length_10 : decode cX4_length 10 = .ok (.iconst 0, 1) := by decide +kernel
theorem dX4_length_11 : decode cX4_length 11 = .ok (.istore 5, 2) := by decide +kernel
theorem dX4_length_13 : decode cX4_length 13 = .ok (.iload 5, 2) := by decide +kernel
theorem dX4_length_15 : decode cX4_length 15 = .ok (.aload_n 0, 1) := by decide +kernel
theorem dX4_length_16 : decode cX4_length 16 = .ok (.getfield 85, 3) := by decide +kernel
theorem dX4_length_19 : decode cX4_length 19 = .ok (.if_icmp .ge 49, 3) := by decide +kernel
theorem dX4_length_22 : decode cX4_length 22 = .ok (.iload 4, 2) := by decide +kernel
theorem dX4_length_24 : decode cX4_length 24 = .ok (.ifCond .eq 35, 3) := by decide +kernel
theorem dX4_length_27 : decode cX4_length 27 = .ok (.aload_n 0, 1) := by decide +kernel
theorem dX4_length_28 : decode cX4_length 28 = .ok (.getfield 38, 3) := by decide +kernel
theorem dX4_length_31 : decode cX4_length 31 = .ok (.iload 5, 2) := by decide +kernel
theorem dX4_length_33 : decode cX4_length 33 = .ok (.daload, 1) := by decide +kernel
theorem dX4_length_34 : decode cX4_length 34 = .ok (.dconst 0, 1) := by decide +kernel
theorem dX4_length_35 : decode cX4_length 35 = .ok (.dcmp .l, 1) := by decide +kernel
theorem dX4_length_36 : decode cX4_length 36 = .ok (.ifCond .eq 19, 3) := by decide +kernel
theorem dX4_length_39 : decode cX4_length 39 = .ok (.dload_n 2, 1) := by decide +kernel
theorem dX4_length_40 : decode cX4_length 40 = .ok (.ldc2_w 74, 3) := by decide +kernel
theorem dX4_length_43 : decode cX4_length 43 = .ok (.aload_n 0, 1) := by decide +kernel
theorem dX4_length_44 : decode cX4_length 44 = .ok (.getfield 38, 3) := by decide +kernel
theorem dX4_length_47 : decode cX4_length 47 = .ok (.iload 5, 2) := by decide +kernel
theorem dX4_length_49 : decode cX4_length 49 = .ok (.daload, 1) := by decide +kernel
theorem dX4_length_50 : decode cX4_length 50 = .ok (.dmul, 1) := by decide +kernel
theorem dX4_length_51 : decode cX4_length 51 = .ok (.dcmp .g, 1) := by decide +kernel
theorem dX4_length_52 : decode cX4_length 52 = .ok (.ifCond .gt 7, 3) := by decide +kernel
theorem dX4_length_55 : decode cX4_length 55 = .ok (.iconst 1, 1) := by decide +kernel
theorem dX4_length_56 : decode cX4_length 56 = .ok (.goto 4, 3) := by decide +kernel
theorem dX4_length_59 : decode cX4_length 59 = .ok (.iconst 0, 1) := by decide +kernel
theorem dX4_length_60 : decode cX4_length 60 = .ok (.istore 4, 2) := by decide +kernel
theorem dX4_length_62 : decode cX4_length 62 = .ok (.iinc 5 1, 3) := by decide +kernel
theorem dX4_length_65 : decode cX4_length 65 = .ok (.goto (-52), 3) := by decide +kernel
theorem dX4_length_68 : decode cX4_length 68 = .ok (.aload_n 0, 1) := by decide +kernel
theorem dX4_length_69 : decode cX4_length 69 = .ok (.iload 4, 2) := by decide +kernel
theorem dX4_length_71 : decode cX4_length 71 = .ok (.ifCond .eq 7, 3) := by decide +kernel
theorem dX4_length_74 : decode cX4_length 74 = .ok (.iconst 0, 1) := by decide +kernel
theorem dX4_length_75 : decode cX4_length 75 = .ok (.goto 4, 3) := by decide +kernel
theorem dX4_length_78 : decode cX4_length 78 = .ok (.iconst 1, 1) := by decide +kernel
theorem dX4_length_79 : decode cX4_length 79 = .ok (.putfield 43, 3) := by decide +kernel
theorem dX4_length_82 : decode cX4_length 82 = .ok (.dload_n 2, 1) := by decide +kernel
theorem dX4_length_83 : decode cX4_length 83 = .ok (.ldc2_w 74, 3) := by decide +kernel
theorem dX4_length_86 : decode cX4_length 86 = .ok (.ddiv, 1) := by decide +kernel
theorem dX4_length_87 : decode cX4_length 87 = .ok (.dstore 5, 2) := by decide +kernel
theorem dX4_length_89 : decode cX4_length 89 = .ok (.dconst 0, 1) := by decide +kernel
theorem dX4_length_90 : decode cX4_length 90 = .ok (.dstore 7, 2) := by decide +kernel
theorem dX4_length_92 : decode cX4_length 92 = .ok (.iconst 0, 1) := by decide +kernel
theorem dX4_length_93 : decode cX4_length 93 = .ok (.istore 9, 2) := by decide +kernel
theorem dX4_length_95 : decode cX4_length 95 = .ok (.iload 9, 2) := by decide +kernel
theorem dX4_length_97 : decode cX4_length 97 = .ok (.aload_n 0, 1) := by decide +kernel
theorem dX4_length_98 : decode cX4_length 98 = .ok (.getfield 85, 3) := by decide +kernel
theorem dX4_length_101 : decode cX4_length 101 = .ok (.if_icmp .ge 73, 3) := by decide +kernel
theorem dX4_length_104 : decode cX4_length 104 = .ok (.iload 4, 2) := by decide +kernel
theorem dX4_length_106 : decode cX4_length 106 = .ok (.ifCond .eq 68, 3) := by decide +kernel
theorem dX4_length_109 : decode cX4_length 109 = .ok (.aload_n 0, 1) := by decide +kernel
theorem dX4_length_110 : decode cX4_length 110 = .ok (.getfield 38, 3) := by decide +kernel
theorem dX4_length_113 : decode cX4_length 113 = .ok (.iload 9, 2) := by decide +kernel
theorem dX4_length_115 : decode cX4_length 115 = .ok (.daload, 1) := by decide +kernel
theorem dX4_length_116 : decode cX4_length 116 = .ok (.dstore 10, 2) := by decide +kernel
theorem dX4_length_118 : decode cX4_length 118 = .ok (.dload 7, 2) := by decide +kernel
theorem dX4_length_120 : decode cX4_length 120 = .ok (.dload 10, 2) := by decide +kernel
theorem dX4_length_122 : decode cX4_length 122 = .ok (.dconst 0, 1) := by decide +kernel
theorem dX4_length_123 : decode cX4_length 123 = .ok (.dcmp .l, 1) := by decide +kernel
theorem dX4_length_124 : decode cX4_length 124 = .ok (.ifCond .ne 13, 3) := by decide +kernel
theorem dX4_length_127 : decode cX4_length 127 = .ok (.aload_n 0, 1) := by decide +kernel
theorem dX4_length_128 : decode cX4_length 128 = .ok (.getfield 35, 3) := by decide +kernel
theorem dX4_length_131 : decode cX4_length 131 = .ok (.iload 9, 2) := by decide +kernel
theorem dX4_length_133 : decode cX4_length 133 = .ok (.daload, 1) := by decide +kernel
theorem dX4_length_134 : decode cX4_length 134 = .ok (.goto 31, 3) := by decide +kernel
theorem dX4_length_137 : decode cX4_length 137 = .ok (.aload_n 0, 1) := by decide +kernel
theorem dX4_length_138 : decode cX4_length 138 = .ok (.getfield 35, 3) := by decide +kernel
theorem dX4_length_141 : decode cX4_length 141 = .ok (.iload 9, 2) := by decide +kernel
theorem dX4_length_143 : decode cX4_length 143 = .ok (.daload, 1) := by decide +kernel
theorem dX4_length_144 : decode cX4_length 144 = .ok (.iload_n 1, 1) := by decide +kernel
theorem dX4_length_145 : decode cX4_length 145 = .ok (.ifCond .eq 11, 3) := by decide +kernel
theorem dX4_length_148 : decode cX4_length 148 = .ok (.dload 10, 2) := by decide +kernel
theorem dX4_length_150 : decode cX4_length 150 = .ok (.dload 5, 2) := by decide +kernel
theorem dX4_length_152 : decode cX4_length 152 = .ok (.dadd, 1) := by decide +kernel
theorem dX4_length_153 : decode cX4_length 153 = .ok (.goto 8, 3) := by decide +kernel
theorem dX4_length_156 : decode cX4_length 156 = .ok (.dload 10, 2) := by decide +kernel
theorem dX4_length_158 : decode cX4_length 158 = .ok (.dload 5, 2) := by decide +kernel
theorem dX4_length_160 : decode cX4_length 160 = .ok (.dsub, 1) := by decide +kernel
theorem dX4_length_161 : decode cX4_length 161 = .ok (.dmul, 1) := by decide +kernel
theorem dX4_length_162 : decode cX4_length 162 = .ok (.dload 10, 2) := by decide +kernel
theorem dX4_length_164 : decode cX4_length 164 = .ok (.ddiv, 1) := by decide +kernel
theorem dX4_length_165 : decode cX4_length 165 = .ok (.dadd, 1) := by decide +kernel
theorem dX4_length_166 : decode cX4_length 166 = .ok (.dstore 7, 2) := by decide +kernel
theorem dX4_length_168 : decode cX4_length 168 = .ok (.iinc 9 1, 3) := by decide +kernel
theorem dX4_length_171 : decode cX4_length 171 = .ok (.goto (-76), 3) := by decide +kernel
theorem dX4_length_174 : decode cX4_length 174 = .ok (.dload 7, 2) := by decide +kernel
theorem dX4_length_176 : decode cX4_length 176 = .ok (.dreturn, 1) := by decide +kernel
theorem dX4_kerfs_0 : decode cX4_kerfs 0 = .ok (.dload_n 1, 1) := by decide +kernel
theorem dX4_kerfs_1 : decode cX4_kerfs 1 = .ok (.dconst 1, 1) := by decide +kernel
theorem dX4_kerfs_2 : decode cX4_kerfs 2 = .ok (.ldc2_w 88, 3) := by decide +kernel
theorem dX4_kerfs_5 : decode cX4_kerfs 5 = .ok (.invokestatic 55, 3) := by decide +kernel
theorem dX4_kerfs_8 : decode cX4_kerfs 8 = .ok (.ifCond .eq 51, 3) := by decide +kernel
theorem dX4_kerfs_11 : decode cX4_kerfs 11 = .ok (.dload_n 3, 1) := by decide +kernel
theorem dX4_kerfs_12 : decode cX4_kerfs 12 = .ok (.dconst 1, 1) := by decide +kernel
theorem dX4_kerfs_13 : decode cX4_kerfs 13 = .ok (.ldc2_w 53, 3) := by decide +kernel
theorem dX4_kerfs_16 : decode cX4_kerfs 16 = .ok (.invokestatic 55, 3) := by decide +kernel
theorem dX4_kerfs_19 : decode cX4_kerfs 19 = .ok (.ifCond .eq 40, 3) := by decide +kernel
theorem dX4_kerfs_22 : decode cX4_kerfs 22 = .ok (.dload 5, 2) := by decide +kernel
theorem dX4_kerfs_24 : decode cX4_kerfs 24 = .ok (.ldc2_w 51, 3) := by decide +kernel
theorem dX4_kerfs_27 : decode cX4_kerfs 27 = .ok (.dload_n 3, 1) := by decide +kernel
theorem dX4_kerfs_28 : decode cX4_kerfs 28 = .ok (.invokestatic 55, 3) := by decide +kernel
theorem dX4_kerfs_31 : decode cX4_kerfs 31 = .ok (.ifCond .eq 28, 3) := by decide +kernel
theorem dX4_kerfs_34 : decode cX4_kerfs 34 = .ok (.dload 5, 2) := by decide +kernel
theorem dX4_kerfs_36 : decode cX4_kerfs 36 = .ok (.dload_n 3, 1) := by decide +kernel
theorem dX4_kerfs_37 : decode cX4_kerfs 37 = .ok (.dcmp .g, 1) := by decide +kernel
theorem dX4_kerfs_38 : decode cX4_kerfs 38 = .ok (.ifCond .ge 21, 3) := by decide +kernel
theorem dX4_kerfs_41 : decode cX4_kerfs 41 = .ok (.dload 7, 2) := by decide +kernel
theorem dX4_kerfs_43 : decode cX4_kerfs 43 = .ok (.ldc2_w 51, 3) := by decide +kernel
theorem dX4_kerfs_46 : decode cX4_kerfs 46 = .ok (.ldc2_w 90, 3) := by decide +kernel
theorem dX4_kerfs_49 : decode cX4_kerfs 49 = .ok (.invokestatic 55, 3) := by decide +kernel
theorem dX4_kerfs_52 : decode cX4_kerfs 52 = .ok (.ifCond .eq 7, 3) := by decide +kernel
theorem dX4_kerfs_55 : decode cX4_kerfs 55 = .ok (.iconst 1, 1) := by decide +kernel
theorem dX4_kerfs_56 : decode cX4_kerfs 56 = .ok (.goto 4, 3) := by decide +kernel
theorem dX4_kerfs_59 : decode cX4_kerfs 59 = .ok (.iconst 0, 1) := by decide +kernel
theorem dX4_kerfs_60 : decode cX4_kerfs 60 = .ok (.istore 9, 2) := by decide +kernel
theorem dX4_kerfs_62 : decode cX4_kerfs 62 = .ok (.aload_n 0, 1) := by decide +kernel
theorem dX4_kerfs_63 : decode cX4_kerfs 63 = .ok (.iload 9, 2) := by decide +kernel
theorem dX4_kerfs_65 : decode cX4_kerfs 65 = .ok (.ifCond .eq 7, 3) := by decide +kernel
theorem dX4_kerfs_68 : decode cX4_kerfs 68 = .ok (.iconst 0, 1) := by decide +kernel
theorem dX4_kerfs_69 : decode cX4_kerfs 69 = .ok (.goto 4, 3) := by decide +kernel
theorem dX4_kerfs_72 : decode cX4_kerfs 72 = .ok (.iconst 1, 1) := by decide +kernel
theorem dX4_kerfs_73 : decode cX4_kerfs 73 = .ok (.putfield 43, 3) := by decide +kernel
theorem dX4_kerfs_76 : decode cX4_kerfs 76 = .ok (.aload_n 0, 1) := by decide +kernel
theorem dX4_kerfs_77 : decode cX4_kerfs 77 = .ok (.getfield 43, 3) := by decide +kernel
theorem dX4_kerfs_80 : decode cX4_kerfs 80 = .ok (.ifCond .le 5, 3) := by decide +kernel
theorem dX4_kerfs_83 : decode cX4_kerfs 83 = .ok (.iconst 0, 1) := by decide +kernel
theorem dX4_kerfs_84 : decode cX4_kerfs 84 = .ok (.ireturn, 1) := by decide +kernel
theorem dX4_kerfs_85 : decode cX4_kerfs 85 = .ok (.dload 7, 2) := by decide +kernel
theorem dX4_kerfs_87 : decode cX4_kerfs 87 = .ok (.dload_n 3, 1) := by decide +kernel
theorem dX4_kerfs_88 : decode cX4_kerfs 88 = .ok (.dload 5, 2) := by decide +kernel
theorem dX4_kerfs_90 : decode cX4_kerfs 90 = .ok (.dsub, 1) := by decide +kernel
theorem dX4_kerfs_91 : decode cX4_kerfs 91 = .ok (.ddiv, 1) := by decide +kernel
theorem dX4_kerfs_92 : decode cX4_kerfs 92 = .ok (.ldc2_w 92, 3) := by decide +kernel
theorem dX4_kerfs_95 : decode cX4_kerfs 95 = .ok (.dmul, 1) := by decide +kernel
theorem dX4_kerfs_96 : decode cX4_kerfs 96 = .ok (.dstore 10, 2) := by decide +kernel
theorem dX4_kerfs_98 : decode cX4_kerfs 98 = .ok (.iconst 1, 1) := by decide +kernel
theorem dX4_kerfs_99 : decode cX4_kerfs 99 = .ok (.istore 12, 2) := by decide +kernel
theorem dX4_kerfs_101 : decode cX4_kerfs 101 = .ok (.iload 12, 2) := by decide +kernel
theorem dX4_kerfs_103 : decode cX4_kerfs 103 = .ok (.i2d, 1) := by decide +kernel
theorem dX4_kerfs_104 : decode cX4_kerfs 104 = .ok (.dload 10, 2) := by decide +kernel
theorem dX4_kerfs_106 : decode cX4_kerfs 106 = .ok (.dmul, 1) := by decide +kernel
theorem dX4_kerfs_107 : decode cX4_kerfs 107 = .ok (.dload_n 1, 1) := by decide +kernel
theorem dX4_kerfs_108 : decode cX4_kerfs 108 = .ok (.dcmp .g, 1) := by decide +kernel
theorem dX4_kerfs_109 : decode cX4_kerfs 109 = .ok (.ifCond .ge 9, 3) := by decide +kernel
theorem dX4_kerfs_112 : decode cX4_kerfs 112 = .ok (.iinc 12 1, 3) := by decide +kernel
theorem dX4_kerfs_115 : decode cX4_kerfs 115 = .ok (.goto (-14), 3) := by decide +kernel
theorem dX4_kerfs_118 : decode cX4_kerfs 118 = .ok (.aload_n 0, 1) := by decide +kernel
theorem dX4_kerfs_119 : decode cX4_kerfs 119 = .ok (.iload 12, 2) := by decide +kernel
theorem dX4_kerfs_121 : decode cX4_kerfs 121 = .ok (.putfield 94, 3) := by decide +kernel
theorem dX4_kerfs_124 : decode cX4_kerfs 124 = .ok (.aload_n 0, 1) := by decide +kernel
theorem dX4_kerfs_125 : decode cX4_kerfs 125 = .ok (.iload 12, 2) := by decide +kernel
theorem dX4_kerfs_127 : decode cX4_kerfs 127 = .ok (.i2d, 1) := by decide +kernel
theorem dX4_kerfs_128 : decode cX4_kerfs 128 = .ok (.dload 10, 2) := by decide +kernel
theorem dX4_kerfs_130 : decode cX4_kerfs 130 = .ok (.dmul, 1) := by decide +kernel
theorem dX4_kerfs_131 : decode cX4_kerfs 131 = .ok (.dload_n 1, 1) := by decide +kernel
theorem dX4_kerfs_132 : decode cX4_kerfs 132 = .ok (.dsub, 1) := by decide +kernel
theorem dX4_kerfs_133 : decode cX4_kerfs 133 = .ok (.putfield 97, 3) := by decide +kernel
theorem dX4_kerfs_136 : decode cX4_kerfs 136 = .ok (.iload 12, 2) := by decide +kernel
theorem dX4_kerfs_138 : decode cX4_kerfs 138 = .ok (.ireturn, 1) := by decide +kernel
theorem dX4_kerfAt_0 : decode cX4_kerfAt 0 = .ok (.aload_n 0, 1) := by decide +kernel
theorem dX4_kerfAt_1 : decode cX4_kerfAt 1 = .ok (.aload_n 0, 1) := by decide +kernel
theorem dX4_kerfAt_2 : decode cX4_kerfAt 2 = .ok (.getfield 94, 3) := by decide +kernel
theorem dX4_kerfAt_5 : decode cX4_kerfAt 5 = .ok (.ifCond .ne 7, 3) := by decide +kernel
theorem dX4_kerfAt_8 : decode cX4_kerfAt 8 = .ok (.iconst 1, 1) := by decide +kernel
theorem dX4_kerfAt_9 : decode cX4_kerfAt 9 = .ok (.goto 35, 3) := by decide +kernel
theorem dX4_kerfAt_12 : decode cX4_kerfAt 12 = .ok (.iload_n 1, 1) := by decide +kernel
theorem dX4_kerfAt_13 : decode cX4_kerfAt 13 = .ok (.ifCond .lt 11, 3) := by decide +kernel
theorem dX4_kerfAt_16 : decode cX4_kerfAt 16 = .ok (.iload_n 1, 1) := by decide +kernel
theorem dX4_kerfAt_17 : decode cX4_kerfAt 17 = .ok (.aload_n 0, 1) := by decide +kernel
theorem dX4_kerfAt_18 : decode cX4_kerfAt 18 = .ok (.getfield 94, 3) := by decide +kernel
theorem dX4_kerfAt_21 : decode cX4_kerfAt 21 = .ok (.if_icmp .lt 7, 3) := by decide +kernel
theorem dX4_kerfAt_24 : decode cX4_kerfAt 24 = .ok (.iconst 2, 1) := by decide +kernel
theorem dX4_kerfAt_25 : decode cX4_kerfAt 25 = .ok (.goto 19, 3) := by decide +kernel
theorem dX4_kerfAt_28 : decode cX4_kerfAt 28 = .ok (.dload_n 2, 1) := by decide +kernel
theorem dX4_kerfAt_29 : decode cX4_kerfAt 29 = .ok (.dconst 0, 1) := by decide +kernel
theorem dX4_kerfAt_30 : decode cX4_kerfAt 30 = .ok (.ldc2_w 59, 3) := by decide +kernel
theorem dX4_kerfAt_33 : decode cX4_kerfAt 33 = .ok (.invokestatic 55, 3) := by decide +kernel
theorem dX4_kerfAt_36 : decode cX4_kerfAt 36 = .ok (.ifCond .eq 7, 3) := by decide +kernel
theorem dX4_kerfAt_39 : decode cX4_kerfAt 39 = .ok (.iconst 0, 1) := by decide +kernel
theorem dX4_kerfAt_40 : decode cX4_kerfAt 40 = .ok (.goto 4, 3) := by decide +kernel
theorem dX4_kerfAt_43 : decode cX4_kerfAt 43 = .ok (.iconst 3, 1) := by decide +kernel
theorem dX4_kerfAt_44 : decode cX4_kerfAt 44 = .ok (.putfield 43, 3) := by decide +kernel
theorem dX4_kerfAt_47 : decode cX4_kerfAt 47 = .ok (.aload_n 0, 1) := by decide +kernel
theorem dX4_kerfAt_48 : decode cX4_kerfAt 48 = .ok (.getfield 43, 3) := by decide +kernel
theorem dX4_kerfAt_51 : decode cX4_kerfAt 51 = .ok (.ifCond .le 7, 3) := by decide +kernel
theorem dX4_kerfAt_54 : decode cX4_kerfAt 54 = .ok (.dconst 0, 1) := by decide +kernel
theorem dX4_kerfAt_55 : decode cX4_kerfAt 55 = .ok (.goto 19, 3) := by decide +kernel
theorem dX4_kerfAt_58 : decode cX4_kerfAt 58 = .ok (.dload_n 2, 1) := by decide +kernel
theorem dX4_kerfAt_59 : decode cX4_kerfAt 59 = .ok (.iconst 2, 1) := by decide +kernel
theorem dX4_kerfAt_60 : decode cX4_kerfAt 60 = .ok (.iload_n 1, 1) := by decide +kernel
theorem dX4_kerfAt_61 : decode cX4_kerfAt 61 = .ok (.imul, 1) := by decide +kernel
theorem dX4_kerfAt_62 : decode cX4_kerfAt 62 = .ok (.iconst 1, 1) := by decide +kernel
theorem dX4_kerfAt_63 : decode cX4_kerfAt 63 = .ok (.iadd, 1) := by decide +kernel
theorem dX4_kerfAt_64 : decode cX4_kerfAt 64 = .ok (.i2d, 1) := by decide +kernel
theorem dX4_kerfAt_65 : decode cX4_kerfAt 65 = .ok (.dmul, 1) := by decide +kernel
theorem dX4_kerfAt_66 : decode cX4_kerfAt 66 = .ok (.iconst 2, 1) := by decide +kernel
theorem dX4_kerfAt_67 : decode cX4_kerfAt 67 = .ok (.aload_n 0, 1) := by decide +kernel
theorem dX4_kerfAt_68 : decode cX4_kerfAt 68 = .ok (.getfield 94, 3) := by decide +kernel
theorem dX4_kerfAt_71 : decode cX4_kerfAt 71 = .ok (.imul, 1) := by decide +kernel
theorem dX4_kerfAt_72 : decode cX4_kerfAt 72 = .ok (.i2d, 1) := by decide +kernel
theorem dX4_kerfAt_73 : decode cX4_kerfAt 73 = .ok (.ddiv, 1) := by decide +kernel
theorem dX4_kerfAt_74 : decode cX4_kerfAt 74 = .ok (.dreturn, 1) := by decide +kernel
theorem dX4_rest_0 : decode cX4_rest 0 = .ok (.aload_n 0, 1) := by decide +kernel
theorem dX4_rest_1 : decode cX4_rest 1 = .ok (.aload_n 0, 1) := by decide +kernel
theorem dX4_rest_2 : decode cX4_rest 2 = .ok (.getfield 94, 3) := by decide +kernel
theorem dX4_rest_5 : decode cX4_rest 5 = .ok (.ifCond .ne 7, 3) := by decide +kernel
theorem dX4_rest_8 : decode cX4_rest 8 = .ok (.iconst 1, 1) := by decide +kernel
theorem dX4_rest_9 : decode cX4_rest 9 = .ok (.goto 4, 3) := by decide +kernel
theorem dX4_rest_12 : decode cX4_rest 12 = .ok (.iconst 0, 1) := by decide +kernel
theorem dX4_rest_13 : decode cX4_rest 13 = .ok (.putfield 43, 3) := by decide +kernel
theorem dX4_rest_16 : decode cX4_rest 16 = .ok (.aload_n 0, 1) := by decide +kernel
theorem dX4_rest_17 : decode cX4_rest 17 = .ok (.getfield 43, 3) := by decide +kernel
theorem dX4_rest_20 : decode cX4_rest 20 = .ok (.ifCond .le 7, 3) := by decide +kernel
theorem dX4_rest_23 : decode cX4_rest 23 = .ok (.dconst 0, 1) := by decide +kernel
theorem dX4_rest_24 : decode cX4_rest 24 = .ok (.goto 7, 3) := by decide +kernel
theorem dX4_rest_27 : decode cX4_rest 27 = .ok (.aload_n 0, 1) := by decide +kernel
theorem dX4_rest_28 : decode cX4_rest 28 = .ok (.getfield 97, 3) := by decide +kernel
theorem dX4_rest_31 : decode cX4_rest 31 = .ok (.dreturn, 1) := by decide +kernel
theorem dX4_common_0 : decode cX4_common 0 = .ok (.iload_n 0, 1) := by decide +kernel
theorem dX4_common_1 : decode cX4_common 1 = .ok (.istore_n 2, 1) := by decide +kernel
theorem dX4_common_2 : decode cX4_common 2 = .ok (.iload_n 1, 1) := by decide +kernel
theorem dX4_common_3 : decode cX4_common 3 = .ok (.istore_n 3, 1) := by decide +kernel
theorem dX4_common_4 : decode cX4_common 4 = .ok (.iload_n 3, 1) := by decide +kernel
theorem dX4_common_5 : decode cX4_common 5 = .ok (.ifCond .eq 16, 3) := by decide +kernel
theorem dX4_common_8 : decode cX4_common 8 = .ok (.iload_n 2, 1) := by decide +kernel
theorem dX4_common_9 : decode cX4_common 9 = .ok (.iload_n 3, 1) := by decide +kernel
theorem dX4_common_10 : decode cX4_common 10 = .ok (.irem, 1) := by decide +kernel
theorem dX4_common_11 : decode cX4_common 11 = .ok (.istore 4, 2) := by decide +kernel
theorem dX4_common_13 : decode cX4_common 13 = .ok (.iload_n 3, 1) := by decide +kernel
theorem dX4_common_14 : decode cX4_common 14 = .ok (.istore_n 2, 1) := by decide +kernel
theorem dX4_common_15 : decode cX4_common 15 = .ok (.iload 4, 2) := by decide +kernel
theorem dX4_common_17 : decode cX4_common 17 = .ok (.istore_n 3, 1) := by decide +kernel
theorem dX4_common_18 : decode cX4_common 18 = .ok (.goto (-14), 3) := by decide +kernel
theorem dX4_common_21 : decode cX4_common 21 = .ok (.iload_n 2, 1) := by decide +kernel
theorem dX4_common_22 : decode cX4_common 22 = .ok (.ireturn, 1) := by decide +kernel
theorem dX4_broken_0 : decode cX4_broken 0 = .ok (.aload_n 0, 1) := by decide +kernel
theorem dX4_broken_1 : decode cX4_broken 1 = .ok (.iload_n 3, 1) := by decide +kernel
theorem dX4_broken_2 : decode cX4_broken 2 = .ok (.ifCond .lt 8, 3) := by decide +kernel
theorem dX4_broken_5 : decode cX4_broken 5 = .ok (.iload_n 3, 1) := by decide +kernel
theorem dX4_broken_6 : decode cX4_broken 6 = .ok (.iconst 3, 1) := by decide +kernel
theorem dX4_broken_7 : decode cX4_broken 7 = .ok (.if_icmp .le 7, 3) := by decide +kernel
theorem dX4_broken_10 : decode cX4_broken 10 = .ok (.iconst 1, 1) := by decide +kernel
theorem dX4_broken_11 : decode cX4_broken 11 = .ok (.goto 28, 3) := by decide +kernel
theorem dX4_broken_14 : decode cX4_broken 14 = .ok (.iload_n 1, 1) := by decide +kernel
theorem dX4_broken_15 : decode cX4_broken 15 = .ok (.iconst 1, 1) := by decide +kernel
theorem dX4_broken_16 : decode cX4_broken 16 = .ok (.if_icmp .lt 22, 3) := by decide +kernel
theorem dX4_broken_19 : decode cX4_broken 19 = .ok (.iload_n 1, 1) := by decide +kernel
theorem dX4_broken_20 : decode cX4_broken 20 = .ok (.ldc 101, 2) := by decide +kernel
theorem dX4_broken_22 : decode cX4_broken 22 = .ok (.if_icmp .gt 16, 3) := by decide +kernel
theorem dX4_broken_25 : decode cX4_broken 25 = .ok (.iload_n 2, 1) := by decide +kernel
theorem dX4_broken_26 : decode cX4_broken 26 = .ok (.ifCond .lt 12, 3) := by decide +kernel
theorem dX4_broken_29 : decode cX4_broken 29 = .ok (.iload_n 2, 1) := by decide +kernel
theorem dX4_broken_30 : decode cX4_broken 30 = .ok (.iload_n 1, 1) := by decide +kernel
theorem dX4_broken_31 : decode cX4_broken 31 = .ok (.if_icmp .gt 7, 3) := by decide +kernel
theorem dX4_broken_34 : decode cX4_broken 34 = .ok (.iconst 0, 1) := by decide +kernel
theorem dX4_broken_35 : decode cX4_broken 35 = .ok (.goto 4, 3) := by decide +kernel
theorem dX4_broken_38 : decode cX4_broken 38 = .ok (.iconst 2, 1) := by decide +kernel
theorem dX4_broken_39 : decode cX4_broken 39 = .ok (.putfield 43, 3) := by decide +kernel
theorem dX4_broken_42 : decode cX4_broken 42 = .ok (.aload_n 0, 1) := by decide +kernel
theorem dX4_broken_43 : decode cX4_broken 43 = .ok (.getfield 43, 3) := by decide +kernel
theorem dX4_broken_46 : decode cX4_broken 46 = .ok (.ifCond .le 5, 3) := by decide +kernel
theorem dX4_broken_49 : decode cX4_broken 49 = .ok (.lconst 0, 1) := by decide +kernel
theorem dX4_broken_50 : decode cX4_broken 50 = .ok (.lreturn, 1) := by decide +kernel
theorem dX4_broken_51 : decode cX4_broken 51 = .ok (.iload_n 3, 1) := by decide +kernel
theorem dX4_broken_52 : decode cX4_broken 52 = .ok (.iconst 2, 1) := by decide +kernel
theorem dX4_broken_53 : decode cX4_broken 53 = .ok (.if_icmp .ge 7, 3) := by decide +kernel
theorem dX4_broken_56 : decode cX4_broken 56 = .ok (.iload_n 2, 1) := by decide +kernel
theorem dX4_broken_57 : decode cX4_broken 57 = .ok (.goto 6, 3) := by decide +kernel
theorem dX4_broken_60 : decode cX4_broken 60 = .ok (.iload_n 2, 1) := by decide +kernel
theorem dX4_broken_61 : decode cX4_broken 61 = .ok (.iconst 1, 1) := by decide +kernel
theorem dX4_broken_62 : decode cX4_broken 62 = .ok (.iadd, 1) := by decide +kernel
theorem dX4_broken_63 : decode cX4_broken 63 = .ok (.istore 4, 2) := by decide +kernel
theorem dX4_broken_65 : decode cX4_broken 65 = .ok (.iload_n 3, 1) := by decide +kernel
theorem dX4_broken_66 : decode cX4_broken 66 = .ok (.iconst 2, 1) := by decide +kernel
theorem dX4_broken_67 : decode cX4_broken 67 = .ok (.irem, 1) := by decide +kernel
theorem dX4_broken_68 : decode cX4_broken 68 = .ok (.ifCond .ne 8, 3) := by decide +kernel
theorem dX4_broken_71 : decode cX4_broken 71 = .ok (.iload 4, 2) := by decide +kernel
theorem dX4_broken_73 : decode cX4_broken 73 = .ok (.goto 6, 3) := by decide +kernel
theorem dX4_broken_76 : decode cX4_broken 76 = .ok (.iload_n 1, 1) := by decide +kernel
theorem dX4_broken_77 : decode cX4_broken 77 = .ok (.iconst 1, 1) := by decide +kernel
theorem dX4_broken_78 : decode cX4_broken 78 = .ok (.iadd, 1) := by decide +kernel
theorem dX4_broken_79 : decode cX4_broken 79 = .ok (.iload 4, 2) := by decide +kernel
theorem dX4_broken_81 : decode cX4_broken 81 = .ok (.iload_n 1, 1) := by decide +kernel
theorem dX4_broken_82 : decode cX4_broken 82 = .ok (.iconst 1, 1) := by decide +kernel
theorem dX4_broken_83 : decode cX4_broken 83 = .ok (.iadd, 1) := by decide +kernel
theorem dX4_broken_84 : decode cX4_broken 84 = .ok (.invokestatic 102, 3) := by decide +kernel
theorem dX4_broken_87 : decode cX4_broken 87 = .ok (.idiv, 1) := by decide +kernel
theorem dX4_broken_88 : decode cX4_broken 88 = .ok (.i2l, 1) := by decide +kernel
theorem dX4_broken_89 : decode cX4_broken 89 = .ok (.lreturn, 1) := by decide +kernel
theorem dX4_relaxed_0 : decode cX4_relaxed 0 = .ok (.aload_n 0, 1) := by decide +kernel
theorem dX4_relaxed_1 : decode cX4_relaxed 1 = .ok (.iload_n 1, 1) := by decide +kernel
theorem dX4_relaxed_2 : decode cX4_relaxed 2 = .ok (.invokestatic 47, 3) := by decide +kernel
theorem dX4_relaxed_5 : decode cX4_relaxed 5 = .ok (.ifCond .ne 7, 3) := by decide +kernel
theorem dX4_relaxed_8 : decode cX4_relaxed 8 = .ok (.iconst 1, 1) := by decide +kernel
theorem dX4_relaxed_9 : decode cX4_relaxed 9 = .ok (.goto 19, 3) := by decide +kernel
theorem dX4_relaxed_12 : decode cX4_relaxed 12 = .ok (.iload_n 2, 1) := by decide +kernel
theorem dX4_relaxed_13 : decode cX4_relaxed 13 = .ok (.ifCond .lt 14, 3) := by decide +kernel
theorem dX4_relaxed_16 : decode cX4_relaxed 16 = .ok (.iload_n 2, 1) := by decide +kernel
theorem dX4_relaxed_17 : decode cX4_relaxed 17 = .ok (.sipush 10000, 3) := by decide +kernel
theorem dX4_relaxed_20 : decode cX4_relaxed 20 = .ok (.if_icmp .gt 7, 3) := by decide +kernel
theorem dX4_relaxed_23 : decode cX4_relaxed 23 = .ok (.iconst 0, 1) := by decide +kernel
theorem dX4_relaxed_24 : decode cX4_relaxed 24 = .ok (.goto 4, 3) := by decide +kernel
theorem dX4_relaxed_27 : decode cX4_relaxed 27 = .ok (.iconst 2, 1) := by decide +kernel
theorem dX4_relaxed_28 : decode cX4_relaxed 28 = .ok (.putfield 43, 3) := by decide +kernel
theorem dX4_relaxed_31 : decode cX4_relaxed 31 = .ok (.aload_n 0, 1) := by decide +kernel
theorem dX4_relaxed_32 : decode cX4_relaxed 32 = .ok (.getfield 43, 3) := by decide +kernel
theorem dX4_relaxed_35 : decode cX4_relaxed 35 = .ok (.ifCond .le 7, 3) := by decide +kernel
theorem dX4_relaxed_38 : decode cX4_relaxed 38 = .ok (.dconst 0, 1) := by decide +kernel
theorem dX4_relaxed_39 : decode cX4_relaxed 39 = .ok (.goto 24, 3) := by decide +kernel
theorem dX4_relaxed_42 : decode cX4_relaxed 42 = .ok (.dconst 1, 1) := by decide +kernel
theorem dX4_relaxed_43 : decode cX4_relaxed 43 = .ok (.aload_n 0, 1) := by decide +kernel
theorem dX4_relaxed_44 : decode cX4_relaxed 44 = .ok (.getfield 29, 3) := by decide +kernel
theorem dX4_relaxed_47 : decode cX4_relaxed 47 = .ok (.iload_n 1, 1) := by decide +kernel
theorem dX4_relaxed_48 : decode cX4_relaxed 48 = .ok (.daload, 1) := by decide +kernel
theorem dX4_relaxed_49 : decode cX4_relaxed 49 = .ok (.dconst 1, 1) := by decide +kernel
theorem dX4_relaxed_50 : decode cX4_relaxed 50 = .ok (.dconst 1, 1) := by decide +kernel
theorem dX4_relaxed_51 : decode cX4_relaxed 51 = .ok (.dconst 1, 1) := by decide +kernel
theorem dX4_relaxed_52 : decode cX4_relaxed 52 = .ok (.iload_n 2, 1) := by decide +kernel
theorem dX4_relaxed_53 : decode cX4_relaxed 53 = .ok (.i2d, 1) := by decide +kernel
theorem dX4_relaxed_54 : decode cX4_relaxed 54 = .ok (.ldc2_w 106, 3) := by decide +kernel
theorem dX4_relaxed_57 : decode cX4_relaxed 57 = .ok (.ddiv, 1) := by decide +kernel
theorem dX4_relaxed_58 : decode cX4_relaxed 58 = .ok (.dadd, 1) := by decide +kernel
theorem dX4_relaxed_59 : decode cX4_relaxed 59 = .ok (.ddiv, 1) := by decide +kernel
theorem dX4_relaxed_60 : decode cX4_relaxed 60 = .ok (.dsub, 1) := by decide +kernel
theorem dX4_relaxed_61 : decode cX4_relaxed 61 = .ok (.dmul, 1) := by decide +kernel
theorem dX4_relaxed_62 : decode cX4_relaxed 62 = .ok (.dadd, 1) := by decide +kernel
theorem dX4_relaxed_63 : decode cX4_relaxed 63 = .ok (.dreturn, 1) := by decide +kernel
theorem dJ9_max_7cf53_0 : decode cJ9_max_7cf53 0 = .ok (.iload_n 0, 1) := by decide +kernel
theorem dJ9_max_7cf53_1 : decode cJ9_max_7cf53 1 = .ok (.iload_n 1, 1) := by decide +kernel
theorem dJ9_max_7cf53_2 : decode cJ9_max_7cf53 2 = .ok (.if_icmp .lt 7, 3) := by decide +kernel
theorem dJ9_max_7cf53_5 : decode cJ9_max_7cf53 5 = .ok (.iload_n 0, 1) := by decide +kernel
theorem dJ9_max_7cf53_6 : decode cJ9_max_7cf53 6 = .ok (.goto 4, 3) := by decide +kernel
theorem dJ9_max_7cf53_9 : decode cJ9_max_7cf53 9 = .ok (.iload_n 1, 1) := by decide +kernel
theorem dJ9_max_7cf53_10 : decode cJ9_max_7cf53 10 = .ok (.ireturn, 1) := by decide +kernel
abbrev vwCl : List vw_C := [(RX0, TX0, 4), (RX1, TX1, 3), (RX2, TX2, 1), (RX3, TX3, 4), (RX4, TX4, 15)]
