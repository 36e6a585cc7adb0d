theorem dX3_quotient_13 : decode cX3_quotient 13 = .ok (.lload_n 0, 1) := by decide +kernel
theorem dX3_quotient_14 : decode cX3_quotient 14 = .ok (.lload_n 2, 1) := by decide +kernel
theorem dX3_quotient_15 : decode cX3_quotient 15 = .ok (.ladd, 1) := by decide +kernel
theorem dX3_quotient_16 : decode cX3_quotient 16 = .ok (.lconst 1, 1) := by decide +kernel
theorem dX3_quotient_17 : decode cX3_quotient 17 = .ok (.lsub, 1) := by decide +kernel
theorem dX3_quotient_18 : decode cX3_quotient 18 = .ok (.lload_n 2, 1) := by decide +kernel
theorem dX3_quotient_19 : decode cX3_quotient 19 = .ok (.ldiv, 1) := by decide +kernel
theorem dX3_quotient_20 : decode cX3_quotient 20 = .ok (.goto 6, 3) := by decide +kernel
theorem dX3_quotient_23 : decode cX3_quotient 23 = .ok (.lload_n 0, 1) := by decide +kernel
theorem dX3_quotient_24 : decode cX3_quotient 24 = .ok (.lload_n 2, 1) := by decide +kernel
theorem dX3_quotient_25 : decode cX3_quotient 25 = .ok (.ldiv, 1) := by decide +kernel
theorem dX3_quotient_26 : decode cX3_quotient 26 = .ok (.lreturn, 1) := by decide +kernel
theorem dX3_root_0 : decode cX3_root 0 = .ok (.lload_n 0, 1) := by decide +kernel
theorem dX3_root_1 : decode cX3_root 1 = .ok (.lconst 1, 1) := by decide +kernel
theorem dX3_root_2 : decode cX3_root 2 = .ok (.lcmp, 1) := by decide +kernel
theorem dX3_root_3 : decode cX3_root 3 = .ok (.ifCond .ge 5, 3) := by decide +kernel
theorem dX3_root_6 : decode cX3_root 6 = .ok (.lconst 0, 1) := by decide +kernel
theorem dX3_root_7 : decode cX3_root 7 = .ok (.lreturn, 1) := by decide +kernel
theorem dX3_root_8 : decode cX3_root 8 = .ok (.lconst 1, 1) := by decide +kernel
theorem dX3_root_9 : decode cX3_root 9 = .ok (.bipush 65, 2) := by decide +kernel
theorem dX3_root_11 : decode cX3_root 11 = .ok (.lload_n 0, 1) := by decide +kernel
theorem dX3_root_12 : decode cX3_root 12 = .ok (.invokestatic 7, 3) := by decide +kernel
theorem dX3_root_15 : decode cX3_root 15 = .ok (.isub, 1) := by decide +kernel
theorem dX3_root_16 : decode cX3_root 16 = .ok (.iconst 2, 1) := by decide +kernel
theorem dX3_root_17 : decode cX3_root 17 = .ok (.idiv, 1) := by decide +kernel
theorem dX3_root_18 : decode cX3_root 18 = .ok (.lshl, 1) := by decide +kernel
theorem dX3_root_19 : decode cX3_root 19 = .ok (.lstore_n 3, 1) := by decide +kernel
theorem dX3_root_20 : decode cX3_root 20 = .ok (.iconst 0, 1) := by decide +kernel
theorem dX3_root_21 : decode cX3_root 21 = .ok (.istore 5, 2) := by decide +kernel
theorem dX3_root_23 : decode cX3_root 23 = .ok (.iload 5, 2) := by decide +kernel
theorem dX3_root_25 : decode cX3_root 25 = .ok (.bipush 64, 2) := by decide +kernel
theorem dX3_root_27 : decode cX3_root 27 = .ok (.if_icmp .ge 39, 3) := by decide +kernel
theorem dX3_root_30 : decode cX3_root 30 = .ok (.lload_n 3, 1) := by decide +kernel
theorem dX3_root_31 : decode cX3_root 31 = .ok (.lconst 0, 1) := by decide +kernel
theorem dX3_root_32 : decode cX3_root 32 = .ok (.lcmp, 1) := by decide +kernel
theorem dX3_root_33 : decode cX3_root 33 = .ok (.ifCond .le 33, 3) := by decide +kernel
theorem dX3_root_36 : decode cX3_root 36 = .ok (.lload_n 3, 1) := by decide +kernel
theorem dX3_root_37 : decode cX3_root 37 = .ok (.lload_n 0, 1) := by decide +kernel
theorem dX3_root_38 : decode cX3_root 38 = .ok (.lload_n 3, 1) := by decide +kernel
theorem dX3_root_39 : decode cX3_root 39 = .ok (.ldiv, 1) := by decide +kernel
theorem dX3_root_40 : decode cX3_root 40 = .ok (.ladd, 1) := by decide +kernel
theorem dX3_root_41 : decode cX3_root 41 = .ok (.ldc2_w 13, 3) := by decide +kernel
theorem dX3_root_44 : decode cX3_root 44 = .ok (.ldiv, 1) := by decide +kernel
theorem dX3_root_45 : decode cX3_root 45 = .ok (.lstore 6, 2) := by decide +kernel
theorem dX3_root_47 : decode cX3_root 47 = .ok (.lload 6, 2) := by decide +kernel
theorem dX3_root_49 : decode cX3_root 49 = .ok (.lload_n 3, 1) := by decide +kernel
theorem dX3_root_50 : decode cX3_root 50 = .ok (.lcmp, 1) := by decide +kernel
theorem dX3_root_51 : decode cX3_root 51 = .ok (.ifCond .lt 6, 3) := by decide +kernel
theorem dX3_root_54 : decode cX3_root 54 = .ok (.goto 12, 3) := by decide +kernel
theorem dX3_root_57 : decode cX3_root 57 = .ok (.lload 6, 2) := by decide +kernel
theorem dX3_root_59 : decode cX3_root 59 = .ok (.lstore_n 3, 1) := by decide +kernel
theorem dX3_root_60 : decode cX3_root 60 = .ok (.iinc 5 1, 3) := by decide +kernel
theorem dX3_root_63 : decode cX3_root 63 = .ok (.goto (-40), 3) := by decide +kernel
theorem dX3_root_66 : decode cX3_root 66 = .ok (.iload_n 2, 1) := by decide +kernel
theorem dX3_root_67 : decode cX3_root 67 = .ok (.ifCond .eq 17, 3) := by decide +kernel
theorem dX3_root_70 : decode cX3_root 70 = .ok (.lload_n 3, 1) := by decide +kernel
theorem dX3_root_71 : decode cX3_root 71 = .ok (.lload_n 3, 1) := by decide +kernel
theorem dX3_root_72 : decode cX3_root 72 = .ok (.lmul, 1) := by decide +kernel
theorem dX3_root_73 : decode cX3_root 73 = .ok (.lload_n 0, 1) := by decide +kernel
theorem dX3_root_74 : decode cX3_root 74 = .ok (.lcmp, 1) := by decide +kernel
theorem dX3_root_75 : decode cX3_root 75 = .ok (.ifCond .ge 9, 3) := by decide +kernel
theorem dX3_root_78 : decode cX3_root 78 = .ok (.lload_n 3, 1) := by decide +kernel
theorem dX3_root_79 : decode cX3_root 79 = .ok (.lconst 1, 1) := by decide +kernel
theorem dX3_root_80 : decode cX3_root 80 = .ok (.ladd, 1) := by decide +kernel
theorem dX3_root_81 : decode cX3_root 81 = .ok (.goto 4, 3) := by decide +kernel
theorem dX3_root_84 : decode cX3_root 84 = .ok (.lload_n 3, 1) := by decide +kernel
theorem dX3_root_85 : decode cX3_root 85 = .ok (.lreturn, 1) := by decide +kernel
theorem dX4_init_0 : decode cX4_init 0 = .ok (.aload_n 0, 1) := by decide +kernel
theorem dX4_init_1 : decode cX4_init 1 = .ok (.invokespecial 3, 3) := by decide +kernel
theorem dX4_init_4 : decode cX4_init 4 = .ok (.aload_n 0, 1) := by decide +kernel
theorem dX4_init_5 : decode cX4_init 5 = .ok (.aload_n 1, 1) := by decide +kernel
theorem dX4_init_6 : decode cX4_init 6 = .ok (.putfield 9, 3) := by decide +kernel
theorem dX4_init_9 : decode cX4_init 9 = .ok (.aload_n 0, 1) := by decide +kernel
theorem dX4_init_10 : decode cX4_init 10 = .ok (.bipush 25, 2) := by decide +kernel
theorem dX4_init_12 : decode cX4_init 12 = .ok (.newarray .long, 2) := by decide +kernel
theorem dX4_init_14 : decode cX4_init 14 = .ok (.putfield 15, 3) := by decide +kernel
theorem dX4_init_17 : decode cX4_init 17 = .ok (.aload_n 0, 1) := by decide +kernel
theorem dX4_init_18 : decode cX4_init 18 = .ok (.bipush 25, 2) := by decide +kernel
theorem dX4_init_20 : decode cX4_init 20 = .ok (.newarray .long, 2) := by decide +kernel
theorem dX4_init_22 : decode cX4_init 22 = .ok (.putfield 19, 3) := by decide +kernel
theorem dX4_init_25 : decode cX4_init 25 = .ok (.return_, 1) := by decide +kernel
theorem dX4_holdPressures_0 : decode cX4_holdPressures 0 = .ok (.aload_n 0, 1) := by decide +kernel
theorem dX4_holdPressures_1 : decode cX4_holdPressures 1 = .ok (.iconst 1, 1) := by decide +kernel
theorem dX4_holdPressures_2 : decode cX4_holdPressures 2 = .ok (.iload_n 1, 1) := by decide +kernel
theorem dX4_holdPressures_3 : decode cX4_holdPressures 3 = .ok (.isub, 1) := by decide +kernel
theorem dX4_holdPressures_4 : decode cX4_holdPressures 4 = .ok (.aload_n 0, 1) := by decide +kernel
theorem dX4_holdPressures_5 : decode cX4_holdPressures 5 = .ok (.getfield 9, 3) := by decide +kernel
theorem dX4_holdPressures_8 : decode cX4_holdPressures 8 = .ok (.getfield 22, 3) := by decide +kernel
theorem dX4_holdPressures_11 : decode cX4_holdPressures 11 = .ok (.iload_n 2, 1) := by decide +kernel
theorem dX4_holdPressures_12 : decode cX4_holdPressures 12 = .ok (.invokevirtual 28, 3) := by decide +kernel
theorem dX4_holdPressures_15 : decode cX4_holdPressures 15 = .ok (.aload_n 0, 1) := by decide +kernel
theorem dX4_holdPressures_16 : decode cX4_holdPressures 16 = .ok (.iload_n 1, 1) := by decide +kernel
theorem dX4_holdPressures_17 : decode cX4_holdPressures 17 = .ok (.aload_n 0, 1) := by decide +kernel
theorem dX4_holdPressures_18 : decode cX4_holdPressures 18 = .ok (.getfield 9, 3) := by decide +kernel
theorem dX4_holdPressures_21 : decode cX4_holdPressures 21 = .ok (.getfield 22, 3) := by decide +kernel
theorem dX4_holdPressures_24 : decode cX4_holdPressures 24 = .ok (.aload_n 0, 1) := by decide +kernel
theorem dX4_holdPressures_25 : decode cX4_holdPressures 25 = .ok (.getfield 9, 3) := by decide +kernel
theorem dX4_holdPressures_28 : decode cX4_holdPressures 28 = .ok (.getfield 32, 3) := by decide +kernel
theorem dX4_holdPressures_31 : decode cX4_holdPressures 31 = .ok (.invokevirtual 36, 3) := by decide +kernel
theorem dX4_holdPressures_34 : decode cX4_holdPressures 34 = .ok (.return_, 1) := by decide +kernel
theorem dX4_gather_0 : decode cX4_gather 0 = .ok (.aload_n 0, 1) := by decide +kernel
theorem dX4_gather_1 : decode cX4_gather 1 = .ok (.getfield 15, 3) := by decide +kernel
theorem dX4_gather_4 : decode cX4_gather 4 = .ok (.lconst 0, 1) := by decide +kernel
theorem dX4_gather_5 : decode cX4_gather 5 = .ok (.invokestatic 39, 3) := by decide +kernel
theorem dX4_gather_8 : decode cX4_gather 8 = .ok (.aload_n 0, 1) := by decide +kernel
theorem dX4_gather_9 : decode cX4_gather 9 = .ok (.getfield 9, 3) := by decide +kernel
theorem dX4_gather_12 : decode cX4_gather 12 = .ok (.getfield 45, 3) := by decide +kernel
theorem dX4_gather_15 : decode cX4_gather 15 = .ok (.iconst 1, 1) := by decide +kernel
theorem dX4_gather_16 : decode cX4_gather 16 = .ok (.isub, 1) := by decide +kernel
theorem dX4_gather_17 : decode cX4_gather 17 = .ok (.istore 4, 2) := by decide +kernel
theorem dX4_gather_19 : decode cX4_gather 19 = .ok (.iload 4, 2) := by decide +kernel
theorem dX4_gather_21 : decode cX4_gather 21 = .ok (.ifCond .lt 75, 3) := by decide +kernel
theorem dX4_gather_24 : decode cX4_gather 24 = .ok (.iload_n 3, 1) := by decide +kernel
theorem dX4_gather_25 : decode cX4_gather 25 = .ok (.iload 4, 2) := by decide +kernel
theorem dX4_gather_27 : decode cX4_gather 27 = .ok (.invokestatic 48, 3) := by decide +kernel
theorem dX4_gather_30 : decode cX4_gather 30 = .ok (.iconst 1, 1) := by decide +kernel
theorem dX4_gather_31 : decode cX4_gather 31 = .ok (.if_icmp .ne 29, 3) := by decide +kernel
theorem dX4_gather_34 : decode cX4_gather 34 = .ok (.aload_n 0, 1) := by decide +kernel
theorem dX4_gather_35 : decode cX4_gather 35 = .ok (.getfield 15, 3) := by decide +kernel
theorem dX4_gather_38 : decode cX4_gather 38 = .ok (.iload 4, 2) := by decide +kernel
theorem dX4_gather_40 : decode cX4_gather 40 = .ok (.iconst 1, 1) := by decide +kernel
theorem dX4_gather_41 : decode cX4_gather 41 = .ok (.iadd, 1) := by decide +kernel
theorem dX4_gather_42 : decode cX4_gather 42 = .ok (.dup2, 1) := by decide +kernel
theorem dX4_gather_43 : decode cX4_gather 43 = .ok (.laload, 1) := by decide +kernel
theorem dX4_gather_44 : decode cX4_gather 44 = .ok (.ldc2_w 52, 3) := by decide +kernel
theorem dX4_gather_47 : decode cX4_gather 47 = .ok (.aload_n 0, 1) := by decide +kernel
theorem dX4_gather_48 : decode cX4_gather 48 = .ok (.getfield 9, 3) := by decide +kernel
theorem dX4_gather_51 : decode cX4_gather 51 = .ok (.iload 4, 2) := by decide +kernel
theorem dX4_gather_53 : decode cX4_gather 53 = .ok (.invokevirtual 54, 3) := by decide +kernel
theorem dX4_gather_56 : decode cX4_gather 56 = .ok (.i2l, 1) := by decide +kernel
theorem dX4_gather_57 : decode cX4_gather 57 = .ok (.lmul, 1) := by decide +kernel
theorem dX4_gather_58 : decode cX4_gather 58 = .ok (.ladd, 1) := by decide +kernel
theorem dX4_gather_59 : decode cX4_gather 59 = .ok (.lastore, 1) := by decide +kernel
theorem dX4_gather_60 : decode cX4_gather 60 = .ok (.aload_n 0, 1) := by decide +kernel
theorem dX4_gather_61 : decode cX4_gather 61 = .ok (.getfield 15, 3) := by decide +kernel
theorem dX4_gather_64 : decode cX4_gather 64 = .ok (.aload_n 0, 1) := by decide +kernel
theorem dX4_gather_65 : decode cX4_gather 65 = .ok (.getfield 9, 3) := by decide +kernel
theorem dX4_gather_68 : decode cX4_gather 68 = .ok (.getfield 58, 3) := by decide +kernel
theorem dX4_gather_71 : decode cX4_gather 71 = .ok (.iload 4, 2) := by decide +kernel
theorem dX4_gather_73 : decode cX4_gather 73 = .ok (.iaload, 1) := by decide +kernel
theorem dX4_gather_74 : decode cX4_gather 74 = .ok (.iconst 1, 1) := by decide +kernel
theorem dX4_gather_75 : decode cX4_gather 75 = .ok (.iadd, 1) := by decide +kernel
theorem dX4_gather_76 : decode cX4_gather 76 = .ok (.dup2, 1) := by decide +kernel
theorem dX4_gather_77 : decode cX4_gather 77 = .ok (.laload, 1) := by decide +kernel
theorem dX4_gather_78 : decode cX4_gather 78 = .ok (.aload_n 0, 1) := by decide +kernel
theorem dX4_gather_79 : decode cX4_gather 79 = .ok (.iload 4, 2) := by decide +kernel
theorem dX4_gather_81 : decode cX4_gather 81 = .ok (.iconst 1, 1) := by decide +kernel
theorem dX4_gather_82 : decode cX4_gather 82 = .ok (.iadd, 1) := by decide +kernel
theorem dX4_gather_83 : decode cX4_gather 83 = .ok (.iload_n 1, 1) := by decide +kernel
theorem dX4_gather_84 : decode cX4_gather 84 = .ok (.aload_n 2, 1) := by decide +kernel
theorem dX4_gather_85 : decode cX4_gather 85 = .ok (.invokevirtual 61, 3) := by decide +kernel
theorem dX4_gather_88 : decode cX4_gather 88 = .ok (.ladd, 1) := by decide +kernel
theorem dX4_gather_89 : decode cX4_gather 89 = .ok (.lastore, 1) := by decide +kernel
theorem dX4_gather_90 : decode cX4_gather 90 = .ok (.iinc 4 (-1), 3) := by decide +kernel
theorem dX4_gather_93 : decode cX4_gather 93 = .ok (.goto (-74), 3) := by decide +kernel
theorem dX4_gather_96 : decode cX4_gather 96 = .ok (.return_, 1) := by decide +kernel
theorem dX4_conductOf_0 : decode cX4_conductOf 0 = .ok (.aload_n 0, 1) := by decide +kernel
theorem dX4_conductOf_1 : decode cX4_conductOf 1 = .ok (.getfield 15, 3) := by decide +kernel
theorem dX4_conductOf_4 : decode cX4_conductOf 4 = .ok (.iload_n 1, 1) := by decide +kernel
theorem dX4_conductOf_5 : decode cX4_conductOf 5 = .ok (.laload, 1) := by decide +kernel
theorem dX4_conductOf_6 : decode cX4_conductOf 6 = .ok (.lstore 4, 2) := by decide +kernel
theorem dX4_conductOf_8 : decode cX4_conductOf 8 = .ok (.lload 4, 2) := by decide +kernel
theorem dX4_conductOf_10 : decode cX4_conductOf 10 = .ok (.lconst 0, 1) := by decide +kernel
theorem dX4_conductOf_11 : decode cX4_conductOf 11 = .ok (.lcmp, 1) := by decide +kernel
theorem dX4_conductOf_12 : decode cX4_conductOf 12 = .ok (.ifCond .eq 11, 3) := by decide +kernel
theorem dX4_conductOf_15 : decode cX4_conductOf 15 = .ok (.aload_n 0, 1) := by decide +kernel
theorem dX4_conductOf_16 : decode cX4_conductOf 16 = .ok (.iload_n 1, 1) := by decide +kernel
theorem dX4_conductOf_17 : decode cX4_conductOf 17 = .ok (.invokevirtual 65, 3) := by decide +kernel
theorem dX4_conductOf_20 : decode cX4_conductOf 20 = .ok (.ifCond .eq 5, 3) := by decide +kernel
theorem dX4_conductOf_23 : decode cX4_conductOf 23 = .ok (.lconst 0, 1) := by decide +kernel
theorem dX4_conductOf_24 : decode cX4_conductOf 24 = .ok (.lreturn, 1) := by decide +kernel
theorem dX4_conductOf_25 : decode cX4_conductOf 25 = .ok (.ldc2_w 69, 3) := by decide +kernel
theorem dX4_conductOf_28 : decode cX4_conductOf 28 = .ok (.aload_n 3, 1) := by decide +kernel
theorem dX4_conductOf_29 : decode cX4_conductOf 29 = .ok (.iload_n 1, 1) := by decide +kernel
theorem dX4_conductOf_30 : decode cX4_conductOf 30 = .ok (.iaload, 1) := by decide +kernel
theorem dX4_conductOf_31 : decode cX4_conductOf 31 = .ok (.i2l, 1) := by decide +kernel
theorem dX4_conductOf_32 : decode cX4_conductOf 32 = .ok (.lload 4, 2) := by decide +kernel
theorem dX4_conductOf_34 : decode cX4_conductOf 34 = .ok (.lmul, 1) := by decide +kernel
theorem dX4_conductOf_35 : decode cX4_conductOf 35 = .ok (.lload 4, 2) := by decide +kernel
theorem dX4_conductOf_37 : decode cX4_conductOf 37 = .ok (.lmul, 1) := by decide +kernel
theorem dX4_conductOf_38 : decode cX4_conductOf 38 = .ok (.ladd, 1) := by decide +kernel
theorem dX4_conductOf_39 : decode cX4_conductOf 39 = .ok (.lstore 6, 2) := by decide +kernel
theorem dX4_conductOf_41 : decode cX4_conductOf 41 = .ok (.lload 4, 2) := by decide +kernel
theorem dX4_conductOf_43 : decode cX4_conductOf 43 = .ok (.bipush 25, 2) := by decide +kernel
theorem dX4_conductOf_45 : decode cX4_conductOf 45 = .ok (.lshl, 1) := by decide +kernel
theorem dX4_conductOf_46 : decode cX4_conductOf 46 = .ok (.lload 6, 2) := by decide +kernel
theorem dX4_conductOf_48 : decode cX4_conductOf 48 = .ok (.iload_n 2, 1) := by decide +kernel
theorem dX4_conductOf_49 : decode cX4_conductOf 49 = .ok (.ifCond .ne 7, 3) := by decide +kernel
theorem dX4_conductOf_52 : decode cX4_conductOf 52 = .ok (.iconst 1, 1) := by decide +kernel
theorem dX4_conductOf_53 : decode cX4_conductOf 53 = .ok (.goto 4, 3) := by decide +kernel
theorem dX4_conductOf_56 : decode cX4_conductOf 56 = .ok (.iconst 0, 1) := by decide +kernel
theorem dX4_conductOf_57 : decode cX4_conductOf 57 = .ok (.invokestatic 71, 3) := by decide +kernel
theorem dX4_conductOf_60 : decode cX4_conductOf 60 = .ok (.iload_n 2, 1) := by decide +kernel
theorem dX4_conductOf_61 : decode cX4_conductOf 61 = .ok (.iconst 1, 1) := by decide +kernel
theorem dX4_conductOf_62 : decode cX4_conductOf 62 = .ok (.if_icmp .ne 7, 3) := by decide +kernel
theorem dX4_conductOf_65 : decode cX4_conductOf 65 = .ok (.iconst 1, 1) := by decide +kernel
theorem dX4_conductOf_66 : decode cX4_conductOf 66 = .ok (.goto 4, 3) := by decide +kernel
theorem dX4_conductOf_69 : decode cX4_conductOf 69 = .ok (.iconst 0, 1) := by decide +kernel
theorem dX4_conductOf_70 : decode cX4_conductOf 70 = .ok (.invokestatic 77, 3) := by decide +kernel
theorem dX4_conductOf_73 : decode cX4_conductOf 73 = .ok (.lreturn, 1) := by decide +kernel
theorem dX4_fall_0 : decode cX4_fall 0 = .ok (.aload_n 0, 1) := by decide +kernel
theorem dX4_fall_1 : decode cX4_fall 1 = .ok (.getfield 19, 3) := by decide +kernel
theorem dX4_fall_4 : decode cX4_fall 4 = .ok (.iconst 0, 1) := by decide +kernel
theorem dX4_fall_5 : decode cX4_fall 5 = .ok (.aload_n 0, 1) := by decide +kernel
theorem dX4_fall_6 : decode cX4_fall 6 = .ok (.ldc2_w 52, 3) := by decide +kernel
theorem dX4_fall_9 : decode cX4_fall 9 = .ok (.iload_n 3, 1) := by decide +kernel
theorem dX4_fall_10 : decode cX4_fall 10 = .ok (.i2l, 1) := by decide +kernel
theorem dX4_fall_11 : decode cX4_fall 11 = .ok (.lmul, 1) := by decide +kernel
theorem dX4_fall_12 : decode cX4_fall 12 = .ok (.iconst 0, 1) := by decide +kernel
theorem dX4_fall_13 : decode cX4_fall 13 = .ok (.iload_n 1, 1) := by decide +kernel
theorem dX4_fall_14 : decode cX4_fall 14 = .ok (.aload_n 2, 1) := by decide +kernel
theorem dX4_fall_15 : decode cX4_fall 15 = .ok (.invokevirtual 81, 3) := by decide +kernel
theorem dX4_fall_18 : decode cX4_fall 18 = .ok (.lastore, 1) := by decide +kernel
theorem dX4_fall_19 : decode cX4_fall 19 = .ok (.iconst 0, 1) := by decide +kernel
theorem dX4_fall_20 : decode cX4_fall 20 = .ok (.istore 4, 2) := by decide +kernel
theorem dX4_fall_22 : decode cX4_fall 22 = .ok (.iload 4, 2) := by decide +kernel
theorem dX4_fall_24 : decode cX4_fall 24 = .ok (.aload_n 0, 1) := by decide +kernel
theorem dX4_fall_25 : decode cX4_fall 25 = .ok (.getfield 9, 3) := by decide +kernel
theorem dX4_fall_28 : decode cX4_fall 28 = .ok (.getfield 45, 3) := by decide +kernel
theorem dX4_fall_31 : decode cX4_fall 31 = .ok (.if_icmp .ge 45, 3) := by decide +kernel
theorem dX4_fall_34 : decode cX4_fall 34 = .ok (.aload_n 0, 1) := by decide +kernel
theorem dX4_fall_35 : decode cX4_fall 35 = .ok (.getfield 19, 3) := by decide +kernel
theorem dX4_fall_38 : decode cX4_fall 38 = .ok (.iload 4, 2) := by decide +kernel
theorem dX4_fall_40 : decode cX4_fall 40 = .ok (.iconst 1, 1) := by decide +kernel
theorem dX4_fall_41 : decode cX4_fall 41 = .ok (.iadd, 1) := by decide +kernel
theorem dX4_fall_42 : decode cX4_fall 42 = .ok (.aload_n 0, 1) := by decide +kernel
theorem dX4_fall_43 : decode cX4_fall 43 = .ok (.aload_n 0, 1) := by decide +kernel
theorem dX4_fall_44 : decode cX4_fall 44 = .ok (.getfield 19, 3) := by decide +kernel
theorem dX4_fall_47 : decode cX4_fall 47 = .ok (.aload_n 0, 1) := by decide +kernel
theorem dX4_fall_48 : decode cX4_fall 48 = .ok (.getfield 9, 3) := by decide +kernel
theorem dX4_fall_51 : decode cX4_fall 51 = .ok (.getfield 58, 3) := by decide +kernel
theorem dX4_fall_54 : decode cX4_fall 54 = .ok (.iload 4, 2) := by decide +kernel
theorem dX4_fall_56 : decode cX4_fall 56 = .ok (.iaload, 1) := by decide +kernel
theorem dX4_fall_57 : decode cX4_fall 57 = .ok (.iconst 1, 1) := by decide +kernel
theorem dX4_fall_58 : decode cX4_fall 58 = .ok (.iadd, 1) := by decide +kernel
theorem dX4_fall_59 : decode cX4_fall 59 = .ok (.laload, 1) := by decide +kernel
theorem dX4_fall_60 : decode cX4_fall 60 = .ok (.iload 4, 2) := by decide +kernel
theorem dX4_fall_62 : decode cX4_fall 62 = .ok (.iconst 1, 1) := by decide +kernel
theorem dX4_fall_63 : decode cX4_fall 63 = .ok (.iadd, 1) := by decide +kernel
theorem dX4_fall_64 : decode cX4_fall 64 = .ok (.iload_n 1, 1) := by decide +kernel
theorem dX4_fall_65 : decode cX4_fall 65 = .ok (.aload_n 2, 1) := by decide +kernel
theorem dX4_fall_66 : decode cX4_fall 66 = .ok (.invokevirtual 81, 3) := by decide +kernel
theorem dX4_fall_69 : decode cX4_fall 69 = .ok (.lastore, 1) := by decide +kernel
theorem dX4_fall_70 : decode cX4_fall 70 = .ok (.iinc 4 1, 3) := by decide +kernel
theorem dX4_fall_73 : decode cX4_fall 73 = .ok (.goto (-51), 3) := by decide +kernel
theorem dX4_fall_76 : decode cX4_fall 76 = .ok (.return_, 1) := by decide +kernel
theorem dX4_fallen_0 : decode cX4_fallen 0 = .ok (.aload_n 0, 1) := by decide +kernel
theorem dX4_fallen_1 : decode cX4_fallen 1 = .ok (.iload_n 3, 1) := by decide +kernel
theorem dX4_fallen_2 : decode cX4_fallen 2 = .ok (.invokevirtual 65, 3) := by decide +kernel
theorem dX4_fallen_5 : decode cX4_fallen 5 = .ok (.ifCond .eq 5, 3) := by decide +kernel
theorem dX4_fallen_8 : decode cX4_fallen 8 = .ok (.lconst 0, 1) := by decide +kernel
theorem dX4_fallen_9 : decode cX4_fallen 9 = .ok (.lreturn, 1) := by decide +kernel
theorem dX4_fallen_10 : decode cX4_fallen 10 = .ok (.ldc2_w 85, 3) := by decide +kernel
theorem dX4_fallen_13 : decode cX4_fallen 13 = .ok (.aload 5, 2) := by decide +kernel
theorem dX4_fallen_15 : decode cX4_fallen 15 = .ok (.iload_n 3, 1) := by decide +kernel
theorem dX4_fallen_16 : decode cX4_fallen 16 = .ok (.iaload, 1) := by decide +kernel
theorem dX4_fallen_17 : decode cX4_fallen 17 = .ok (.i2l, 1) := by decide +kernel
theorem dX4_fallen_18 : decode cX4_fallen 18 = .ok (.aload_n 0, 1) := by decide +kernel
theorem dX4_fallen_19 : decode cX4_fallen 19 = .ok (.getfield 15, 3) := by decide +kernel
theorem dX4_fallen_22 : decode cX4_fallen 22 = .ok (.iload_n 3, 1) := by decide +kernel
theorem dX4_fallen_23 : decode cX4_fallen 23 = .ok (.laload, 1) := by decide +kernel
theorem dX4_fallen_24 : decode cX4_fallen 24 = .ok (.lmul, 1) := by decide +kernel
theorem dX4_fallen_25 : decode cX4_fallen 25 = .ok (.aload_n 0, 1) := by decide +kernel
theorem dX4_fallen_26 : decode cX4_fallen 26 = .ok (.getfield 15, 3) := by decide +kernel
theorem dX4_fallen_29 : decode cX4_fallen 29 = .ok (.iload_n 3, 1) := by decide +kernel
theorem dX4_fallen_30 : decode cX4_fallen 30 = .ok (.laload, 1) := by decide +kernel
theorem dX4_fallen_31 : decode cX4_fallen 31 = .ok (.lmul, 1) := by decide +kernel
theorem dX4_fallen_32 : decode cX4_fallen 32 = .ok (.ldc2_w 87, 3) := by decide +kernel
theorem dX4_fallen_35 : decode cX4_fallen 35 = .ok (.iload 4, 2) := by decide +kernel
theorem dX4_fallen_37 : decode cX4_fallen 37 = .ok (.ifCond .ne 7, 3) := by decide +kernel
theorem dX4_fallen_40 : decode cX4_fallen 40 = .ok (.iconst 1, 1) := by decide +kernel
theorem dX4_fallen_41 : decode cX4_fallen 41 = .ok (.goto 4, 3) := by decide +kernel
theorem dX4_fallen_44 : decode cX4_fallen 44 = .ok (.iconst 0, 1) := by decide +kernel
theorem dX4_fallen_45 : decode cX4_fallen 45 = .ok (.invokestatic 77, 3) := by decide +kernel
theorem dX4_fallen_48 : decode cX4_fallen 48 = .ok (.ladd, 1) := by decide +kernel
theorem dX4_fallen_49 : decode cX4_fallen 49 = .ok (.lstore 6, 2) := by decide +kernel
theorem dX4_fallen_51 : decode cX4_fallen 51 = .ok (.lload_n 1, 1) := by decide +kernel
theorem dX4_fallen_52 : decode cX4_fallen 52 = .ok (.bipush 30, 2) := by decide +kernel
theorem dX4_fallen_54 : decode cX4_fallen 54 = .ok (.lshl, 1) := by decide +kernel
theorem dX4_fallen_55 : decode cX4_fallen 55 = .ok (.lload 6, 2) := by decide +kernel
theorem dX4_fallen_57 : decode cX4_fallen 57 = .ok (.iload 4, 2) := by decide +kernel
theorem dX4_fallen_59 : decode cX4_fallen 59 = .ok (.iconst 1, 1) := by decide +kernel
theorem dX4_fallen_60 : decode cX4_fallen 60 = .ok (.if_icmp .ne 7, 3) := by decide +kernel
theorem dX4_fallen_63 : decode cX4_fallen 63 = .ok (.iconst 1, 1) := by decide +kernel
theorem dX4_fallen_64 : decode cX4_fallen 64 = .ok (.goto 4, 3) := by decide +kernel
theorem dX4_fallen_67 : decode cX4_fallen 67 = .ok (.iconst 0, 1) := by decide +kernel
theorem dX4_fallen_68 : decode cX4_fallen 68 = .ok (.invokestatic 77, 3) := by decide +kernel
theorem dX4_fallen_71 : decode cX4_fallen 71 = .ok (.lreturn, 1) := by decide +kernel
theorem dX4_isClosed_0 : decode cX4_isClosed 0 = .ok (.iload_n 1, 1) := by decide +kernel
theorem dX4_isClosed_1 : decode cX4_isClosed 1 = .ok (.ifCond .le 24, 3) := by decide +kernel
theorem dX4_isClosed_4 : decode cX4_isClosed 4 = .ok (.aload_n 0, 1) := by decide +kernel
theorem dX4_isClosed_5 : decode cX4_isClosed 5 = .ok (.getfield 9, 3) := by decide +kernel
theorem dX4_isClosed_8 : decode cX4_isClosed 8 = .ok (.getfield 89, 3) := by decide +kernel
theorem dX4_isClosed_11 : decode cX4_isClosed 11 = .ok (.iload_n 1, 1) := by decide +kernel
theorem dX4_isClosed_12 : decode cX4_isClosed 12 = .ok (.iconst 1, 1) := by decide +kernel
theorem dX4_isClosed_13 : decode cX4_isClosed 13 = .ok (.isub, 1) := by decide +kernel
theorem dX4_isClosed_14 : decode cX4_isClosed 14 = .ok (.invokestatic 48, 3) := by decide +kernel
theorem dX4_isClosed_17 : decode cX4_isClosed 17 = .ok (.iconst 1, 1) := by decide +kernel
theorem dX4_isClosed_18 : decode cX4_isClosed 18 = .ok (.if_icmp .ne 7, 3) := by decide +kernel
theorem dX4_isClosed_21 : decode cX4_isClosed 21 = .ok (.iconst 1, 1) := by decide +kernel
theorem dX4_isClosed_22 : decode cX4_isClosed 22 = .ok (.goto 4, 3) := by decide +kernel
theorem dX4_isClosed_25 : decode cX4_isClosed 25 = .ok (.iconst 0, 1) := by decide +kernel
theorem dX4_isClosed_26 : decode cX4_isClosed 26 = .ok (.ireturn, 1) := by decide +kernel
theorem dX4_flowOf_0 : decode cX4_flowOf 0 = .ok (.aload_n 0, 1) := by decide +kernel
theorem dX4_flowOf_1 : decode cX4_flowOf 1 = .ok (.getfield 9, 3) := by decide +kernel
theorem dX4_flowOf_4 : decode cX4_flowOf 4 = .ok (.iload_n 1, 1) := by decide +kernel
theorem dX4_flowOf_5 : decode cX4_flowOf 5 = .ok (.invokevirtual 54, 3) := by decide +kernel
theorem dX4_flowOf_8 : decode cX4_flowOf 8 = .ok (.i2l, 1) := by decide +kernel
theorem dX4_flowOf_9 : decode cX4_flowOf 9 = .ok (.aload_n 0, 1) := by decide +kernel
theorem dX4_flowOf_10 : decode cX4_flowOf 10 = .ok (.getfield 19, 3) := by decide +kernel
theorem dX4_flowOf_13 : decode cX4_flowOf 13 = .ok (.iload_n 1, 1) := by decide +kernel
theorem dX4_flowOf_14 : decode cX4_flowOf 14 = .ok (.iconst 1, 1) := by decide +kernel
theorem dX4_flowOf_15 : decode cX4_flowOf 15 = .ok (.iadd, 1) := by decide +kernel
theorem dX4_flowOf_16 : decode cX4_flowOf 16 = .ok (.laload, 1) := by decide +kernel
theorem dX4_flowOf_17 : decode cX4_flowOf 17 = .ok (.ldc2_w 52, 3) := by decide +kernel
theorem dX4_flowOf_20 : decode cX4_flowOf 20 = .ok (.lmul, 1) := by decide +kernel
theorem dX4_flowOf_21 : decode cX4_flowOf 21 = .ok (.iload_n 2, 1) := by decide +kernel
theorem dX4_flowOf_22 : decode cX4_flowOf 22 = .ok (.iconst 1, 1) := by decide +kernel
theorem dX4_flowOf_23 : decode cX4_flowOf 23 = .ok (.if_icmp .ne 7, 3) := by decide +kernel
theorem dX4_flowOf_26 : decode cX4_flowOf 26 = .ok (.iconst 1, 1) := by decide +kernel
theorem dX4_flowOf_27 : decode cX4_flowOf 27 = .ok (.goto 4, 3) := by decide +kernel
theorem dX4_flowOf_30 : decode cX4_flowOf 30 = .ok (.iconst 0, 1) := by decide +kernel
theorem dX4_flowOf_31 : decode cX4_flowOf 31 = .ok (.invokestatic 71, 3) := by decide +kernel
theorem dX4_flowOf_34 : decode cX4_flowOf 34 = .ok (.lmul, 1) := by decide +kernel
theorem dX4_flowOf_35 : decode cX4_flowOf 35 = .ok (.lreturn, 1) := by decide +kernel
theorem dX4_spareOf_0 : decode cX4_spareOf 0 = .ok (.aload_n 0, 1) := by decide +kernel
theorem dX4_spareOf_1 : decode cX4_spareOf 1 = .ok (.iload_n 1, 1) := by decide +kernel
theorem dX4_spareOf_2 : decode cX4_spareOf 2 = .ok (.iconst 0, 1) := by decide +kernel
theorem dX4_spareOf_3 : decode cX4_spareOf 3 = .ok (.invokevirtual 92, 3) := by decide +kernel
theorem dX4_spareOf_6 : decode cX4_spareOf 6 = .ok (.ldc2_w 52, 3) := by decide +kernel
theorem dX4_spareOf_9 : decode cX4_spareOf 9 = .ok (.aload_n 0, 1) := by decide +kernel
theorem dX4_spareOf_10 : decode cX4_spareOf 10 = .ok (.getfield 9, 3) := by decide +kernel
theorem dX4_spareOf_13 : decode cX4_spareOf 13 = .ok (.getfield 96, 3) := by decide +kernel
theorem dX4_spareOf_16 : decode cX4_spareOf 16 = .ok (.iload_n 1, 1) := by decide +kernel
theorem dX4_spareOf_17 : decode cX4_spareOf 17 = .ok (.iaload, 1) := by decide +kernel
theorem dX4_spareOf_18 : decode cX4_spareOf 18 = .ok (.i2l, 1) := by decide +kernel
theorem dX4_spareOf_19 : decode cX4_spareOf 19 = .ok (.lmul, 1) := by decide +kernel
theorem dX4_spareOf_20 : decode cX4_spareOf 20 = .ok (.lsub, 1) := by decide +kernel
theorem dX4_spareOf_21 : decode cX4_spareOf 21 = .ok (.lreturn, 1) := by decide +kernel
theorem dX4_leastSpare_0 : decode cX4_leastSpare 0 = .ok (.iload_n 1, 1) := by decide +kernel
theorem dX4_leastSpare_1 : decode cX4_leastSpare 1 = .ok (.ifCond .ne 5, 3) := by decide +kernel
theorem dX4_leastSpare_4 : decode cX4_leastSpare 4 = .ok (.lconst 0, 1) := by decide +kernel
theorem dX4_leastSpare_5 : decode cX4_leastSpare 5 = .ok (.lreturn, 1) := by decide +kernel
theorem dX4_leastSpare_6 : decode cX4_leastSpare 6 = .ok (.ldc2_w 99, 3) := by decide +kernel
theorem dX4_leastSpare_9 : decode cX4_leastSpare 9 = .ok (.lstore_n 2, 1) := by decide +kernel
theorem dX4_leastSpare_10 : decode cX4_leastSpare 10 = .ok (.iconst 0, 1) := by decide +kernel
theorem dX4_leastSpare_11 : decode cX4_leastSpare 11 = .ok (.istore 4, 2) := by decide +kernel
theorem dX4_leastSpare_13 : decode cX4_leastSpare 13 = .ok (.iload 4, 2) := by decide +kernel
theorem dX4_leastSpare_15 : decode cX4_leastSpare 15 = .ok (.aload_n 0, 1) := by decide +kernel
theorem dX4_leastSpare_16 : decode cX4_leastSpare 16 = .ok (.getfield 9, 3) := by decide +kernel
theorem dX4_leastSpare_19 : decode cX4_leastSpare 19 = .ok (.getfield 45, 3) := by decide +kernel
theorem dX4_leastSpare_22 : decode cX4_leastSpare 22 = .ok (.if_icmp .ge 30, 3) := by decide +kernel
theorem dX4_leastSpare_25 : decode cX4_leastSpare 25 = .ok (.iload_n 1, 1) := by decide +kernel
theorem dX4_leastSpare_26 : decode cX4_leastSpare 26 = .ok (.iload 4, 2) := by decide +kernel
theorem dX4_leastSpare_28 : decode cX4_leastSpare 28 = .ok (.invokestatic 48, 3) := by decide +kernel
theorem dX4_leastSpare_31 : decode cX4_leastSpare 31 = .ok (.iconst 1, 1) := by decide +kernel
theorem dX4_leastSpare_32 : decode cX4_leastSpare 32 = .ok (.if_icmp .ne 14, 3) := by decide +kernel
theorem dX4_leastSpare_35 : decode cX4_leastSpare 35 = .ok (.lload_n 2, 1) := by decide +kernel
theorem dX4_leastSpare_36 : decode cX4_leastSpare 36 = .ok (.aload_n 0, 1) := by decide +kernel
theorem dX4_leastSpare_37 : decode cX4_leastSpare 37 = .ok (.iload 4, 2) := by decide +kernel
theorem dX4_leastSpare_39 : decode cX4_leastSpare 39 = .ok (.invokevirtual 101, 3) := by decide +kernel
theorem dX4_leastSpare_42 : decode cX4_leastSpare 42 = .ok (.invokestatic 105, 3) := by decide +kernel
theorem dX4_leastSpare_45 : decode cX4_leastSpare 45 = .ok (.lstore_n 2, 1) := by decide +kernel
theorem dX4_leastSpare_46 : decode cX4_leastSpare 46 = .ok (.iinc 4 1, 3) := by decide +kernel
theorem dX4_leastSpare_49 : decode cX4_leastSpare 49 = .ok (.goto (-36), 3) := by decide +kernel
theorem dX4_leastSpare_52 : decode cX4_leastSpare 52 = .ok (.lload_n 2, 1) := by decide +kernel
theorem dX4_leastSpare_53 : decode cX4_leastSpare 53 = .ok (.lreturn, 1) := by decide +kernel
theorem dX5_init_0 : decode cX5_init 0 = .ok (.aload_n 0, 1) := by decide +kernel
theorem dX5_init_1 : decode cX5_init 1 = .ok (.invokespecial 3, 3) := by decide +kernel
theorem dX5_init_4 : decode cX5_init 4 = .ok (.new 9, 3) := by decide +kernel
theorem dX5_init_7 : decode cX5_init 7 = .ok (.dup, 1) := by decide +kernel
theorem dX5_init_8 : decode cX5_init 8 = .ok (.invokespecial 11, 3) := by decide +kernel
theorem dX5_init_11 : decode cX5_init 11 = .ok (.astore_n 1, 1) := by decide +kernel
theorem dX5_init_12 : decode cX5_init 12 = .ok (.new 12, 3) := by decide +kernel
theorem dX5_init_15 : decode cX5_init 15 = .ok (.dup, 1) := by decide +kernel
theorem dX5_init_16 : decode cX5_init 16 = .ok (.aload_n 1, 1) := by decide +kernel
theorem dX5_init_17 : decode cX5_init 17 = .ok (.invokespecial 14, 3) := by decide +kernel
theorem dX5_init_20 : decode cX5_init 20 = .ok (.astore_n 2, 1) := by decide +kernel
theorem dX5_init_21 : decode cX5_init 21 = .ok (.bipush 6, 2) := by decide +kernel
theorem dX5_init_23 : decode cX5_init 23 = .ok (.newarray .int, 2) := by decide +kernel
theorem dX5_init_25 : decode cX5_init 25 = .ok (.astore_n 3, 1) := by decide +kernel
theorem dX5_init_26 : decode cX5_init 26 = .ok (.aload_n 0, 1) := by decide +kernel
theorem dX5_init_27 : decode cX5_init 27 = .ok (.aload_n 1, 1) := by decide +kernel
theorem dX5_init_28 : decode cX5_init 28 = .ok (.putfield 17, 3) := by decide +kernel
theorem dX5_init_31 : decode cX5_init 31 = .ok (.aload_n 0, 1) := by decide +kernel
theorem dX5_init_32 : decode cX5_init 32 = .ok (.aload_n 2, 1) := by decide +kernel
theorem dX5_init_33 : decode cX5_init 33 = .ok (.putfield 21, 3) := by decide +kernel
theorem dX5_init_36 : decode cX5_init 36 = .ok (.aload_n 0, 1) := by decide +kernel
theorem dX5_init_37 : decode cX5_init 37 = .ok (.aload_n 3, 1) := by decide +kernel
theorem dX5_init_38 : decode cX5_init 38 = .ok (.putfield 25, 3) := by decide +kernel
theorem dX5_init_41 : decode cX5_init 41 = .ok (.aload_n 0, 1) := by decide +kernel
theorem dX5_init_42 : decode cX5_init 42 = .ok (.new 29, 3) := by decide +kernel
theorem dX5_init_45 : decode cX5_init 45 = .ok (.dup, 1) := by decide +kernel
theorem dX5_init_46 : decode cX5_init 46 = .ok (.aload_n 1, 1) := by decide +kernel
theorem dX5_init_47 : decode cX5_init 47 = .ok (.aload_n 2, 1) := by decide +kernel
theorem dX5_init_48 : decode cX5_init 48 = .ok (.aload_n 3, 1) := by decide +kernel
theorem dX5_init_49 : decode cX5_init 49 = .ok (.invokespecial 31, 3) := by decide +kernel
theorem dX5_init_52 : decode cX5_init 52 = .ok (.putfield 34, 3) := by decide +kernel
theorem dX5_init_55 : decode cX5_init 55 = .ok (.aload_n 0, 1) := by decide +kernel
theorem dX5_init_56 : decode cX5_init 56 = .ok (.new 38, 3) := by decide +kernel
theorem dX5_init_59 : decode cX5_init 59 = .ok (.dup, 1) := by decide +kernel
theorem dX5_init_60 : decode cX5_init 60 = .ok (.invokespecial 40, 3) := by decide +kernel
theorem dX5_init_63 : decode cX5_init 63 = .ok (.putfield 41, 3) := by decide +kernel
theorem dX5_init_66 : decode cX5_init 66 = .ok (.return_, 1) := by decide +kernel
theorem dX5_supply_0 : decode cX5_supply 0 = .ok (.iload_n 1, 1) := by decide +kernel
theorem dX5_supply_1 : decode cX5_supply 1 = .ok (.iconst 1, 1) := by decide +kernel
theorem dX5_supply_2 : decode cX5_supply 2 = .ok (.ldc 45, 2) := by decide +kernel
theorem dX5_supply_4 : decode cX5_supply 4 = .ok (.invokestatic 46, 3) := by decide +kernel
theorem dX5_supply_7 : decode cX5_supply 7 = .ok (.ifCond .eq 14, 3) := by decide +kernel
theorem dX5_supply_10 : decode cX5_supply 10 = .ok (.iload_n 2, 1) := by decide +kernel
theorem dX5_supply_11 : decode cX5_supply 11 = .ok (.iconst 0, 1) := by decide +kernel
theorem dX5_supply_12 : decode cX5_supply 12 = .ok (.sipush 4000, 3) := by decide +kernel
theorem dX5_supply_15 : decode cX5_supply 15 = .ok (.invokestatic 46, 3) := by decide +kernel
theorem dX5_supply_18 : decode cX5_supply 18 = .ok (.ifCond .ne 6, 3) := by decide +kernel
theorem dX5_supply_21 : decode cX5_supply 21 = .ok (.bipush (-2), 2) := by decide +kernel
theorem dX5_supply_23 : decode cX5_supply 23 = .ok (.ireturn, 1) := by decide +kernel
theorem dX5_supply_24 : decode cX5_supply 24 = .ok (.aload_n 0, 1) := by decide +kernel
theorem dX5_supply_25 : decode cX5_supply 25 = .ok (.getfield 17, 3) := by decide +kernel
theorem dX5_supply_28 : decode cX5_supply 28 = .ok (.iload_n 1, 1) := by decide +kernel
theorem dX5_supply_29 : decode cX5_supply 29 = .ok (.putfield 50, 3) := by decide +kernel
theorem dX5_supply_32 : decode cX5_supply 32 = .ok (.aload_n 0, 1) := by decide +kernel
theorem dX5_supply_33 : decode cX5_supply 33 = .ok (.getfield 17, 3) := by decide +kernel
theorem dX5_supply_36 : decode cX5_supply 36 = .ok (.getfield 54, 3) := by decide +kernel
theorem dX5_supply_39 : decode cX5_supply 39 = .ok (.iconst 0, 1) := by decide +kernel
theorem dX5_supply_40 : decode cX5_supply 40 = .ok (.iload_n 2, 1) := by decide +kernel
theorem dX5_supply_41 : decode cX5_supply 41 = .ok (.iastore, 1) := by decide +kernel
theorem dX5_supply_42 : decode cX5_supply 42 = .ok (.iconst 1, 1) := by decide +kernel
theorem dX5_supply_43 : decode cX5_supply 43 = .ok (.ireturn, 1) := by decide +kernel
theorem dX5_size_0 : decode cX5_size 0 = .ok (.iload_n 1, 1) := by decide +kernel
theorem dX5_size_1 : decode cX5_size 1 = .ok (.iconst 1, 1) := by decide +kernel
theorem dX5_size_2 : decode cX5_size 2 = .ok (.sipush 400, 3) := by decide +kernel
theorem dX5_size_5 : decode cX5_size 5 = .ok (.invokestatic 46, 3) := by decide +kernel
theorem dX5_size_8 : decode cX5_size 8 = .ok (.ifCond .eq 14, 3) := by decide +kernel
theorem dX5_size_11 : decode cX5_size 11 = .ok (.iload_n 2, 1) := by decide +kernel
theorem dX5_size_12 : decode cX5_size 12 = .ok (.iconst 1, 1) := by decide +kernel
theorem dX5_size_13 : decode cX5_size 13 = .ok (.sipush 1000, 3) := by decide +kernel
theorem dX5_size_16 : decode cX5_size 16 = .ok (.invokestatic 46, 3) := by decide +kernel
theorem dX5_size_19 : decode cX5_size 19 = .ok (.ifCond .ne 6, 3) := by decide +kernel
theorem dX5_size_22 : decode cX5_size 22 = .ok (.bipush (-2), 2) := by decide +kernel
theorem dX5_size_24 : decode cX5_size 24 = .ok (.ireturn, 1) := by decide +kernel
theorem dX5_size_25 : decode cX5_size 25 = .ok (.aload_n 0, 1) := by decide +kernel
theorem dX5_size_26 : decode cX5_size 26 = .ok (.getfield 17, 3) := by decide +kernel
theorem dX5_size_29 : decode cX5_size 29 = .ok (.getfield 57, 3) := by decide +kernel
theorem dX5_size_32 : decode cX5_size 32 = .ok (.bipush 6, 2) := by decide +kernel
theorem dX5_size_34 : decode cX5_size 34 = .ok (.if_icmp .lt 6, 3) := by decide +kernel
theorem dX5_size_37 : decode cX5_size 37 = .ok (.bipush (-4), 2) := by decide +kernel
theorem dX5_size_39 : decode cX5_size 39 = .ok (.ireturn, 1) := by decide +kernel
theorem dX5_size_40 : decode cX5_size 40 = .ok (.aload_n 0, 1) := by decide +kernel
theorem dX5_size_41 : decode cX5_size 41 = .ok (.getfield 17, 3) := by decide +kernel
theorem dX5_size_44 : decode cX5_size 44 = .ok (.iload_n 1, 1) := by decide +kernel
theorem dX5_size_45 : decode cX5_size 45 = .ok (.iload_n 2, 1) := by decide +kernel
theorem dX5_size_46 : decode cX5_size 46 = .ok (.invokevirtual 60, 3) := by decide +kernel
theorem dX5_size_49 : decode cX5_size 49 = .ok (.ireturn, 1) := by decide +kernel
theorem dX5_pipe_0 : decode cX5_pipe 0 = .ok (.aload_n 0, 1) := by decide +kernel
theorem dX5_pipe_1 : decode cX5_pipe 1 = .ok (.iload_n 1, 1) := by decide +kernel
theorem dX5_pipe_2 : decode cX5_pipe 2 = .ok (.invokevirtual 64, 3) := by decide +kernel
theorem dX5_pipe_5 : decode cX5_pipe 5 = .ok (.ifCond .eq 11, 3) := by decide +kernel
theorem dX5_pipe_8 : decode cX5_pipe 8 = .ok (.aload_n 0, 1) := by decide +kernel
theorem dX5_pipe_9 : decode cX5_pipe 9 = .ok (.iload_n 3, 1) := by decide +kernel
theorem dX5_pipe_10 : decode cX5_pipe 10 = .ok (.invokevirtual 68, 3) := by decide +kernel
theorem dX5_pipe_13 : decode cX5_pipe 13 = .ok (.ifCond .ne 5, 3) := by decide +kernel
theorem dX5_pipe_16 : decode cX5_pipe 16 = .ok (.iconst (-1), 1) := by decide +kernel
theorem dX5_pipe_17 : decode cX5_pipe 17 = .ok (.ireturn, 1) := by decide +kernel
theorem dX5_pipe_18 : decode cX5_pipe 18 = .ok (.iload_n 2, 1) := by decide +kernel
theorem dX5_pipe_19 : decode cX5_pipe 19 = .ok (.iconst 1, 1) := by decide +kernel
theorem dX5_pipe_20 : decode cX5_pipe 20 = .ok (.bipush 10, 2) := by decide +kernel
theorem dX5_pipe_22 : decode cX5_pipe 22 = .ok (.invokestatic 46, 3) := by decide +kernel
theorem dX5_pipe_25 : decode cX5_pipe 25 = .ok (.ifCond .ne 6, 3) := by decide +kernel
theorem dX5_pipe_28 : decode cX5_pipe 28 = .ok (.bipush (-2), 2) := by decide +kernel
theorem dX5_pipe_30 : decode cX5_pipe 30 = .ok (.ireturn, 1) := by decide +kernel
theorem dX5_pipe_31 : decode cX5_pipe 31 = .ok (.aload_n 0, 1) := by decide +kernel
theorem dX5_pipe_32 : decode cX5_pipe 32 = .ok (.getfield 17, 3) := by decide +kernel
theorem dX5_pipe_35 : decode cX5_pipe 35 = .ok (.getfield 71, 3) := by decide +kernel
theorem dX5_pipe_38 : decode cX5_pipe 38 = .ok (.bipush 24, 2) := by decide +kernel
theorem dX5_pipe_40 : decode cX5_pipe 40 = .ok (.if_icmp .lt 6, 3) := by decide +kernel
theorem dX5_pipe_43 : decode cX5_pipe 43 = .ok (.bipush (-4), 2) := by decide +kernel
theorem dX5_pipe_45 : decode cX5_pipe 45 = .ok (.ireturn, 1) := by decide +kernel
theorem dX5_pipe_46 : decode cX5_pipe 46 = .ok (.aload_n 0, 1) := by decide +kernel
theorem dX5_pipe_47 : decode cX5_pipe 47 = .ok (.getfield 17, 3) := by decide +kernel
theorem dX5_pipe_50 : decode cX5_pipe 50 = .ok (.getfield 74, 3) := by decide +kernel
theorem dX5_pipe_53 : decode cX5_pipe 53 = .ok (.iload_n 1, 1) := by decide +kernel
theorem dX5_pipe_54 : decode cX5_pipe 54 = .ok (.iconst 1, 1) := by decide +kernel
theorem dX5_pipe_55 : decode cX5_pipe 55 = .ok (.iadd, 1) := by decide +kernel
theorem dX5_pipe_56 : decode cX5_pipe 56 = .ok (.iaload, 1) := by decide +kernel
theorem dX5_pipe_57 : decode cX5_pipe 57 = .ok (.bipush 8, 2) := by decide +kernel
theorem dX5_pipe_59 : decode cX5_pipe 59 = .ok (.if_icmp .lt 6, 3) := by decide +kernel
theorem dX5_pipe_62 : decode cX5_pipe 62 = .ok (.bipush (-5), 2) := by decide +kernel
theorem dX5_pipe_64 : decode cX5_pipe 64 = .ok (.ireturn, 1) := by decide +kernel
theorem dX5_pipe_65 : decode cX5_pipe 65 = .ok (.aload_n 0, 1) := by decide +kernel
theorem dX5_pipe_66 : decode cX5_pipe 66 = .ok (.getfield 17, 3) := by decide +kernel
theorem dX5_pipe_69 : decode cX5_pipe 69 = .ok (.iload_n 1, 1) := by decide +kernel
theorem dX5_pipe_70 : decode cX5_pipe 70 = .ok (.iload_n 2, 1) := by decide +kernel
theorem dX5_pipe_71 : decode cX5_pipe 71 = .ok (.iload_n 3, 1) := by decide +kernel
theorem dX5_pipe_72 : decode cX5_pipe 72 = .ok (.invokevirtual 77, 3) := by decide +kernel
theorem dX5_pipe_75 : decode cX5_pipe 75 = .ok (.ireturn, 1) := by decide +kernel
theorem dX5_head_0 : decode cX5_head 0 = .ok (.aload_n 0, 1) := by decide +kernel
theorem dX5_head_1 : decode cX5_head 1 = .ok (.iload_n 1, 1) := by decide +kernel
theorem dX5_head_2 : decode cX5_head 2 = .ok (.invokevirtual 81, 3) := by decide +kernel
theorem dX5_head_5 : decode cX5_head 5 = .ok (.ifCond .ne 5, 3) := by decide +kernel
theorem dX5_head_8 : decode cX5_head 8 = .ok (.iconst (-1), 1) := by decide +kernel
theorem dX5_head_9 : decode cX5_head 9 = .ok (.ireturn, 1) := by decide +kernel
theorem dX5_head_10 : decode cX5_head 10 = .ok (.iload_n 2, 1) := by decide +kernel
theorem dX5_head_11 : decode cX5_head 11 = .ok (.iconst 1, 1) := by decide +kernel
theorem dX5_head_12 : decode cX5_head 12 = .ok (.sipush 200, 3) := by decide +kernel
theorem dX5_head_15 : decode cX5_head 15 = .ok (.invokestatic 46, 3) := by decide +kernel
theorem dX5_head_18 : decode cX5_head 18 = .ok (.ifCond .eq 14, 3) := by decide +kernel
theorem dX5_head_21 : decode cX5_head 21 = .ok (.iload_n 3, 1) := by decide +kernel
theorem dX5_head_22 : decode cX5_head 22 = .ok (.iconst 0, 1) := by decide +kernel
theorem dX5_head_23 : decode cX5_head 23 = .ok (.sipush 30000, 3) := by decide +kernel
theorem dX5_head_26 : decode cX5_head 26 = .ok (.invokestatic 46, 3) := by decide +kernel
theorem dX5_head_29 : decode cX5_head 29 = .ok (.ifCond .ne 6, 3) := by decide +kernel
theorem dX5_head_32 : decode cX5_head 32 = .ok (.bipush (-2), 2) := by decide +kernel
theorem dX5_head_34 : decode cX5_head 34 = .ok (.ireturn, 1) := by decide +kernel
theorem dX5_head_35 : decode cX5_head 35 = .ok (.aload_n 0, 1) := by decide +kernel
theorem dX5_head_36 : decode cX5_head 36 = .ok (.getfield 17, 3) := by decide +kernel
theorem dX5_head_39 : decode cX5_head 39 = .ok (.iload_n 1, 1) := by decide +kernel
theorem dX5_head_40 : decode cX5_head 40 = .ok (.iload_n 2, 1) := by decide +kernel
theorem dX5_head_41 : decode cX5_head 41 = .ok (.iload_n 3, 1) := by decide +kernel
theorem dX5_head_42 : decode cX5_head 42 = .ok (.invokevirtual 84, 3) := by decide +kernel
theorem dX5_head_45 : decode cX5_head 45 = .ok (.iconst 1, 1) := by decide +kernel
theorem dX5_head_46 : decode cX5_head 46 = .ok (.ireturn, 1) := by decide +kernel
theorem dX5_open_0 : decode cX5_open 0 = .ok (.aload_n 0, 1) := by decide +kernel
theorem dX5_open_1 : decode cX5_open 1 = .ok (.iload_n 1, 1) := by decide +kernel
theorem dX5_open_2 : decode cX5_open 2 = .ok (.invokevirtual 88, 3) := by decide +kernel
theorem dX5_open_5 : decode cX5_open 5 = .ok (.ifCond .ne 5, 3) := by decide +kernel
theorem dX5_open_8 : decode cX5_open 8 = .ok (.iconst (-1), 1) := by decide +kernel
theorem dX5_open_9 : decode cX5_open 9 = .ok (.ireturn, 1) := by decide +kernel
theorem dX5_open_10 : decode cX5_open 10 = .ok (.aload_n 0, 1) := by decide +kernel
theorem dX5_open_11 : decode cX5_open 11 = .ok (.getfield 17, 3) := by decide +kernel
theorem dX5_open_14 : decode cX5_open 14 = .ok (.getfield 91, 3) := by decide +kernel
theorem dX5_open_17 : decode cX5_open 17 = .ok (.iload_n 1, 1) := by decide +kernel
theorem dX5_open_18 : decode cX5_open 18 = .ok (.invokestatic 94, 3) := by decide +kernel
theorem dX5_open_21 : decode cX5_open 21 = .ok (.istore_n 3, 1) := by decide +kernel
theorem dX5_open_22 : decode cX5_open 22 = .ok (.aload_n 0, 1) := by decide +kernel
theorem dX5_open_23 : decode cX5_open 23 = .ok (.getfield 17, 3) := by decide +kernel
theorem dX5_open_26 : decode cX5_open 26 = .ok (.aload_n 0, 1) := by decide +kernel
theorem dX5_open_27 : decode cX5_open 27 = .ok (.getfield 17, 3) := by decide +kernel
theorem dX5_open_30 : decode cX5_open 30 = .ok (.getfield 91, 3) := by decide +kernel
theorem dX5_open_33 : decode cX5_open 33 = .ok (.iload_n 1, 1) := by decide +kernel
theorem dX5_open_34 : decode cX5_open 34 = .ok (.iload_n 2, 1) := by decide +kernel
theorem dX5_open_35 : decode cX5_open 35 = .ok (.invokestatic 97, 3) := by decide +kernel
theorem dX5_open_38 : decode cX5_open 38 = .ok (.putfield 91, 3) := by decide +kernel
theorem dX5_open_41 : decode cX5_open 41 = .ok (.iload_n 3, 1) := by decide +kernel
theorem dX5_open_42 : decode cX5_open 42 = .ok (.ireturn, 1) := by decide +kernel
theorem dX5_shut_0 : decode cX5_shut 0 = .ok (.aload_n 0, 1) := by decide +kernel
theorem dX5_shut_1 : decode cX5_shut 1 = .ok (.iload_n 1, 1) := by decide +kernel
theorem dX5_shut_2 : decode cX5_shut 2 = .ok (.invokevirtual 81, 3) := by decide +kernel
theorem dX5_shut_5 : decode cX5_shut 5 = .ok (.ifCond .ne 5, 3) := by decide +kernel
theorem dX5_shut_8 : decode cX5_shut 8 = .ok (.iconst (-1), 1) := by decide +kernel
theorem dX5_shut_9 : decode cX5_shut 9 = .ok (.ireturn, 1) := by decide +kernel
theorem dX5_shut_10 : decode cX5_shut 10 = .ok (.aload_n 0, 1) := by decide +kernel
theorem dX5_shut_11 : decode cX5_shut 11 = .ok (.getfield 17, 3) := by decide +kernel
theorem dX5_shut_14 : decode cX5_shut 14 = .ok (.getfield 101, 3) := by decide +kernel
theorem dX5_shut_17 : decode cX5_shut 17 = .ok (.iload_n 1, 1) := by decide +kernel
theorem dX5_shut_18 : decode cX5_shut 18 = .ok (.invokestatic 94, 3) := by decide +kernel
theorem dX5_shut_21 : decode cX5_shut 21 = .ok (.istore_n 3, 1) := by decide +kernel
theorem dX5_shut_22 : decode cX5_shut 22 = .ok (.aload_n 0, 1) := by decide +kernel
theorem dX5_shut_23 : decode cX5_shut 23 = .ok (.getfield 17, 3) := by decide +kernel
theorem dX5_shut_26 : decode cX5_shut 26 = .ok (.aload_n 0, 1) := by decide +kernel
theorem dX5_shut_27 : decode cX5_shut 27 = .ok (.getfield 17, 3) := by decide +kernel
theorem dX5_shut_30 : decode cX5_shut 30 = .ok (.getfield 101, 3) := by decide +kernel
theorem dX5_shut_33 : decode cX5_shut 33 = .ok (.iload_n 1, 1) := by decide +kernel
theorem dX5_shut_34 : decode cX5_shut 34 = .ok (.iload_n 2, 1) := by decide +kernel
theorem dX5_shut_35 : decode cX5_shut 35 = .ok (.invokestatic 97, 3) := by decide +kernel
theorem dX5_shut_38 : decode cX5_shut 38 = .ok (.putfield 101, 3) := by decide +kernel
theorem dX5_shut_41 : decode cX5_shut 41 = .ok (.iload_n 3, 1) := by decide +kernel
theorem dX5_shut_42 : decode cX5_shut 42 = .ok (.ireturn, 1) := by decide +kernel
theorem dX5_clog_0 : decode cX5_clog 0 = .ok (.aload_n 0, 1) := by decide +kernel
theorem dX5_clog_1 : decode cX5_clog 1 = .ok (.iload_n 1, 1) := by decide +kernel
theorem dX5_clog_2 : decode cX5_clog 2 = .ok (.invokevirtual 88, 3) := by decide +kernel
theorem dX5_clog_5 : decode cX5_clog 5 = .ok (.ifCond .ne 5, 3) := by decide +kernel
theorem dX5_clog_8 : decode cX5_clog 8 = .ok (.iconst (-1), 1) := by decide +kernel
theorem dX5_clog_9 : decode cX5_clog 9 = .ok (.ireturn, 1) := by decide +kernel
theorem dX5_clog_10 : decode cX5_clog 10 = .ok (.iload_n 2, 1) := by decide +kernel
theorem dX5_clog_11 : decode cX5_clog 11 = .ok (.iconst 0, 1) := by decide +kernel
theorem dX5_clog_12 : decode cX5_clog 12 = .ok (.bipush 100, 2) := by decide +kernel
theorem dX5_clog_14 : decode cX5_clog 14 = .ok (.invokestatic 46, 3) := by decide +kernel
theorem dX5_clog_17 : decode cX5_clog 17 = .ok (.ifCond .ne 6, 3) := by decide +kernel
theorem dX5_clog_20 : decode cX5_clog 20 = .ok (.bipush (-2), 2) := by decide +kernel
theorem dX5_clog_22 : decode cX5_clog 22 = .ok (.ireturn, 1) := by decide +kernel
theorem dX5_clog_23 : decode cX5_clog 23 = .ok (.aload_n 0, 1) := by decide +kernel
theorem dX5_clog_24 : decode cX5_clog 24 = .ok (.getfield 17, 3) := by decide +kernel
theorem dX5_clog_27 : decode cX5_clog 27 = .ok (.getfield 104, 3) := by decide +kernel
theorem dX5_clog_30 : decode cX5_clog 30 = .ok (.iload_n 1, 1) := by decide +kernel
theorem dX5_clog_31 : decode cX5_clog 31 = .ok (.iaload, 1) := by decide +kernel
theorem dX5_clog_32 : decode cX5_clog 32 = .ok (.istore_n 3, 1) := by decide +kernel
theorem dX5_clog_33 : decode cX5_clog 33 = .ok (.aload_n 0, 1) := by decide +kernel
theorem dX5_clog_34 : decode cX5_clog 34 = .ok (.getfield 17, 3) := by decide +kernel
theorem dX5_clog_37 : decode cX5_clog 37 = .ok (.getfield 104, 3) := by decide +kernel
theorem dX5_clog_40 : decode cX5_clog 40 = .ok (.iload_n 1, 1) := by decide +kernel
theorem dX5_clog_41 : decode cX5_clog 41 = .ok (.iload_n 2, 1) := by decide +kernel
theorem dX5_clog_42 : decode cX5_clog 42 = .ok (.iastore, 1) := by decide +kernel
theorem dX5_clog_43 : decode cX5_clog 43 = .ok (.iload_n 3, 1) := by decide +kernel
theorem dX5_clog_44 : decode cX5_clog 44 = .ok (.ireturn, 1) := by decide +kernel
theorem dX5_resize_0 : decode cX5_resize 0 = .ok (.aload_n 0, 1) := by decide +kernel
theorem dX5_resize_1 : decode cX5_resize 1 = .ok (.iload_n 1, 1) := by decide +kernel
theorem dX5_resize_2 : decode cX5_resize 2 = .ok (.invokevirtual 81, 3) := by decide +kernel
theorem dX5_resize_5 : decode cX5_resize 5 = .ok (.ifCond .eq 11, 3) := by decide +kernel
theorem dX5_resize_8 : decode cX5_resize 8 = .ok (.aload_n 0, 1) := by decide +kernel
theorem dX5_resize_9 : decode cX5_resize 9 = .ok (.iload_n 2, 1) := by decide +kernel
theorem dX5_resize_10 : decode cX5_resize 10 = .ok (.invokevirtual 68, 3) := by decide +kernel
theorem dX5_resize_13 : decode cX5_resize 13 = .ok (.ifCond .ne 5, 3) := by decide +kernel
theorem dX5_resize_16 : decode cX5_resize 16 = .ok (.iconst (-1), 1) := by decide +kernel
theorem dX5_resize_17 : decode cX5_resize 17 = .ok (.ireturn, 1) := by decide +kernel
theorem dX5_resize_18 : decode cX5_resize 18 = .ok (.aload_n 0, 1) := by decide +kernel
theorem dX5_resize_19 : decode cX5_resize 19 = .ok (.getfield 17, 3) := by decide +kernel
theorem dX5_resize_22 : decode cX5_resize 22 = .ok (.getfield 107, 3) := by decide +kernel
theorem dX5_resize_25 : decode cX5_resize 25 = .ok (.iload_n 1, 1) := by decide +kernel
theorem dX5_resize_26 : decode cX5_resize 26 = .ok (.iaload, 1) := by decide +kernel
theorem dX5_resize_27 : decode cX5_resize 27 = .ok (.istore_n 3, 1) := by decide +kernel
theorem dX5_resize_28 : decode cX5_resize 28 = .ok (.aload_n 0, 1) := by decide +kernel
theorem dX5_resize_29 : decode cX5_resize 29 = .ok (.getfield 17, 3) := by decide +kernel
theorem dX5_resize_32 : decode cX5_resize 32 = .ok (.iload_n 1, 1) := by decide +kernel
theorem dX5_resize_33 : decode cX5_resize 33 = .ok (.iload_n 2, 1) := by decide +kernel
theorem dX5_resize_34 : decode cX5_resize 34 = .ok (.invokevirtual 110, 3) := by decide +kernel
theorem dX5_resize_37 : decode cX5_resize 37 = .ok (.iload_n 3, 1) := by decide +kernel
theorem dX5_resize_38 : decode cX5_resize 38 = .ok (.ireturn, 1) := by decide +kernel
theorem dX5_conduct_0 : decode cX5_conduct 0 = .ok (.aload_n 0, 1) := by decide +kernel
theorem dX5_conduct_1 : decode cX5_conduct 1 = .ok (.iload_n 1, 1) := by decide +kernel
theorem dX5_conduct_2 : decode cX5_conduct 2 = .ok (.invokevirtual 64, 3) := by decide +kernel
theorem dX5_conduct_5 : decode cX5_conduct 5 = .ok (.ifCond .ne 7, 3) := by decide +kernel
theorem dX5_conduct_8 : decode cX5_conduct 8 = .ok (.ldc2_w 114, 3) := by decide +kernel
theorem dX5_conduct_11 : decode cX5_conduct 11 = .ok (.lreturn, 1) := by decide +kernel
theorem dX5_conduct_12 : decode cX5_conduct 12 = .ok (.iload_n 2, 1) := by decide +kernel
theorem dX5_conduct_13 : decode cX5_conduct 13 = .ok (.invokestatic 116, 3) := by decide +kernel
theorem dX5_conduct_16 : decode cX5_conduct 16 = .ok (.ifCond .ne 7, 3) := by decide +kernel
theorem dX5_conduct_19 : decode cX5_conduct 19 = .ok (.ldc2_w 119, 3) := by decide +kernel
theorem dX5_conduct_22 : decode cX5_conduct 22 = .ok (.lreturn, 1) := by decide +kernel
theorem dX5_conduct_23 : decode cX5_conduct 23 = .ok (.aload_n 0, 1) := by decide +kernel
theorem dX5_conduct_24 : decode cX5_conduct 24 = .ok (.getfield 21, 3) := by decide +kernel
theorem dX5_conduct_27 : decode cX5_conduct 27 = .ok (.iload_n 2, 1) := by decide +kernel
theorem dX5_conduct_28 : decode cX5_conduct 28 = .ok (.aload_n 0, 1) := by decide +kernel
theorem dX5_conduct_29 : decode cX5_conduct 29 = .ok (.getfield 17, 3) := by decide +kernel
theorem dX5_conduct_32 : decode cX5_conduct 32 = .ok (.getfield 54, 3) := by decide +kernel
theorem dX5_conduct_35 : decode cX5_conduct 35 = .ok (.aload_n 0, 1) := by decide +kernel
theorem dX5_conduct_36 : decode cX5_conduct 36 = .ok (.getfield 17, 3) := by decide +kernel
theorem dX5_conduct_39 : decode cX5_conduct 39 = .ok (.getfield 91, 3) := by decide +kernel
theorem dX5_conduct_42 : decode cX5_conduct 42 = .ok (.invokevirtual 121, 3) := by decide +kernel
theorem dX5_conduct_45 : decode cX5_conduct 45 = .ok (.aload_n 0, 1) := by decide +kernel
theorem dX5_conduct_46 : decode cX5_conduct 46 = .ok (.getfield 21, 3) := by decide +kernel
theorem dX5_conduct_49 : decode cX5_conduct 49 = .ok (.iload_n 1, 1) := by decide +kernel
theorem dX5_conduct_50 : decode cX5_conduct 50 = .ok (.iconst 1, 1) := by decide +kernel
theorem dX5_conduct_51 : decode cX5_conduct 51 = .ok (.iadd, 1) := by decide +kernel
theorem dX5_conduct_52 : decode cX5_conduct 52 = .ok (.iload_n 2, 1) := by decide +kernel
theorem dX5_conduct_53 : decode cX5_conduct 53 = .ok (.aload_n 0, 1) := by decide +kernel
theorem dX5_conduct_54 : decode cX5_conduct 54 = .ok (.getfield 17, 3) := by decide +kernel
theorem dX5_conduct_57 : decode cX5_conduct 57 = .ok (.getfield 54, 3) := by decide +kernel
theorem dX5_conduct_60 : decode cX5_conduct 60 = .ok (.invokevirtual 125, 3) := by decide +kernel
theorem dX5_conduct_63 : decode cX5_conduct 63 = .ok (.lreturn, 1) := by decide +kernel
theorem dX5_pressure_0 : decode cX5_pressure 0 = .ok (.aload_n 0, 1) := by decide +kernel
theorem dX5_pressure_1 : decode cX5_pressure 1 = .ok (.iload_n 1, 1) := by decide +kernel
theorem dX5_pressure_2 : decode cX5_pressure 2 = .ok (.invokevirtual 64, 3) := by decide +kernel
theorem dX5_pressure_5 : decode cX5_pressure 5 = .ok (.ifCond .ne 7, 3) := by decide +kernel
theorem dX5_pressure_8 : decode cX5_pressure 8 = .ok (.ldc2_w 114, 3) := by decide +kernel
theorem dX5_pressure_11 : decode cX5_pressure 11 = .ok (.lreturn, 1) := by decide +kernel
theorem dX5_pressure_12 : decode cX5_pressure 12 = .ok (.iload_n 2, 1) := by decide +kernel
theorem dX5_pressure_13 : decode cX5_pressure 13 = .ok (.invokestatic 116, 3) := by decide +kernel
theorem dX5_pressure_16 : decode cX5_pressure 16 = .ok (.ifCond .ne 7, 3) := by decide +kernel
theorem dX5_pressure_19 : decode cX5_pressure 19 = .ok (.ldc2_w 119, 3) := by decide +kernel
theorem dX5_pressure_22 : decode cX5_pressure 22 = .ok (.lreturn, 1) := by decide +kernel
theorem dX5_pressure_23 : decode cX5_pressure 23 = .ok (.aload_n 0, 1) := by decide +kernel
theorem dX5_pressure_24 : decode cX5_pressure 24 = .ok (.getfield 21, 3) := by decide +kernel
theorem dX5_pressure_27 : decode cX5_pressure 27 = .ok (.iload_n 2, 1) := by decide +kernel
theorem dX5_pressure_28 : decode cX5_pressure 28 = .ok (.aload_n 0, 1) := by decide +kernel
theorem dX5_pressure_29 : decode cX5_pressure 29 = .ok (.getfield 17, 3) := by decide +kernel
theorem dX5_pressure_32 : decode cX5_pressure 32 = .ok (.getfield 91, 3) := by decide +kernel
theorem dX5_pressure_35 : decode cX5_pressure 35 = .ok (.invokevirtual 129, 3) := by decide +kernel
theorem dX5_pressure_38 : decode cX5_pressure 38 = .ok (.aload_n 0, 1) := by decide +kernel
theorem dX5_pressure_39 : decode cX5_pressure 39 = .ok (.getfield 21, 3) := by decide +kernel
theorem dX5_pressure_42 : decode cX5_pressure 42 = .ok (.getfield 132, 3) := by decide +kernel
theorem dX5_pressure_45 : decode cX5_pressure 45 = .ok (.iload_n 1, 1) := by decide +kernel
theorem dX5_pressure_46 : decode cX5_pressure 46 = .ok (.iconst 1, 1) := by decide +kernel
theorem dX5_pressure_47 : decode cX5_pressure 47 = .ok (.iadd, 1) := by decide +kernel
theorem dX5_pressure_48 : decode cX5_pressure 48 = .ok (.laload, 1) := by decide +kernel
theorem dX5_pressure_49 : decode cX5_pressure 49 = .ok (.lreturn, 1) := by decide +kernel
theorem dX5_flow_0 : decode cX5_flow 0 = .ok (.aload_n 0, 1) := by decide +kernel
theorem dX5_flow_1 : decode cX5_flow 1 = .ok (.iload_n 1, 1) := by decide +kernel
theorem dX5_flow_2 : decode cX5_flow 2 = .ok (.invokevirtual 88, 3) := by decide +kernel
theorem dX5_flow_5 : decode cX5_flow 5 = .ok (.ifCond .ne 7, 3) := by decide +kernel
theorem dX5_flow_8 : decode cX5_flow 8 = .ok (.ldc2_w 114, 3) := by decide +kernel
theorem dX5_flow_11 : decode cX5_flow 11 = .ok (.lreturn, 1) := by decide +kernel
theorem dX5_flow_12 : decode cX5_flow 12 = .ok (.iload_n 2, 1) := by decide +kernel
theorem dX5_flow_13 : decode cX5_flow 13 = .ok (.invokestatic 116, 3) := by decide +kernel
theorem dX5_flow_16 : decode cX5_flow 16 = .ok (.ifCond .ne 7, 3) := by decide +kernel
theorem dX5_flow_19 : decode cX5_flow 19 = .ok (.ldc2_w 119, 3) := by decide +kernel
theorem dX5_flow_22 : decode cX5_flow 22 = .ok (.lreturn, 1) := by decide +kernel
theorem dX5_flow_23 : decode cX5_flow 23 = .ok (.aload_n 0, 1) := by decide +kernel
theorem dX5_flow_24 : decode cX5_flow 24 = .ok (.getfield 17, 3) := by decide +kernel
theorem dX5_flow_27 : decode cX5_flow 27 = .ok (.getfield 91, 3) := by decide +kernel
theorem dX5_flow_30 : decode cX5_flow 30 = .ok (.iload_n 1, 1) := by decide +kernel
theorem dX5_flow_31 : decode cX5_flow 31 = .ok (.invokestatic 94, 3) := by decide +kernel
theorem dX5_flow_34 : decode cX5_flow 34 = .ok (.ifCond .ne 5, 3) := by decide +kernel
theorem dX5_flow_37 : decode cX5_flow 37 = .ok (.lconst 0, 1) := by decide +kernel
theorem dX5_flow_38 : decode cX5_flow 38 = .ok (.lreturn, 1) := by decide +kernel
theorem dX5_flow_39 : decode cX5_flow 39 = .ok (.aload_n 0, 1) := by decide +kernel
theorem dX5_flow_40 : decode cX5_flow 40 = .ok (.getfield 21, 3) := by decide +kernel
theorem dX5_flow_43 : decode cX5_flow 43 = .ok (.iload_n 2, 1) := by decide +kernel
theorem dX5_flow_44 : decode cX5_flow 44 = .ok (.aload_n 0, 1) := by decide +kernel
theorem dX5_flow_45 : decode cX5_flow 45 = .ok (.getfield 17, 3) := by decide +kernel
theorem dX5_flow_48 : decode cX5_flow 48 = .ok (.getfield 91, 3) := by decide +kernel
theorem dX5_flow_51 : decode cX5_flow 51 = .ok (.invokevirtual 129, 3) := by decide +kernel
theorem dX5_flow_54 : decode cX5_flow 54 = .ok (.aload_n 0, 1) := by decide +kernel
theorem dX5_flow_55 : decode cX5_flow 55 = .ok (.getfield 21, 3) := by decide +kernel
theorem dX5_flow_58 : decode cX5_flow 58 = .ok (.iload_n 1, 1) := by decide +kernel
theorem dX5_flow_59 : decode cX5_flow 59 = .ok (.iload_n 2, 1) := by decide +kernel
theorem dX5_flow_60 : decode cX5_flow 60 = .ok (.invokevirtual 136, 3) := by decide +kernel
theorem dX5_flow_63 : decode cX5_flow 63 = .ok (.lreturn, 1) := by decide +kernel
theorem dX5_total_0 : decode cX5_total 0 = .ok (.iload_n 1, 1) := by decide +kernel
theorem dX5_total_1 : decode cX5_total 1 = .ok (.invokestatic 116, 3) := by decide +kernel
theorem dX5_total_4 : decode cX5_total 4 = .ok (.ifCond .ne 7, 3) := by decide +kernel
theorem dX5_total_7 : decode cX5_total 7 = .ok (.ldc2_w 119, 3) := by decide +kernel
theorem dX5_total_10 : decode cX5_total 10 = .ok (.lreturn, 1) := by decide +kernel
theorem dX5_total_11 : decode cX5_total 11 = .ok (.aload_n 0, 1) := by decide +kernel
theorem dX5_total_12 : decode cX5_total 12 = .ok (.getfield 21, 3) := by decide +kernel
theorem dX5_total_15 : decode cX5_total 15 = .ok (.iload_n 1, 1) := by decide +kernel
theorem dX5_total_16 : decode cX5_total 16 = .ok (.aload_n 0, 1) := by decide +kernel
theorem dX5_total_17 : decode cX5_total 17 = .ok (.getfield 17, 3) := by decide +kernel
theorem dX5_total_20 : decode cX5_total 20 = .ok (.getfield 91, 3) := by decide +kernel
theorem dX5_total_23 : decode cX5_total 23 = .ok (.invokevirtual 129, 3) := by decide +kernel
theorem dX5_total_26 : decode cX5_total 26 = .ok (.lconst 0, 1) := by decide +kernel
theorem dX5_total_27 : decode cX5_total 27 = .ok (.lstore_n 2, 1) := by decide +kernel
theorem dX5_total_28 : decode cX5_total 28 = .ok (.iconst 0, 1) := by decide +kernel
theorem dX5_total_29 : decode cX5_total 29 = .ok (.istore 4, 2) := by decide +kernel
theorem dX5_total_31 : decode cX5_total 31 = .ok (.iload 4, 2) := by decide +kernel
theorem dX5_total_33 : decode cX5_total 33 = .ok (.aload_n 0, 1) := by decide +kernel
theorem dX5_total_34 : decode cX5_total 34 = .ok (.getfield 17, 3) := by decide +kernel
theorem dX5_total_37 : decode cX5_total 37 = .ok (.getfield 71, 3) := by decide +kernel
theorem dX5_total_40 : decode cX5_total 40 = .ok (.if_icmp .ge 38, 3) := by decide +kernel
theorem dX5_total_43 : decode cX5_total 43 = .ok (.aload_n 0, 1) := by decide +kernel
theorem dX5_total_44 : decode cX5_total 44 = .ok (.getfield 17, 3) := by decide +kernel
theorem dX5_total_47 : decode cX5_total 47 = .ok (.getfield 91, 3) := by decide +kernel
theorem dX5_total_50 : decode cX5_total 50 = .ok (.iload 4, 2) := by decide +kernel
theorem dX5_total_52 : decode cX5_total 52 = .ok (.invokestatic 94, 3) := by decide +kernel
theorem dX5_total_55 : decode cX5_total 55 = .ok (.iconst 1, 1) := by decide +kernel
theorem dX5_total_56 : decode cX5_total 56 = .ok (.if_icmp .ne 16, 3) := by decide +kernel
theorem dX5_total_59 : decode cX5_total 59 = .ok (.lload_n 2, 1) := by decide +kernel
theorem dX5_total_60 : decode cX5_total 60 = .ok (.aload_n 0, 1) := by decide +kernel
theorem dX5_total_61 : decode cX5_total 61 = .ok (.getfield 21, 3) := by decide +kernel
theorem dX5_total_64 : decode cX5_total 64 = .ok (.iload 4, 2) := by decide +kernel
theorem dX5_total_66 : decode cX5_total 66 = .ok (.iload_n 1, 1) := by decide +kernel
theorem dX5_total_67 : decode cX5_total 67 = .ok (.invokevirtual 136, 3) := by decide +kernel
theorem dX5_total_70 : decode cX5_total 70 = .ok (.ladd, 1) := by decide +kernel
theorem dX5_total_71 : decode cX5_total 71 = .ok (.lstore_n 2, 1) := by decide +kernel
theorem dX5_total_72 : decode cX5_total 72 = .ok (.iinc 4 1, 3) := by decide +kernel
theorem dX5_total_75 : decode cX5_total 75 = .ok (.goto (-44), 3) := by decide +kernel
theorem dX5_total_78 : decode cX5_total 78 = .ok (.lload_n 2, 1) := by decide +kernel
theorem dX5_total_79 : decode cX5_total 79 = .ok (.lreturn, 1) := by decide +kernel
theorem dX5_about_0 : decode cX5_about 0 = .ok (.aload_n 0, 1) := by decide +kernel
theorem dX5_about_1 : decode cX5_about 1 = .ok (.iload_n 1, 1) := by decide +kernel
theorem dX5_about_2 : decode cX5_about 2 = .ok (.invokevirtual 81, 3) := by decide +kernel
theorem dX5_about_5 : decode cX5_about 5 = .ok (.ifCond .ne 5, 3) := by decide +kernel
theorem dX5_about_8 : decode cX5_about 8 = .ok (.iconst (-1), 1) := by decide +kernel
theorem dX5_about_9 : decode cX5_about 9 = .ok (.ireturn, 1) := by decide +kernel
theorem dX5_about_10 : decode cX5_about 10 = .ok (.iload_n 2, 1) := by decide +kernel
theorem dX5_about_11 : decode cX5_about 11 = .ok (.tableswitch 173 0 10 #[57, 67, 77, 87, 99, 111, 120, 130, 142, 152, 164], 57) := by decide +kernel
theorem dX5_about_68 : decode cX5_about 68 = .ok (.aload_n 0, 1) := by decide +kernel
theorem dX5_about_69 : decode cX5_about 69 = .ok (.getfield 17, 3) := by decide +kernel
theorem dX5_about_72 : decode cX5_about 72 = .ok (.getfield 140, 3) := by decide +kernel
theorem dX5_about_75 : decode cX5_about 75 = .ok (.iload_n 1, 1) := by decide +kernel
theorem dX5_about_76 : decode cX5_about 76 = .ok (.iaload, 1) := by decide +kernel
theorem dX5_about_77 : decode cX5_about 77 = .ok (.ireturn, 1) := by decide +kernel
theorem dX5_about_78 : decode cX5_about 78 = .ok (.aload_n 0, 1) := by decide +kernel
theorem dX5_about_79 : decode cX5_about 79 = .ok (.getfield 17, 3) := by decide +kernel
theorem dX5_about_82 : decode cX5_about 82 = .ok (.getfield 143, 3) := by decide +kernel
theorem dX5_about_85 : decode cX5_about 85 = .ok (.iload_n 1, 1) := by decide +kernel
theorem dX5_about_86 : decode cX5_about 86 = .ok (.iaload, 1) := by decide +kernel
theorem dX5_about_87 : decode cX5_about 87 = .ok (.ireturn, 1) := by decide +kernel
theorem dX5_about_88 : decode cX5_about 88 = .ok (.aload_n 0, 1) := by decide +kernel
theorem dX5_about_89 : decode cX5_about 89 = .ok (.getfield 17, 3) := by decide +kernel
theorem dX5_about_92 : decode cX5_about 92 = .ok (.getfield 107, 3) := by decide +kernel
theorem dX5_about_95 : decode cX5_about 95 = .ok (.iload_n 1, 1) := by decide +kernel
theorem dX5_about_96 : decode cX5_about 96 = .ok (.iaload, 1) := by decide +kernel
theorem dX5_about_97 : decode cX5_about 97 = .ok (.ireturn, 1) := by decide +kernel
theorem dX5_about_98 : decode cX5_about 98 = .ok (.aload_n 0, 1) := by decide +kernel
theorem dX5_about_99 : decode cX5_about 99 = .ok (.getfield 17, 3) := by decide +kernel
theorem dX5_about_102 : decode cX5_about 102 = .ok (.getfield 101, 3) := by decide +kernel
theorem dX5_about_105 : decode cX5_about 105 = .ok (.iload_n 1, 1) := by decide +kernel
theorem dX5_about_106 : decode cX5_about 106 = .ok (.invokestatic 94, 3) := by decide +kernel
theorem dX5_about_109 : decode cX5_about 109 = .ok (.ireturn, 1) := by decide +kernel
theorem dX5_about_110 : decode cX5_about 110 = .ok (.aload_n 0, 1) := by decide +kernel
theorem dX5_about_111 : decode cX5_about 111 = .ok (.getfield 17, 3) := by decide +kernel
theorem dX5_about_114 : decode cX5_about 114 = .ok (.getfield 146, 3) := by decide +kernel
theorem dX5_about_117 : decode cX5_about 117 = .ok (.iload_n 1, 1) := by decide +kernel
theorem dX5_about_118 : decode cX5_about 118 = .ok (.invokestatic 94, 3) := by decide +kernel
theorem dX5_about_121 : decode cX5_about 121 = .ok (.ireturn, 1) := by decide +kernel
theorem dX5_about_122 : decode cX5_about 122 = .ok (.aload_n 0, 1) := by decide +kernel
theorem dX5_about_123 : decode cX5_about 123 = .ok (.getfield 17, 3) := by decide +kernel
theorem dX5_about_126 : decode cX5_about 126 = .ok (.iload_n 1, 1) := by decide +kernel
theorem dX5_about_127 : decode cX5_about 127 = .ok (.invokevirtual 149, 3) := by decide +kernel
theorem dX5_about_130 : decode cX5_about 130 = .ok (.ireturn, 1) := by decide +kernel
theorem dX5_about_131 : decode cX5_about 131 = .ok (.aload_n 0, 1) := by decide +kernel
theorem dX5_about_132 : decode cX5_about 132 = .ok (.getfield 17, 3) := by decide +kernel
theorem dX5_about_135 : decode cX5_about 135 = .ok (.getfield 153, 3) := by decide +kernel
theorem dX5_about_138 : decode cX5_about 138 = .ok (.iload_n 1, 1) := by decide +kernel
theorem dX5_about_139 : decode cX5_about 139 = .ok (.iaload, 1) := by decide +kernel
theorem dX5_about_140 : decode cX5_about 140 = .ok (.ireturn, 1) := by decide +kernel
theorem dX5_about_141 : decode cX5_about 141 = .ok (.aload_n 0, 1) := by decide +kernel
theorem dX5_about_142 : decode cX5_about 142 = .ok (.getfield 17, 3) := by decide +kernel
theorem dX5_about_145 : decode cX5_about 145 = .ok (.getfield 91, 3) := by decide +kernel
theorem dX5_about_148 : decode cX5_about 148 = .ok (.iload_n 1, 1) := by decide +kernel
theorem dX5_about_149 : decode cX5_about 149 = .ok (.invokestatic 94, 3) := by decide +kernel
theorem dX5_about_152 : decode cX5_about 152 = .ok (.ireturn, 1) := by decide +kernel
theorem dX5_about_153 : decode cX5_about 153 = .ok (.aload_n 0, 1) := by decide +kernel
theorem dX5_about_154 : decode cX5_about 154 = .ok (.getfield 17, 3) := by decide +kernel
theorem dX5_about_157 : decode cX5_about 157 = .ok (.getfield 104, 3) := by decide +kernel
theorem dX5_about_160 : decode cX5_about 160 = .ok (.iload_n 1, 1) := by decide +kernel
theorem dX5_about_161 : decode cX5_about 161 = .ok (.iaload, 1) := by decide +kernel
theorem dX5_about_162 : decode cX5_about 162 = .ok (.ireturn, 1) := by decide +kernel
theorem dX5_about_163 : decode cX5_about 163 = .ok (.aload_n 0, 1) := by decide +kernel
theorem dX5_about_164 : decode cX5_about 164 = .ok (.getfield 17, 3) := by decide +kernel
theorem dX5_about_167 : decode cX5_about 167 = .ok (.getfield 156, 3) := by decide +kernel
theorem dX5_about_170 : decode cX5_about 170 = .ok (.iload_n 1, 1) := by decide +kernel
theorem dX5_about_171 : decode cX5_about 171 = .ok (.invokestatic 94, 3) := by decide +kernel
theorem dX5_about_174 : decode cX5_about 174 = .ok (.ireturn, 1) := by decide +kernel
theorem dX5_about_175 : decode cX5_about 175 = .ok (.aload_n 0, 1) := by decide +kernel
theorem dX5_about_176 : decode cX5_about 176 = .ok (.getfield 17, 3) := by decide +kernel
theorem dX5_about_179 : decode cX5_about 179 = .ok (.iload_n 1, 1) := by decide +kernel
theorem dX5_about_180 : decode cX5_about 180 = .ok (.invokevirtual 159, 3) := by decide +kernel
theorem dX5_about_183 : decode cX5_about 183 = .ok (.ireturn, 1) := by decide +kernel
theorem dX5_about_184 : decode cX5_about 184 = .ok (.bipush (-2), 2) := by decide +kernel
theorem dX5_about_186 : decode cX5_about 186 = .ok (.ireturn, 1) := by decide +kernel
theorem dX5_worst_0 : decode cX5_worst 0 = .ok (.aload_n 0, 1) := by decide +kernel
theorem dX5_worst_1 : decode cX5_worst 1 = .ok (.getfield 21, 3) := by decide +kernel
theorem dX5_worst_4 : decode cX5_worst 4 = .ok (.iconst 0, 1) := by decide +kernel
theorem dX5_worst_5 : decode cX5_worst 5 = .ok (.aload_n 0, 1) := by decide +kernel
theorem dX5_worst_6 : decode cX5_worst 6 = .ok (.getfield 17, 3) := by decide +kernel
theorem dX5_worst_9 : decode cX5_worst 9 = .ok (.getfield 91, 3) := by decide +kernel
theorem dX5_worst_12 : decode cX5_worst 12 = .ok (.invokevirtual 129, 3) := by decide +kernel
theorem dX5_worst_15 : decode cX5_worst 15 = .ok (.bipush (-6), 2) := by decide +kernel
theorem dX5_worst_17 : decode cX5_worst 17 = .ok (.istore_n 1, 1) := by decide +kernel
theorem dX5_worst_18 : decode cX5_worst 18 = .ok (.lconst 0, 1) := by decide +kernel
theorem dX5_worst_19 : decode cX5_worst 19 = .ok (.lstore_n 2, 1) := by decide +kernel
theorem dX5_worst_20 : decode cX5_worst 20 = .ok (.iconst 0, 1) := by decide +kernel
theorem dX5_worst_21 : decode cX5_worst 21 = .ok (.istore 4, 2) := by decide +kernel
theorem dX5_worst_23 : decode cX5_worst 23 = .ok (.iload 4, 2) := by decide +kernel
theorem dX5_worst_25 : decode cX5_worst 25 = .ok (.aload_n 0, 1) := by decide +kernel
theorem dX5_worst_26 : decode cX5_worst 26 = .ok (.getfield 17, 3) := by decide +kernel
theorem dX5_worst_29 : decode cX5_worst 29 = .ok (.getfield 71, 3) := by decide +kernel
theorem dX5_worst_32 : decode cX5_worst 32 = .ok (.if_icmp .ge 55, 3) := by decide +kernel
theorem dX5_worst_35 : decode cX5_worst 35 = .ok (.aload_n 0, 1) := by decide +kernel
theorem dX5_worst_36 : decode cX5_worst 36 = .ok (.getfield 17, 3) := by decide +kernel
theorem dX5_worst_39 : decode cX5_worst 39 = .ok (.getfield 91, 3) := by decide +kernel
theorem dX5_worst_42 : decode cX5_worst 42 = .ok (.iload 4, 2) := by decide +kernel
theorem dX5_worst_44 : decode cX5_worst 44 = .ok (.invokestatic 94, 3) := by decide +kernel
theorem dX5_worst_47 : decode cX5_worst 47 = .ok (.iconst 1, 1) := by decide +kernel
theorem dX5_worst_48 : decode cX5_worst 48 = .ok (.if_icmp .ne 33, 3) := by decide +kernel
theorem dX5_worst_51 : decode cX5_worst 51 = .ok (.aload_n 0, 1) := by decide +kernel
theorem dX5_worst_52 : decode cX5_worst 52 = .ok (.getfield 21, 3) := by decide +kernel
theorem dX5_worst_55 : decode cX5_worst 55 = .ok (.iload 4, 2) := by decide +kernel
theorem dX5_worst_57 : decode cX5_worst 57 = .ok (.invokevirtual 162, 3) := by decide +kernel
theorem dX5_worst_60 : decode cX5_worst 60 = .ok (.lstore 5, 2) := by decide +kernel
theorem dX5_worst_62 : decode cX5_worst 62 = .ok (.iload_n 1, 1) := by decide +kernel
theorem dX5_worst_63 : decode cX5_worst 63 = .ok (.bipush (-6), 2) := by decide +kernel
theorem dX5_worst_65 : decode cX5_worst 65 = .ok (.if_icmp .eq 10, 3) := by decide +kernel
theorem dX5_worst_68 : decode cX5_worst 68 = .ok (.lload 5, 2) := by decide +kernel
theorem dX5_worst_70 : decode cX5_worst 70 = .ok (.lload_n 2, 1) := by decide +kernel
theorem dX5_worst_71 : decode cX5_worst 71 = .ok (.lcmp, 1) := by decide +kernel
theorem dX5_worst_72 : decode cX5_worst 72 = .ok (.ifCond .ge 9, 3) := by decide +kernel
theorem dX5_worst_75 : decode cX5_worst 75 = .ok (.iload 4, 2) := by decide +kernel
theorem dX5_worst_77 : decode cX5_worst 77 = .ok (.istore_n 1, 1) := by decide +kernel
theorem dX5_worst_78 : decode cX5_worst 78 = .ok (.lload 5, 2) := by decide +kernel
theorem dX5_worst_80 : decode cX5_worst 80 = .ok (.lstore_n 2, 1) := by decide +kernel
theorem dX5_worst_81 : decode cX5_worst 81 = .ok (.iinc 4 1, 3) := by decide +kernel
theorem dX5_worst_84 : decode cX5_worst 84 = .ok (.goto (-61), 3) := by decide +kernel
theorem dX5_worst_87 : decode cX5_worst 87 = .ok (.iload_n 1, 1) := by decide +kernel
theorem dX5_worst_88 : decode cX5_worst 88 = .ok (.ireturn, 1) := by decide +kernel
theorem dX5_heap_0 : decode cX5_heap 0 = .ok (.aload_n 0, 1) := by decide +kernel
theorem dX5_heap_1 : decode cX5_heap 1 = .ok (.getfield 166, 3) := by decide +kernel
theorem dX5_heap_4 : decode cX5_heap 4 = .ok (.bipush 6, 2) := by decide +kernel
theorem dX5_heap_6 : decode cX5_heap 6 = .ok (.if_icmp .lt 6, 3) := by decide +kernel
theorem dX5_heap_9 : decode cX5_heap 9 = .ok (.bipush (-4), 2) := by decide +kernel
theorem dX5_heap_11 : decode cX5_heap 11 = .ok (.ireturn, 1) := by decide +kernel
theorem dX5_heap_12 : decode cX5_heap 12 = .ok (.aload_n 0, 1) := by decide +kernel
theorem dX5_heap_13 : decode cX5_heap 13 = .ok (.dup, 1) := by decide +kernel
theorem dX5_heap_14 : decode cX5_heap 14 = .ok (.getfield 166, 3) := by decide +kernel
theorem dX5_heap_17 : decode cX5_heap 17 = .ok (.dup_x1, 1) := by decide +kernel
theorem dX5_heap_18 : decode cX5_heap 18 = .ok (.iconst 1, 1) := by decide +kernel
theorem dX5_heap_19 : decode cX5_heap 19 = .ok (.iadd, 1) := by decide +kernel
theorem dX5_heap_20 : decode cX5_heap 20 = .ok (.putfield 166, 3) := by decide +kernel
theorem dX5_heap_23 : decode cX5_heap 23 = .ok (.ireturn, 1) := by decide +kernel
theorem dX5_put_0 : decode cX5_put 0 = .ok (.aload_n 0, 1) := by decide +kernel
theorem dX5_put_1 : decode cX5_put 1 = .ok (.iload_n 1, 1) := by decide +kernel
theorem dX5_put_2 : decode cX5_put 2 = .ok (.invokevirtual 169, 3) := by decide +kernel
theorem dX5_put_5 : decode cX5_put 5 = .ok (.ifCond .eq 11, 3) := by decide +kernel
theorem dX5_put_8 : decode cX5_put 8 = .ok (.aload_n 0, 1) := by decide +kernel
theorem dX5_put_9 : decode cX5_put 9 = .ok (.iload_n 2, 1) := by decide +kernel
theorem dX5_put_10 : decode cX5_put 10 = .ok (.invokevirtual 88, 3) := by decide +kernel
theorem dX5_put_13 : decode cX5_put 13 = .ok (.ifCond .ne 5, 3) := by decide +kernel
theorem dX5_put_16 : decode cX5_put 16 = .ok (.iconst (-1), 1) := by decide +kernel
theorem dX5_put_17 : decode cX5_put 17 = .ok (.ireturn, 1) := by decide +kernel
theorem dX5_put_18 : decode cX5_put 18 = .ok (.aload_n 0, 1) := by decide +kernel
theorem dX5_put_19 : decode cX5_put 19 = .ok (.getfield 25, 3) := by decide +kernel
theorem dX5_put_22 : decode cX5_put 22 = .ok (.iload_n 1, 1) := by decide +kernel
theorem dX5_put_23 : decode cX5_put 23 = .ok (.aload_n 0, 1) := by decide +kernel
theorem dX5_put_24 : decode cX5_put 24 = .ok (.getfield 25, 3) := by decide +kernel
theorem dX5_put_27 : decode cX5_put 27 = .ok (.iload_n 1, 1) := by decide +kernel
theorem dX5_put_28 : decode cX5_put 28 = .ok (.iaload, 1) := by decide +kernel
theorem dX5_put_29 : decode cX5_put 29 = .ok (.iload_n 2, 1) := by decide +kernel
theorem dX5_put_30 : decode cX5_put 30 = .ok (.iload_n 3, 1) := by decide +kernel
theorem dX5_put_31 : decode cX5_put 31 = .ok (.invokestatic 97, 3) := by decide +kernel
theorem dX5_put_34 : decode cX5_put 34 = .ok (.iastore, 1) := by decide +kernel
theorem dX5_put_35 : decode cX5_put 35 = .ok (.aload_n 0, 1) := by decide +kernel
theorem dX5_put_36 : decode cX5_put 36 = .ok (.getfield 25, 3) := by decide +kernel
theorem dX5_put_39 : decode cX5_put 39 = .ok (.iload_n 1, 1) := by decide +kernel
theorem dX5_put_40 : decode cX5_put 40 = .ok (.iaload, 1) := by decide +kernel
theorem dX5_put_41 : decode cX5_put 41 = .ok (.invokestatic 172, 3) := by decide +kernel
theorem dX5_put_44 : decode cX5_put 44 = .ok (.ireturn, 1) := by decide +kernel
theorem dX5_least_0 : decode cX5_least 0 = .ok (.aload_n 0, 1) := by decide +kernel
theorem dX5_least_1 : decode cX5_least 1 = .ok (.iload_n 1, 1) := by decide +kernel
theorem dX5_least_2 : decode cX5_least 2 = .ok (.invokevirtual 169, 3) := by decide +kernel
theorem dX5_least_5 : decode cX5_least 5 = .ok (.ifCond .ne 7, 3) := by decide +kernel
theorem dX5_least_8 : decode cX5_least 8 = .ok (.ldc2_w 177, 3) := by decide +kernel
theorem dX5_least_11 : decode cX5_least 11 = .ok (.lreturn, 1) := by decide +kernel
theorem dX5_least_12 : decode cX5_least 12 = .ok (.aload_n 0, 1) := by decide +kernel
theorem dX5_least_13 : decode cX5_least 13 = .ok (.iload_n 1, 1) := by decide +kernel
theorem dX5_least_14 : decode cX5_least 14 = .ok (.invokevirtual 179, 3) := by decide +kernel
theorem dX5_least_17 : decode cX5_least 17 = .ok (.lreturn, 1) := by decide +kernel
theorem dX5_thinnest_0 : decode cX5_thinnest 0 = .ok (.bipush (-6), 2) := by decide +kernel
theorem dX5_thinnest_2 : decode cX5_thinnest 2 = .ok (.istore_n 1, 1) := by decide +kernel
theorem dX5_thinnest_3 : decode cX5_thinnest 3 = .ok (.lconst 0, 1) := by decide +kernel
theorem dX5_thinnest_4 : decode cX5_thinnest 4 = .ok (.lstore_n 2, 1) := by decide +kernel
theorem dX5_thinnest_5 : decode cX5_thinnest 5 = .ok (.iconst 0, 1) := by decide +kernel
theorem dX5_thinnest_6 : decode cX5_thinnest 6 = .ok (.istore 4, 2) := by decide +kernel
theorem dX5_thinnest_8 : decode cX5_thinnest 8 = .ok (.iload 4, 2) := by decide +kernel
theorem dX5_thinnest_10 : decode cX5_thinnest 10 = .ok (.aload_n 0, 1) := by decide +kernel
theorem dX5_thinnest_11 : decode cX5_thinnest 11 = .ok (.getfield 166, 3) := by decide +kernel
theorem dX5_thinnest_14 : decode cX5_thinnest 14 = .ok (.if_icmp .ge 36, 3) := by decide +kernel
theorem dX5_thinnest_17 : decode cX5_thinnest 17 = .ok (.aload_n 0, 1) := by decide +kernel
theorem dX5_thinnest_18 : decode cX5_thinnest 18 = .ok (.iload 4, 2) := by decide +kernel
theorem dX5_thinnest_20 : decode cX5_thinnest 20 = .ok (.invokevirtual 179, 3) := by decide +kernel
theorem dX5_thinnest_23 : decode cX5_thinnest 23 = .ok (.lstore 5, 2) := by decide +kernel
theorem dX5_thinnest_25 : decode cX5_thinnest 25 = .ok (.iload_n 1, 1) := by decide +kernel
theorem dX5_thinnest_26 : decode cX5_thinnest 26 = .ok (.bipush (-6), 2) := by decide +kernel
theorem dX5_thinnest_28 : decode cX5_thinnest 28 = .ok (.if_icmp .eq 10, 3) := by decide +kernel
theorem dX5_thinnest_31 : decode cX5_thinnest 31 = .ok (.lload 5, 2) := by decide +kernel
theorem dX5_thinnest_33 : decode cX5_thinnest 33 = .ok (.lload_n 2, 1) := by decide +kernel
theorem dX5_thinnest_34 : decode cX5_thinnest 34 = .ok (.lcmp, 1) := by decide +kernel
theorem dX5_thinnest_35 : decode cX5_thinnest 35 = .ok (.ifCond .ge 9, 3) := by decide +kernel
theorem dX5_thinnest_38 : decode cX5_thinnest 38 = .ok (.iload 4, 2) := by decide +kernel
theorem dX5_thinnest_40 : decode cX5_thinnest 40 = .ok (.istore_n 1, 1) := by decide +kernel
theorem dX5_thinnest_41 : decode cX5_thinnest 41 = .ok (.lload 5, 2) := by decide +kernel
theorem dX5_thinnest_43 : decode cX5_thinnest 43 = .ok (.lstore_n 2, 1) := by decide +kernel
theorem dX5_thinnest_44 : decode cX5_thinnest 44 = .ok (.iinc 4 1, 3) := by decide +kernel
theorem dX5_thinnest_47 : decode cX5_thinnest 47 = .ok (.goto (-39), 3) := by decide +kernel
theorem dX5_thinnest_50 : decode cX5_thinnest 50 = .ok (.iload_n 1, 1) := by decide +kernel
theorem dX5_thinnest_51 : decode cX5_thinnest 51 = .ok (.ireturn, 1) := by decide +kernel
theorem dX5_free_0 : decode cX5_free 0 = .ok (.aload_n 0, 1) := by decide +kernel
theorem dX5_free_1 : decode cX5_free 1 = .ok (.iload_n 1, 1) := by decide +kernel
theorem dX5_free_2 : decode cX5_free 2 = .ok (.invokevirtual 81, 3) := by decide +kernel
theorem dX5_free_5 : decode cX5_free 5 = .ok (.ifCond .ne 5, 3) := by decide +kernel
theorem dX5_free_8 : decode cX5_free 8 = .ok (.iconst (-1), 1) := by decide +kernel
theorem dX5_free_9 : decode cX5_free 9 = .ok (.ireturn, 1) := by decide +kernel
theorem dX5_free_10 : decode cX5_free 10 = .ok (.aload_n 0, 1) := by decide +kernel
theorem dX5_free_11 : decode cX5_free 11 = .ok (.getfield 17, 3) := by decide +kernel
theorem dX5_free_14 : decode cX5_free 14 = .ok (.getfield 156, 3) := by decide +kernel
theorem dX5_free_17 : decode cX5_free 17 = .ok (.iload_n 1, 1) := by decide +kernel
theorem dX5_free_18 : decode cX5_free 18 = .ok (.iload_n 2, 1) := by decide +kernel
theorem dX5_free_19 : decode cX5_free 19 = .ok (.invokestatic 97, 3) := by decide +kernel
theorem dX5_free_22 : decode cX5_free 22 = .ok (.istore_n 3, 1) := by decide +kernel
theorem dX5_free_23 : decode cX5_free 23 = .ok (.iload_n 3, 1) := by decide +kernel
theorem dX5_free_24 : decode cX5_free 24 = .ok (.invokestatic 172, 3) := by decide +kernel
theorem dX5_free_27 : decode cX5_free 27 = .ok (.iconst 5, 1) := by decide +kernel
theorem dX5_free_28 : decode cX5_free 28 = .ok (.if_icmp .le 6, 3) := by decide +kernel
theorem dX5_free_31 : decode cX5_free 31 = .ok (.bipush (-4), 2) := by decide +kernel
theorem dX5_free_33 : decode cX5_free 33 = .ok (.ireturn, 1) := by decide +kernel
theorem dX5_free_34 : decode cX5_free 34 = .ok (.aload_n 0, 1) := by decide +kernel
theorem dX5_free_35 : decode cX5_free 35 = .ok (.getfield 17, 3) := by decide +kernel
theorem dX5_free_38 : decode cX5_free 38 = .ok (.iload_n 3, 1) := by decide +kernel
theorem dX5_free_39 : decode cX5_free 39 = .ok (.putfield 156, 3) := by decide +kernel
theorem dX5_free_42 : decode cX5_free 42 = .ok (.iload_n 3, 1) := by decide +kernel
