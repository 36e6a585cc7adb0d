theorem dX6_resize_17 : decode cX6_resize 17 = .ok (.i2l, 1) := by decide +kernel
theorem dX6_resize_18 : decode cX6_resize 18 = .ok (.invokestatic 112, 3) := by decide +kernel
theorem dX6_resize_21 : decode cX6_resize 21 = .ok (.ifCond .ne 5, 3) := by decide +kernel
theorem dX6_resize_24 : decode cX6_resize 24 = .ok (.iconst (-1), 1) := by decide +kernel
theorem dX6_resize_25 : decode cX6_resize 25 = .ok (.ireturn, 1) := by decide +kernel
theorem dX6_resize_26 : decode cX6_resize 26 = .ok (.aload_n 0, 1) := by decide +kernel
theorem dX6_resize_27 : decode cX6_resize 27 = .ok (.getfield 26, 3) := by decide +kernel
theorem dX6_resize_30 : decode cX6_resize 30 = .ok (.iload_n 1, 1) := by decide +kernel
theorem dX6_resize_31 : decode cX6_resize 31 = .ok (.iaload, 1) := by decide +kernel
theorem dX6_resize_32 : decode cX6_resize 32 = .ok (.istore_n 3, 1) := by decide +kernel
theorem dX6_resize_33 : decode cX6_resize 33 = .ok (.aload_n 0, 1) := by decide +kernel
theorem dX6_resize_34 : decode cX6_resize 34 = .ok (.getfield 26, 3) := by decide +kernel
theorem dX6_resize_37 : decode cX6_resize 37 = .ok (.iload_n 1, 1) := by decide +kernel
theorem dX6_resize_38 : decode cX6_resize 38 = .ok (.iload_n 2, 1) := by decide +kernel
theorem dX6_resize_39 : decode cX6_resize 39 = .ok (.iastore, 1) := by decide +kernel
theorem dX6_resize_40 : decode cX6_resize 40 = .ok (.iload_n 3, 1) := by decide +kernel
theorem dX6_resize_41 : decode cX6_resize 41 = .ok (.ireturn, 1) := by decide +kernel
theorem dX6_factorNow_0 : decode cX6_factorNow 0 = .ok (.aload_n 0, 1) := by decide +kernel
theorem dX6_factorNow_1 : decode cX6_factorNow 1 = .ok (.getfield 39, 3) := by decide +kernel
theorem dX6_factorNow_4 : decode cX6_factorNow 4 = .ok (.iload_n 1, 1) := by decide +kernel
theorem dX6_factorNow_5 : decode cX6_factorNow 5 = .ok (.baload, 1) := by decide +kernel
theorem dX6_factorNow_6 : decode cX6_factorNow 6 = .ok (.ifCond .eq 25, 3) := by decide +kernel
theorem dX6_factorNow_9 : decode cX6_factorNow 9 = .ok (.aload_n 0, 1) := by decide +kernel
theorem dX6_factorNow_10 : decode cX6_factorNow 10 = .ok (.getfield 42, 3) := by decide +kernel
theorem dX6_factorNow_13 : decode cX6_factorNow 13 = .ok (.iload_n 1, 1) := by decide +kernel
theorem dX6_factorNow_14 : decode cX6_factorNow 14 = .ok (.iaload, 1) := by decide +kernel
theorem dX6_factorNow_15 : decode cX6_factorNow 15 = .ok (.bipush 100, 2) := by decide +kernel
theorem dX6_factorNow_17 : decode cX6_factorNow 17 = .ok (.aload_n 0, 1) := by decide +kernel
theorem dX6_factorNow_18 : decode cX6_factorNow 18 = .ok (.getfield 51, 3) := by decide +kernel
theorem dX6_factorNow_21 : decode cX6_factorNow 21 = .ok (.iload_n 1, 1) := by decide +kernel
theorem dX6_factorNow_22 : decode cX6_factorNow 22 = .ok (.iaload, 1) := by decide +kernel
theorem dX6_factorNow_23 : decode cX6_factorNow 23 = .ok (.isub, 1) := by decide +kernel
theorem dX6_factorNow_24 : decode cX6_factorNow 24 = .ok (.imul, 1) := by decide +kernel
theorem dX6_factorNow_25 : decode cX6_factorNow 25 = .ok (.bipush 100, 2) := by decide +kernel
theorem dX6_factorNow_27 : decode cX6_factorNow 27 = .ok (.idiv, 1) := by decide +kernel
theorem dX6_factorNow_28 : decode cX6_factorNow 28 = .ok (.goto 4, 3) := by decide +kernel
theorem dX6_factorNow_31 : decode cX6_factorNow 31 = .ok (.iconst 0, 1) := by decide +kernel
theorem dX6_factorNow_32 : decode cX6_factorNow 32 = .ok (.ireturn, 1) := by decide +kernel
theorem dX6_root_0 : decode cX6_root 0 = .ok (.lconst 0, 1) := by decide +kernel
theorem dX6_root_1 : decode cX6_root 1 = .ok (.lstore_n 2, 1) := by decide +kernel
theorem dX6_root_2 : decode cX6_root 2 = .ok (.ldc2_w 145, 3) := by decide +kernel
theorem dX6_root_5 : decode cX6_root 5 = .ok (.lstore 4, 2) := by decide +kernel
theorem dX6_root_7 : decode cX6_root 7 = .ok (.lload 4, 2) := by decide +kernel
theorem dX6_root_9 : decode cX6_root 9 = .ok (.lconst 0, 1) := by decide +kernel
theorem dX6_root_10 : decode cX6_root 10 = .ok (.lcmp, 1) := by decide +kernel
theorem dX6_root_11 : decode cX6_root 11 = .ok (.ifCond .le 40, 3) := by decide +kernel
theorem dX6_root_14 : decode cX6_root 14 = .ok (.lload_n 2, 1) := by decide +kernel
theorem dX6_root_15 : decode cX6_root 15 = .ok (.lload 4, 2) := by decide +kernel
theorem dX6_root_17 : decode cX6_root 17 = .ok (.ladd, 1) := by decide +kernel
theorem dX6_root_18 : decode cX6_root 18 = .ok (.lstore 6, 2) := by decide +kernel
theorem dX6_root_20 : decode cX6_root 20 = .ok (.lload 6, 2) := by decide +kernel
theorem dX6_root_22 : decode cX6_root 22 = .ok (.ldc2_w 147, 3) := by decide +kernel
theorem dX6_root_25 : decode cX6_root 25 = .ok (.lcmp, 1) := by decide +kernel
theorem dX6_root_26 : decode cX6_root 26 = .ok (.ifCond .gt 16, 3) := by decide +kernel
theorem dX6_root_29 : decode cX6_root 29 = .ok (.lload 6, 2) := by decide +kernel
theorem dX6_root_31 : decode cX6_root 31 = .ok (.lload 6, 2) := by decide +kernel
theorem dX6_root_33 : decode cX6_root 33 = .ok (.lmul, 1) := by decide +kernel
theorem dX6_root_34 : decode cX6_root 34 = .ok (.lload_n 0, 1) := by decide +kernel
theorem dX6_root_35 : decode cX6_root 35 = .ok (.lcmp, 1) := by decide +kernel
theorem dX6_root_36 : decode cX6_root 36 = .ok (.ifCond .gt 6, 3) := by decide +kernel
theorem dX6_root_39 : decode cX6_root 39 = .ok (.lload 6, 2) := by decide +kernel
theorem dX6_root_41 : decode cX6_root 41 = .ok (.lstore_n 2, 1) := by decide +kernel
theorem dX6_root_42 : decode cX6_root 42 = .ok (.lload 4, 2) := by decide +kernel
theorem dX6_root_44 : decode cX6_root 44 = .ok (.iconst 1, 1) := by decide +kernel
theorem dX6_root_45 : decode cX6_root 45 = .ok (.lshr, 1) := by decide +kernel
theorem dX6_root_46 : decode cX6_root 46 = .ok (.lstore 4, 2) := by decide +kernel
theorem dX6_root_48 : decode cX6_root 48 = .ok (.goto (-41), 3) := by decide +kernel
theorem dX6_root_51 : decode cX6_root 51 = .ok (.lload_n 2, 1) := by decide +kernel
theorem dX6_root_52 : decode cX6_root 52 = .ok (.lreturn, 1) := by decide +kernel
theorem dX6_rootUp_0 : decode cX6_rootUp 0 = .ok (.lload_n 0, 1) := by decide +kernel
theorem dX6_rootUp_1 : decode cX6_rootUp 1 = .ok (.invokestatic 149, 3) := by decide +kernel
theorem dX6_rootUp_4 : decode cX6_rootUp 4 = .ok (.lstore_n 2, 1) := by decide +kernel
theorem dX6_rootUp_5 : decode cX6_rootUp 5 = .ok (.lload_n 2, 1) := by decide +kernel
theorem dX6_rootUp_6 : decode cX6_rootUp 6 = .ok (.lload_n 2, 1) := by decide +kernel
theorem dX6_rootUp_7 : decode cX6_rootUp 7 = .ok (.lmul, 1) := by decide +kernel
theorem dX6_rootUp_8 : decode cX6_rootUp 8 = .ok (.lload_n 0, 1) := by decide +kernel
theorem dX6_rootUp_9 : decode cX6_rootUp 9 = .ok (.lcmp, 1) := by decide +kernel
theorem dX6_rootUp_10 : decode cX6_rootUp 10 = .ok (.ifCond .ge 9, 3) := by decide +kernel
theorem dX6_rootUp_13 : decode cX6_rootUp 13 = .ok (.lload_n 2, 1) := by decide +kernel
theorem dX6_rootUp_14 : decode cX6_rootUp 14 = .ok (.lconst 1, 1) := by decide +kernel
theorem dX6_rootUp_15 : decode cX6_rootUp 15 = .ok (.ladd, 1) := by decide +kernel
theorem dX6_rootUp_16 : decode cX6_rootUp 16 = .ok (.goto 4, 3) := by decide +kernel
theorem dX6_rootUp_19 : decode cX6_rootUp 19 = .ok (.lload_n 2, 1) := by decide +kernel
theorem dX6_rootUp_20 : decode cX6_rootUp 20 = .ok (.lreturn, 1) := by decide +kernel
theorem dX6_up_0 : decode cX6_up 0 = .ok (.lload_n 0, 1) := by decide +kernel
theorem dX6_up_1 : decode cX6_up 1 = .ok (.lload_n 2, 1) := by decide +kernel
theorem dX6_up_2 : decode cX6_up 2 = .ok (.ldiv, 1) := by decide +kernel
theorem dX6_up_3 : decode cX6_up 3 = .ok (.lload_n 0, 1) := by decide +kernel
theorem dX6_up_4 : decode cX6_up 4 = .ok (.lload_n 2, 1) := by decide +kernel
theorem dX6_up_5 : decode cX6_up 5 = .ok (.lrem, 1) := by decide +kernel
theorem dX6_up_6 : decode cX6_up 6 = .ok (.lconst 0, 1) := by decide +kernel
theorem dX6_up_7 : decode cX6_up 7 = .ok (.lcmp, 1) := by decide +kernel
theorem dX6_up_8 : decode cX6_up 8 = .ok (.ifCond .le 7, 3) := by decide +kernel
theorem dX6_up_11 : decode cX6_up 11 = .ok (.lconst 1, 1) := by decide +kernel
theorem dX6_up_12 : decode cX6_up 12 = .ok (.goto 4, 3) := by decide +kernel
theorem dX6_up_15 : decode cX6_up 15 = .ok (.lconst 0, 1) := by decide +kernel
theorem dX6_up_16 : decode cX6_up 16 = .ok (.ladd, 1) := by decide +kernel
theorem dX6_up_17 : decode cX6_up 17 = .ok (.lreturn, 1) := by decide +kernel
theorem dX6_drag_0 : decode cX6_drag 0 = .ok (.iload_n 1, 1) := by decide +kernel
theorem dX6_drag_1 : decode cX6_drag 1 = .ok (.bipush 24, 2) := by decide +kernel
theorem dX6_drag_3 : decode cX6_drag 3 = .ok (.if_icmp .ne 10, 3) := by decide +kernel
theorem dX6_drag_6 : decode cX6_drag 6 = .ok (.aload_n 0, 1) := by decide +kernel
theorem dX6_drag_7 : decode cX6_drag 7 = .ok (.getfield 124, 3) := by decide +kernel
theorem dX6_drag_10 : decode cX6_drag 10 = .ok (.goto 21, 3) := by decide +kernel
theorem dX6_drag_13 : decode cX6_drag 13 = .ok (.aload_n 0, 1) := by decide +kernel
theorem dX6_drag_14 : decode cX6_drag 14 = .ok (.getfield 23, 3) := by decide +kernel
theorem dX6_drag_17 : decode cX6_drag 17 = .ok (.iload_n 1, 1) := by decide +kernel
theorem dX6_drag_18 : decode cX6_drag 18 = .ok (.iaload, 1) := by decide +kernel
theorem dX6_drag_19 : decode cX6_drag 19 = .ok (.aload_n 0, 1) := by decide +kernel
theorem dX6_drag_20 : decode cX6_drag 20 = .ok (.getfield 13, 3) := by decide +kernel
theorem dX6_drag_23 : decode cX6_drag 23 = .ok (.aload_n 0, 1) := by decide +kernel
theorem dX6_drag_24 : decode cX6_drag 24 = .ok (.getfield 26, 3) := by decide +kernel
theorem dX6_drag_27 : decode cX6_drag 27 = .ok (.iload_n 1, 1) := by decide +kernel
theorem dX6_drag_28 : decode cX6_drag 28 = .ok (.iaload, 1) := by decide +kernel
theorem dX6_drag_29 : decode cX6_drag 29 = .ok (.iaload, 1) := by decide +kernel
theorem dX6_drag_30 : decode cX6_drag 30 = .ok (.imul, 1) := by decide +kernel
theorem dX6_drag_31 : decode cX6_drag 31 = .ok (.ireturn, 1) := by decide +kernel
theorem dX6_openAsTold_0 : decode cX6_openAsTold 0 = .ok (.iconst 0, 1) := by decide +kernel
theorem dX6_openAsTold_1 : decode cX6_openAsTold 1 = .ok (.istore_n 1, 1) := by decide +kernel
theorem dX6_openAsTold_2 : decode cX6_openAsTold 2 = .ok (.iload_n 1, 1) := by decide +kernel
theorem dX6_openAsTold_3 : decode cX6_openAsTold 3 = .ok (.aload_n 0, 1) := by decide +kernel
theorem dX6_openAsTold_4 : decode cX6_openAsTold 4 = .ok (.getfield 109, 3) := by decide +kernel
theorem dX6_openAsTold_7 : decode cX6_openAsTold 7 = .ok (.if_icmp .ge 38, 3) := by decide +kernel
theorem dX6_openAsTold_10 : decode cX6_openAsTold 10 = .ok (.aload_n 0, 1) := by decide +kernel
theorem dX6_openAsTold_11 : decode cX6_openAsTold 11 = .ok (.getfield 54, 3) := by decide +kernel
theorem dX6_openAsTold_14 : decode cX6_openAsTold 14 = .ok (.iload_n 1, 1) := by decide +kernel
theorem dX6_openAsTold_15 : decode cX6_openAsTold 15 = .ok (.aload_n 0, 1) := by decide +kernel
theorem dX6_openAsTold_16 : decode cX6_openAsTold 16 = .ok (.getfield 39, 3) := by decide +kernel
theorem dX6_openAsTold_19 : decode cX6_openAsTold 19 = .ok (.iload_n 1, 1) := by decide +kernel
theorem dX6_openAsTold_20 : decode cX6_openAsTold 20 = .ok (.baload, 1) := by decide +kernel
theorem dX6_openAsTold_21 : decode cX6_openAsTold 21 = .ok (.ifCond .eq 16, 3) := by decide +kernel
theorem dX6_openAsTold_24 : decode cX6_openAsTold 24 = .ok (.aload_n 0, 1) := by decide +kernel
theorem dX6_openAsTold_25 : decode cX6_openAsTold 25 = .ok (.getfield 48, 3) := by decide +kernel
theorem dX6_openAsTold_28 : decode cX6_openAsTold 28 = .ok (.iload_n 1, 1) := by decide +kernel
theorem dX6_openAsTold_29 : decode cX6_openAsTold 29 = .ok (.baload, 1) := by decide +kernel
theorem dX6_openAsTold_30 : decode cX6_openAsTold 30 = .ok (.ifCond .eq 7, 3) := by decide +kernel
theorem dX6_openAsTold_33 : decode cX6_openAsTold 33 = .ok (.iconst 1, 1) := by decide +kernel
theorem dX6_openAsTold_34 : decode cX6_openAsTold 34 = .ok (.goto 4, 3) := by decide +kernel
theorem dX6_openAsTold_37 : decode cX6_openAsTold 37 = .ok (.iconst 0, 1) := by decide +kernel
theorem dX6_openAsTold_38 : decode cX6_openAsTold 38 = .ok (.bastore, 1) := by decide +kernel
theorem dX6_openAsTold_39 : decode cX6_openAsTold 39 = .ok (.iinc 1 1, 3) := by decide +kernel
theorem dX6_openAsTold_42 : decode cX6_openAsTold 42 = .ok (.goto (-40), 3) := by decide +kernel
theorem dX6_openAsTold_45 : decode cX6_openAsTold 45 = .ok (.return_, 1) := by decide +kernel
theorem dX6_conductOf_0 : decode cX6_conductOf 0 = .ok (.aload_n 0, 1) := by decide +kernel
theorem dX6_conductOf_1 : decode cX6_conductOf 1 = .ok (.iload_n 1, 1) := by decide +kernel
theorem dX6_conductOf_2 : decode cX6_conductOf 2 = .ok (.invokevirtual 153, 3) := by decide +kernel
theorem dX6_conductOf_5 : decode cX6_conductOf 5 = .ok (.i2l, 1) := by decide +kernel
theorem dX6_conductOf_6 : decode cX6_conductOf 6 = .ok (.lstore_n 2, 1) := by decide +kernel
theorem dX6_conductOf_7 : decode cX6_conductOf 7 = .ok (.aload_n 0, 1) := by decide +kernel
theorem dX6_conductOf_8 : decode cX6_conductOf 8 = .ok (.getfield 57, 3) := by decide +kernel
theorem dX6_conductOf_11 : decode cX6_conductOf 11 = .ok (.iload_n 1, 1) := by decide +kernel
theorem dX6_conductOf_12 : decode cX6_conductOf 12 = .ok (.laload, 1) := by decide +kernel
theorem dX6_conductOf_13 : decode cX6_conductOf 13 = .ok (.lstore 4, 2) := by decide +kernel
theorem dX6_conductOf_15 : decode cX6_conductOf 15 = .ok (.aload_n 0, 1) := by decide +kernel
theorem dX6_conductOf_16 : decode cX6_conductOf 16 = .ok (.getfield 61, 3) := by decide +kernel
theorem dX6_conductOf_19 : decode cX6_conductOf 19 = .ok (.iload_n 1, 1) := by decide +kernel
theorem dX6_conductOf_20 : decode cX6_conductOf 20 = .ok (.laload, 1) := by decide +kernel
theorem dX6_conductOf_21 : decode cX6_conductOf 21 = .ok (.lstore 6, 2) := by decide +kernel
theorem dX6_conductOf_23 : decode cX6_conductOf 23 = .ok (.iload_n 1, 1) := by decide +kernel
theorem dX6_conductOf_24 : decode cX6_conductOf 24 = .ok (.bipush 24, 2) := by decide +kernel
theorem dX6_conductOf_26 : decode cX6_conductOf 26 = .ok (.if_icmp .ge 16, 3) := by decide +kernel
theorem dX6_conductOf_29 : decode cX6_conductOf 29 = .ok (.aload_n 0, 1) := by decide +kernel
theorem dX6_conductOf_30 : decode cX6_conductOf 30 = .ok (.getfield 32, 3) := by decide +kernel
theorem dX6_conductOf_33 : decode cX6_conductOf 33 = .ok (.iload_n 1, 1) := by decide +kernel
theorem dX6_conductOf_34 : decode cX6_conductOf 34 = .ok (.baload, 1) := by decide +kernel
theorem dX6_conductOf_35 : decode cX6_conductOf 35 = .ok (.ifCond .eq 7, 3) := by decide +kernel
theorem dX6_conductOf_38 : decode cX6_conductOf 38 = .ok (.iconst 1, 1) := by decide +kernel
theorem dX6_conductOf_39 : decode cX6_conductOf 39 = .ok (.goto 4, 3) := by decide +kernel
theorem dX6_conductOf_42 : decode cX6_conductOf 42 = .ok (.iconst 0, 1) := by decide +kernel
theorem dX6_conductOf_43 : decode cX6_conductOf 43 = .ok (.istore 8, 2) := by decide +kernel
theorem dX6_conductOf_45 : decode cX6_conductOf 45 = .ok (.aload_n 0, 1) := by decide +kernel
theorem dX6_conductOf_46 : decode cX6_conductOf 46 = .ok (.getfield 64, 3) := by decide +kernel
theorem dX6_conductOf_49 : decode cX6_conductOf 49 = .ok (.iload_n 1, 1) := by decide +kernel
theorem dX6_conductOf_50 : decode cX6_conductOf 50 = .ok (.iload 8, 2) := by decide +kernel
theorem dX6_conductOf_52 : decode cX6_conductOf 52 = .ok (.ifCond .eq 7, 3) := by decide +kernel
theorem dX6_conductOf_55 : decode cX6_conductOf 55 = .ok (.lconst 0, 1) := by decide +kernel
theorem dX6_conductOf_56 : decode cX6_conductOf 56 = .ok (.goto 23, 3) := by decide +kernel
theorem dX6_conductOf_59 : decode cX6_conductOf 59 = .ok (.lload 4, 2) := by decide +kernel
theorem dX6_conductOf_61 : decode cX6_conductOf 61 = .ok (.bipush 25, 2) := by decide +kernel
theorem dX6_conductOf_63 : decode cX6_conductOf 63 = .ok (.lshl, 1) := by decide +kernel
theorem dX6_conductOf_64 : decode cX6_conductOf 64 = .ok (.ldc2_w 157, 3) := by decide +kernel
theorem dX6_conductOf_67 : decode cX6_conductOf 67 = .ok (.lload_n 2, 1) := by decide +kernel
theorem dX6_conductOf_68 : decode cX6_conductOf 68 = .ok (.lload 4, 2) := by decide +kernel
theorem dX6_conductOf_70 : decode cX6_conductOf 70 = .ok (.lmul, 1) := by decide +kernel
theorem dX6_conductOf_71 : decode cX6_conductOf 71 = .ok (.lload 4, 2) := by decide +kernel
theorem dX6_conductOf_73 : decode cX6_conductOf 73 = .ok (.lmul, 1) := by decide +kernel
theorem dX6_conductOf_74 : decode cX6_conductOf 74 = .ok (.ladd, 1) := by decide +kernel
theorem dX6_conductOf_75 : decode cX6_conductOf 75 = .ok (.invokestatic 159, 3) := by decide +kernel
theorem dX6_conductOf_78 : decode cX6_conductOf 78 = .ok (.ldiv, 1) := by decide +kernel
theorem dX6_conductOf_79 : decode cX6_conductOf 79 = .ok (.lastore, 1) := by decide +kernel
theorem dX6_conductOf_80 : decode cX6_conductOf 80 = .ok (.aload_n 0, 1) := by decide +kernel
theorem dX6_conductOf_81 : decode cX6_conductOf 81 = .ok (.getfield 67, 3) := by decide +kernel
theorem dX6_conductOf_84 : decode cX6_conductOf 84 = .ok (.iload_n 1, 1) := by decide +kernel
theorem dX6_conductOf_85 : decode cX6_conductOf 85 = .ok (.iload 8, 2) := by decide +kernel
theorem dX6_conductOf_87 : decode cX6_conductOf 87 = .ok (.ifCond .eq 7, 3) := by decide +kernel
theorem dX6_conductOf_90 : decode cX6_conductOf 90 = .ok (.lconst 0, 1) := by decide +kernel
theorem dX6_conductOf_91 : decode cX6_conductOf 91 = .ok (.goto 25, 3) := by decide +kernel
theorem dX6_conductOf_94 : decode cX6_conductOf 94 = .ok (.lload 6, 2) := by decide +kernel
theorem dX6_conductOf_96 : decode cX6_conductOf 96 = .ok (.bipush 25, 2) := by decide +kernel
theorem dX6_conductOf_98 : decode cX6_conductOf 98 = .ok (.lshl, 1) := by decide +kernel
theorem dX6_conductOf_99 : decode cX6_conductOf 99 = .ok (.ldc2_w 157, 3) := by decide +kernel
theorem dX6_conductOf_102 : decode cX6_conductOf 102 = .ok (.lload_n 2, 1) := by decide +kernel
theorem dX6_conductOf_103 : decode cX6_conductOf 103 = .ok (.lload 6, 2) := by decide +kernel
theorem dX6_conductOf_105 : decode cX6_conductOf 105 = .ok (.lmul, 1) := by decide +kernel
theorem dX6_conductOf_106 : decode cX6_conductOf 106 = .ok (.lload 6, 2) := by decide +kernel
theorem dX6_conductOf_108 : decode cX6_conductOf 108 = .ok (.lmul, 1) := by decide +kernel
theorem dX6_conductOf_109 : decode cX6_conductOf 109 = .ok (.ladd, 1) := by decide +kernel
theorem dX6_conductOf_110 : decode cX6_conductOf 110 = .ok (.invokestatic 149, 3) := by decide +kernel
theorem dX6_conductOf_113 : decode cX6_conductOf 113 = .ok (.invokestatic 162, 3) := by decide +kernel
theorem dX6_conductOf_116 : decode cX6_conductOf 116 = .ok (.lastore, 1) := by decide +kernel
theorem dX6_conductOf_117 : decode cX6_conductOf 117 = .ok (.return_, 1) := by decide +kernel
theorem dX6_pressureOf_0 : decode cX6_pressureOf 0 = .ok (.aload_n 0, 1) := by decide +kernel
theorem dX6_pressureOf_1 : decode cX6_pressureOf 1 = .ok (.iload_n 1, 1) := by decide +kernel
theorem dX6_pressureOf_2 : decode cX6_pressureOf 2 = .ok (.invokevirtual 153, 3) := by decide +kernel
theorem dX6_pressureOf_5 : decode cX6_pressureOf 5 = .ok (.i2l, 1) := by decide +kernel
theorem dX6_pressureOf_6 : decode cX6_pressureOf 6 = .ok (.lstore 6, 2) := by decide +kernel
theorem dX6_pressureOf_8 : decode cX6_pressureOf 8 = .ok (.ldc2_w 166, 3) := by decide +kernel
theorem dX6_pressureOf_11 : decode cX6_pressureOf 11 = .ok (.lload 6, 2) := by decide +kernel
theorem dX6_pressureOf_13 : decode cX6_pressureOf 13 = .ok (.aload_n 0, 1) := by decide +kernel
theorem dX6_pressureOf_14 : decode cX6_pressureOf 14 = .ok (.getfield 61, 3) := by decide +kernel
theorem dX6_pressureOf_17 : decode cX6_pressureOf 17 = .ok (.iload_n 1, 1) := by decide +kernel
theorem dX6_pressureOf_18 : decode cX6_pressureOf 18 = .ok (.laload, 1) := by decide +kernel
theorem dX6_pressureOf_19 : decode cX6_pressureOf 19 = .ok (.lmul, 1) := by decide +kernel
theorem dX6_pressureOf_20 : decode cX6_pressureOf 20 = .ok (.aload_n 0, 1) := by decide +kernel
theorem dX6_pressureOf_21 : decode cX6_pressureOf 21 = .ok (.getfield 61, 3) := by decide +kernel
theorem dX6_pressureOf_24 : decode cX6_pressureOf 24 = .ok (.iload_n 1, 1) := by decide +kernel
theorem dX6_pressureOf_25 : decode cX6_pressureOf 25 = .ok (.laload, 1) := by decide +kernel
theorem dX6_pressureOf_26 : decode cX6_pressureOf 26 = .ok (.lmul, 1) := by decide +kernel
theorem dX6_pressureOf_27 : decode cX6_pressureOf 27 = .ok (.ldc2_w 168, 3) := by decide +kernel
theorem dX6_pressureOf_30 : decode cX6_pressureOf 30 = .ok (.invokestatic 162, 3) := by decide +kernel
theorem dX6_pressureOf_33 : decode cX6_pressureOf 33 = .ok (.ladd, 1) := by decide +kernel
theorem dX6_pressureOf_34 : decode cX6_pressureOf 34 = .ok (.lstore 8, 2) := by decide +kernel
theorem dX6_pressureOf_36 : decode cX6_pressureOf 36 = .ok (.ldc2_w 166, 3) := by decide +kernel
theorem dX6_pressureOf_39 : decode cX6_pressureOf 39 = .ok (.lload 6, 2) := by decide +kernel
theorem dX6_pressureOf_41 : decode cX6_pressureOf 41 = .ok (.aload_n 0, 1) := by decide +kernel
theorem dX6_pressureOf_42 : decode cX6_pressureOf 42 = .ok (.getfield 57, 3) := by decide +kernel
theorem dX6_pressureOf_45 : decode cX6_pressureOf 45 = .ok (.iload_n 1, 1) := by decide +kernel
theorem dX6_pressureOf_46 : decode cX6_pressureOf 46 = .ok (.laload, 1) := by decide +kernel
theorem dX6_pressureOf_47 : decode cX6_pressureOf 47 = .ok (.lmul, 1) := by decide +kernel
theorem dX6_pressureOf_48 : decode cX6_pressureOf 48 = .ok (.aload_n 0, 1) := by decide +kernel
theorem dX6_pressureOf_49 : decode cX6_pressureOf 49 = .ok (.getfield 57, 3) := by decide +kernel
theorem dX6_pressureOf_52 : decode cX6_pressureOf 52 = .ok (.iload_n 1, 1) := by decide +kernel
theorem dX6_pressureOf_53 : decode cX6_pressureOf 53 = .ok (.laload, 1) := by decide +kernel
theorem dX6_pressureOf_54 : decode cX6_pressureOf 54 = .ok (.lmul, 1) := by decide +kernel
theorem dX6_pressureOf_55 : decode cX6_pressureOf 55 = .ok (.bipush 20, 2) := by decide +kernel
theorem dX6_pressureOf_57 : decode cX6_pressureOf 57 = .ok (.lshr, 1) := by decide +kernel
theorem dX6_pressureOf_58 : decode cX6_pressureOf 58 = .ok (.ladd, 1) := by decide +kernel
theorem dX6_pressureOf_59 : decode cX6_pressureOf 59 = .ok (.lstore 10, 2) := by decide +kernel
theorem dX6_pressureOf_61 : decode cX6_pressureOf 61 = .ok (.aload_n 0, 1) := by decide +kernel
theorem dX6_pressureOf_62 : decode cX6_pressureOf 62 = .ok (.getfield 70, 3) := by decide +kernel
theorem dX6_pressureOf_65 : decode cX6_pressureOf 65 = .ok (.iload_n 1, 1) := by decide +kernel
theorem dX6_pressureOf_66 : decode cX6_pressureOf 66 = .ok (.lload_n 2, 1) := by decide +kernel
theorem dX6_pressureOf_67 : decode cX6_pressureOf 67 = .ok (.bipush 30, 2) := by decide +kernel
theorem dX6_pressureOf_69 : decode cX6_pressureOf 69 = .ok (.lshl, 1) := by decide +kernel
theorem dX6_pressureOf_70 : decode cX6_pressureOf 70 = .ok (.lload 8, 2) := by decide +kernel
theorem dX6_pressureOf_72 : decode cX6_pressureOf 72 = .ok (.ldiv, 1) := by decide +kernel
theorem dX6_pressureOf_73 : decode cX6_pressureOf 73 = .ok (.lastore, 1) := by decide +kernel
theorem dX6_pressureOf_74 : decode cX6_pressureOf 74 = .ok (.aload_n 0, 1) := by decide +kernel
theorem dX6_pressureOf_75 : decode cX6_pressureOf 75 = .ok (.getfield 73, 3) := by decide +kernel
theorem dX6_pressureOf_78 : decode cX6_pressureOf 78 = .ok (.iload_n 1, 1) := by decide +kernel
theorem dX6_pressureOf_79 : decode cX6_pressureOf 79 = .ok (.lload 4, 2) := by decide +kernel
theorem dX6_pressureOf_81 : decode cX6_pressureOf 81 = .ok (.bipush 30, 2) := by decide +kernel
theorem dX6_pressureOf_83 : decode cX6_pressureOf 83 = .ok (.lshl, 1) := by decide +kernel
theorem dX6_pressureOf_84 : decode cX6_pressureOf 84 = .ok (.lload 10, 2) := by decide +kernel
theorem dX6_pressureOf_86 : decode cX6_pressureOf 86 = .ok (.invokestatic 162, 3) := by decide +kernel
theorem dX6_pressureOf_89 : decode cX6_pressureOf 89 = .ok (.lastore, 1) := by decide +kernel
theorem dX6_pressureOf_90 : decode cX6_pressureOf 90 = .ok (.iload_n 1, 1) := by decide +kernel
theorem dX6_pressureOf_91 : decode cX6_pressureOf 91 = .ok (.bipush 24, 2) := by decide +kernel
theorem dX6_pressureOf_93 : decode cX6_pressureOf 93 = .ok (.if_icmp .ge 26, 3) := by decide +kernel
theorem dX6_pressureOf_96 : decode cX6_pressureOf 96 = .ok (.aload_n 0, 1) := by decide +kernel
theorem dX6_pressureOf_97 : decode cX6_pressureOf 97 = .ok (.getfield 32, 3) := by decide +kernel
theorem dX6_pressureOf_100 : decode cX6_pressureOf 100 = .ok (.iload_n 1, 1) := by decide +kernel
theorem dX6_pressureOf_101 : decode cX6_pressureOf 101 = .ok (.baload, 1) := by decide +kernel
theorem dX6_pressureOf_102 : decode cX6_pressureOf 102 = .ok (.ifCond .eq 17, 3) := by decide +kernel
theorem dX6_pressureOf_105 : decode cX6_pressureOf 105 = .ok (.aload_n 0, 1) := by decide +kernel
theorem dX6_pressureOf_106 : decode cX6_pressureOf 106 = .ok (.getfield 70, 3) := by decide +kernel
theorem dX6_pressureOf_109 : decode cX6_pressureOf 109 = .ok (.iload_n 1, 1) := by decide +kernel
theorem dX6_pressureOf_110 : decode cX6_pressureOf 110 = .ok (.lconst 0, 1) := by decide +kernel
theorem dX6_pressureOf_111 : decode cX6_pressureOf 111 = .ok (.lastore, 1) := by decide +kernel
theorem dX6_pressureOf_112 : decode cX6_pressureOf 112 = .ok (.aload_n 0, 1) := by decide +kernel
theorem dX6_pressureOf_113 : decode cX6_pressureOf 113 = .ok (.getfield 73, 3) := by decide +kernel
theorem dX6_pressureOf_116 : decode cX6_pressureOf 116 = .ok (.iload_n 1, 1) := by decide +kernel
theorem dX6_pressureOf_117 : decode cX6_pressureOf 117 = .ok (.lconst 0, 1) := by decide +kernel
theorem dX6_pressureOf_118 : decode cX6_pressureOf 118 = .ok (.lastore, 1) := by decide +kernel
theorem dX6_pressureOf_119 : decode cX6_pressureOf 119 = .ok (.return_, 1) := by decide +kernel
theorem dX6_work_0 : decode cX6_work 0 = .ok (.iconst 0, 1) := by decide +kernel
theorem dX6_work_1 : decode cX6_work 1 = .ok (.istore_n 2, 1) := by decide +kernel
theorem dX6_work_2 : decode cX6_work 2 = .ok (.iload_n 2, 1) := by decide +kernel
theorem dX6_work_3 : decode cX6_work 3 = .ok (.bipush 24, 2) := by decide +kernel
theorem dX6_work_5 : decode cX6_work 5 = .ok (.if_icmp .gt 58, 3) := by decide +kernel
theorem dX6_work_8 : decode cX6_work 8 = .ok (.aload_n 0, 1) := by decide +kernel
theorem dX6_work_9 : decode cX6_work 9 = .ok (.getfield 57, 3) := by decide +kernel
theorem dX6_work_12 : decode cX6_work 12 = .ok (.iload_n 2, 1) := by decide +kernel
theorem dX6_work_13 : decode cX6_work 13 = .ok (.iload_n 2, 1) := by decide +kernel
theorem dX6_work_14 : decode cX6_work 14 = .ok (.aload_n 0, 1) := by decide +kernel
theorem dX6_work_15 : decode cX6_work 15 = .ok (.getfield 109, 3) := by decide +kernel
theorem dX6_work_18 : decode cX6_work 18 = .ok (.if_icmp .ge 25, 3) := by decide +kernel
theorem dX6_work_21 : decode cX6_work 21 = .ok (.aload_n 0, 1) := by decide +kernel
theorem dX6_work_22 : decode cX6_work 22 = .ok (.getfield 54, 3) := by decide +kernel
theorem dX6_work_25 : decode cX6_work 25 = .ok (.iload_n 2, 1) := by decide +kernel
theorem dX6_work_26 : decode cX6_work 26 = .ok (.baload, 1) := by decide +kernel
theorem dX6_work_27 : decode cX6_work 27 = .ok (.ifCond .eq 16, 3) := by decide +kernel
theorem dX6_work_30 : decode cX6_work 30 = .ok (.ldc2_w 170, 3) := by decide +kernel
theorem dX6_work_33 : decode cX6_work 33 = .ok (.aload_n 0, 1) := by decide +kernel
theorem dX6_work_34 : decode cX6_work 34 = .ok (.iload_n 2, 1) := by decide +kernel
theorem dX6_work_35 : decode cX6_work 35 = .ok (.invokevirtual 172, 3) := by decide +kernel
theorem dX6_work_38 : decode cX6_work 38 = .ok (.i2l, 1) := by decide +kernel
theorem dX6_work_39 : decode cX6_work 39 = .ok (.lmul, 1) := by decide +kernel
theorem dX6_work_40 : decode cX6_work 40 = .ok (.goto 4, 3) := by decide +kernel
theorem dX6_work_43 : decode cX6_work 43 = .ok (.lconst 0, 1) := by decide +kernel
theorem dX6_work_44 : decode cX6_work 44 = .ok (.lastore, 1) := by decide +kernel
theorem dX6_work_45 : decode cX6_work 45 = .ok (.aload_n 0, 1) := by decide +kernel
theorem dX6_work_46 : decode cX6_work 46 = .ok (.getfield 61, 3) := by decide +kernel
theorem dX6_work_49 : decode cX6_work 49 = .ok (.iload_n 2, 1) := by decide +kernel
theorem dX6_work_50 : decode cX6_work 50 = .ok (.aload_n 0, 1) := by decide +kernel
theorem dX6_work_51 : decode cX6_work 51 = .ok (.getfield 57, 3) := by decide +kernel
theorem dX6_work_54 : decode cX6_work 54 = .ok (.iload_n 2, 1) := by decide +kernel
theorem dX6_work_55 : decode cX6_work 55 = .ok (.laload, 1) := by decide +kernel
theorem dX6_work_56 : decode cX6_work 56 = .ok (.lastore, 1) := by decide +kernel
theorem dX6_work_57 : decode cX6_work 57 = .ok (.iinc 2 1, 3) := by decide +kernel
theorem dX6_work_60 : decode cX6_work 60 = .ok (.goto (-58), 3) := by decide +kernel
theorem dX6_work_63 : decode cX6_work 63 = .ok (.aload_n 0, 1) := by decide +kernel
theorem dX6_work_64 : decode cX6_work 64 = .ok (.getfield 109, 3) := by decide +kernel
theorem dX6_work_67 : decode cX6_work 67 = .ok (.iconst 1, 1) := by decide +kernel
theorem dX6_work_68 : decode cX6_work 68 = .ok (.isub, 1) := by decide +kernel
theorem dX6_work_69 : decode cX6_work 69 = .ok (.istore_n 2, 1) := by decide +kernel
theorem dX6_work_70 : decode cX6_work 70 = .ok (.iload_n 2, 1) := by decide +kernel
theorem dX6_work_71 : decode cX6_work 71 = .ok (.ifCond .lt 65, 3) := by decide +kernel
theorem dX6_work_74 : decode cX6_work 74 = .ok (.aload_n 0, 1) := by decide +kernel
theorem dX6_work_75 : decode cX6_work 75 = .ok (.iload_n 2, 1) := by decide +kernel
theorem dX6_work_76 : decode cX6_work 76 = .ok (.invokevirtual 175, 3) := by decide +kernel
theorem dX6_work_79 : decode cX6_work 79 = .ok (.aload_n 0, 1) := by decide +kernel
theorem dX6_work_80 : decode cX6_work 80 = .ok (.getfield 20, 3) := by decide +kernel
theorem dX6_work_83 : decode cX6_work 83 = .ok (.iload_n 2, 1) := by decide +kernel
theorem dX6_work_84 : decode cX6_work 84 = .ok (.iaload, 1) := by decide +kernel
theorem dX6_work_85 : decode cX6_work 85 = .ok (.ifCond .ge 8, 3) := by decide +kernel
theorem dX6_work_88 : decode cX6_work 88 = .ok (.bipush 24, 2) := by decide +kernel
theorem dX6_work_90 : decode cX6_work 90 = .ok (.goto 9, 3) := by decide +kernel
theorem dX6_work_93 : decode cX6_work 93 = .ok (.aload_n 0, 1) := by decide +kernel
theorem dX6_work_94 : decode cX6_work 94 = .ok (.getfield 20, 3) := by decide +kernel
theorem dX6_work_97 : decode cX6_work 97 = .ok (.iload_n 2, 1) := by decide +kernel
theorem dX6_work_98 : decode cX6_work 98 = .ok (.iaload, 1) := by decide +kernel
theorem dX6_work_99 : decode cX6_work 99 = .ok (.istore_n 3, 1) := by decide +kernel
theorem dX6_work_100 : decode cX6_work 100 = .ok (.aload_n 0, 1) := by decide +kernel
theorem dX6_work_101 : decode cX6_work 101 = .ok (.getfield 57, 3) := by decide +kernel
theorem dX6_work_104 : decode cX6_work 104 = .ok (.iload_n 3, 1) := by decide +kernel
theorem dX6_work_105 : decode cX6_work 105 = .ok (.dup2, 1) := by decide +kernel
theorem dX6_work_106 : decode cX6_work 106 = .ok (.laload, 1) := by decide +kernel
theorem dX6_work_107 : decode cX6_work 107 = .ok (.aload_n 0, 1) := by decide +kernel
theorem dX6_work_108 : decode cX6_work 108 = .ok (.getfield 64, 3) := by decide +kernel
theorem dX6_work_111 : decode cX6_work 111 = .ok (.iload_n 2, 1) := by decide +kernel
theorem dX6_work_112 : decode cX6_work 112 = .ok (.laload, 1) := by decide +kernel
theorem dX6_work_113 : decode cX6_work 113 = .ok (.ladd, 1) := by decide +kernel
theorem dX6_work_114 : decode cX6_work 114 = .ok (.lastore, 1) := by decide +kernel
theorem dX6_work_115 : decode cX6_work 115 = .ok (.aload_n 0, 1) := by decide +kernel
theorem dX6_work_116 : decode cX6_work 116 = .ok (.getfield 61, 3) := by decide +kernel
theorem dX6_work_119 : decode cX6_work 119 = .ok (.iload_n 3, 1) := by decide +kernel
theorem dX6_work_120 : decode cX6_work 120 = .ok (.dup2, 1) := by decide +kernel
theorem dX6_work_121 : decode cX6_work 121 = .ok (.laload, 1) := by decide +kernel
theorem dX6_work_122 : decode cX6_work 122 = .ok (.aload_n 0, 1) := by decide +kernel
theorem dX6_work_123 : decode cX6_work 123 = .ok (.getfield 67, 3) := by decide +kernel
theorem dX6_work_126 : decode cX6_work 126 = .ok (.iload_n 2, 1) := by decide +kernel
theorem dX6_work_127 : decode cX6_work 127 = .ok (.laload, 1) := by decide +kernel
theorem dX6_work_128 : decode cX6_work 128 = .ok (.ladd, 1) := by decide +kernel
theorem dX6_work_129 : decode cX6_work 129 = .ok (.lastore, 1) := by decide +kernel
theorem dX6_work_130 : decode cX6_work 130 = .ok (.iinc 2 (-1), 3) := by decide +kernel
theorem dX6_work_133 : decode cX6_work 133 = .ok (.goto (-63), 3) := by decide +kernel
theorem dX6_work_136 : decode cX6_work 136 = .ok (.aload_n 0, 1) := by decide +kernel
theorem dX6_work_137 : decode cX6_work 137 = .ok (.bipush 24, 2) := by decide +kernel
theorem dX6_work_139 : decode cX6_work 139 = .ok (.invokevirtual 175, 3) := by decide +kernel
theorem dX6_work_142 : decode cX6_work 142 = .ok (.aload_n 0, 1) := by decide +kernel
theorem dX6_work_143 : decode cX6_work 143 = .ok (.bipush 24, 2) := by decide +kernel
theorem dX6_work_145 : decode cX6_work 145 = .ok (.ldc2_w 170, 3) := by decide +kernel
theorem dX6_work_148 : decode cX6_work 148 = .ok (.iload_n 1, 1) := by decide +kernel
theorem dX6_work_149 : decode cX6_work 149 = .ok (.i2l, 1) := by decide +kernel
theorem dX6_work_150 : decode cX6_work 150 = .ok (.lmul, 1) := by decide +kernel
theorem dX6_work_151 : decode cX6_work 151 = .ok (.ldc2_w 170, 3) := by decide +kernel
theorem dX6_work_154 : decode cX6_work 154 = .ok (.iload_n 1, 1) := by decide +kernel
theorem dX6_work_155 : decode cX6_work 155 = .ok (.i2l, 1) := by decide +kernel
theorem dX6_work_156 : decode cX6_work 156 = .ok (.lmul, 1) := by decide +kernel
theorem dX6_work_157 : decode cX6_work 157 = .ok (.invokevirtual 179, 3) := by decide +kernel
theorem dX6_work_160 : decode cX6_work 160 = .ok (.iconst 0, 1) := by decide +kernel
theorem dX6_work_161 : decode cX6_work 161 = .ok (.istore_n 2, 1) := by decide +kernel
theorem dX6_work_162 : decode cX6_work 162 = .ok (.iload_n 2, 1) := by decide +kernel
theorem dX6_work_163 : decode cX6_work 163 = .ok (.aload_n 0, 1) := by decide +kernel
theorem dX6_work_164 : decode cX6_work 164 = .ok (.getfield 109, 3) := by decide +kernel
theorem dX6_work_167 : decode cX6_work 167 = .ok (.if_icmp .ge 47, 3) := by decide +kernel
theorem dX6_work_170 : decode cX6_work 170 = .ok (.aload_n 0, 1) := by decide +kernel
theorem dX6_work_171 : decode cX6_work 171 = .ok (.getfield 20, 3) := by decide +kernel
theorem dX6_work_174 : decode cX6_work 174 = .ok (.iload_n 2, 1) := by decide +kernel
theorem dX6_work_175 : decode cX6_work 175 = .ok (.iaload, 1) := by decide +kernel
theorem dX6_work_176 : decode cX6_work 176 = .ok (.ifCond .ge 8, 3) := by decide +kernel
theorem dX6_work_179 : decode cX6_work 179 = .ok (.bipush 24, 2) := by decide +kernel
theorem dX6_work_181 : decode cX6_work 181 = .ok (.goto 9, 3) := by decide +kernel
theorem dX6_work_184 : decode cX6_work 184 = .ok (.aload_n 0, 1) := by decide +kernel
theorem dX6_work_185 : decode cX6_work 185 = .ok (.getfield 20, 3) := by decide +kernel
theorem dX6_work_188 : decode cX6_work 188 = .ok (.iload_n 2, 1) := by decide +kernel
theorem dX6_work_189 : decode cX6_work 189 = .ok (.iaload, 1) := by decide +kernel
theorem dX6_work_190 : decode cX6_work 190 = .ok (.istore_n 3, 1) := by decide +kernel
theorem dX6_work_191 : decode cX6_work 191 = .ok (.aload_n 0, 1) := by decide +kernel
theorem dX6_work_192 : decode cX6_work 192 = .ok (.iload_n 2, 1) := by decide +kernel
theorem dX6_work_193 : decode cX6_work 193 = .ok (.aload_n 0, 1) := by decide +kernel
theorem dX6_work_194 : decode cX6_work 194 = .ok (.getfield 70, 3) := by decide +kernel
theorem dX6_work_197 : decode cX6_work 197 = .ok (.iload_n 3, 1) := by decide +kernel
theorem dX6_work_198 : decode cX6_work 198 = .ok (.laload, 1) := by decide +kernel
theorem dX6_work_199 : decode cX6_work 199 = .ok (.aload_n 0, 1) := by decide +kernel
theorem dX6_work_200 : decode cX6_work 200 = .ok (.getfield 73, 3) := by decide +kernel
theorem dX6_work_203 : decode cX6_work 203 = .ok (.iload_n 3, 1) := by decide +kernel
theorem dX6_work_204 : decode cX6_work 204 = .ok (.laload, 1) := by decide +kernel
theorem dX6_work_205 : decode cX6_work 205 = .ok (.invokevirtual 179, 3) := by decide +kernel
theorem dX6_work_208 : decode cX6_work 208 = .ok (.iinc 2 1, 3) := by decide +kernel
theorem dX6_work_211 : decode cX6_work 211 = .ok (.goto (-49), 3) := by decide +kernel
theorem dX6_work_214 : decode cX6_work 214 = .ok (.return_, 1) := by decide +kernel
theorem dX6_workNow_0 : decode cX6_workNow 0 = .ok (.aload_n 0, 1) := by decide +kernel
theorem dX6_workNow_1 : decode cX6_workNow 1 = .ok (.invokevirtual 183, 3) := by decide +kernel
theorem dX6_workNow_4 : decode cX6_workNow 4 = .ok (.aload_n 0, 1) := by decide +kernel
theorem dX6_workNow_5 : decode cX6_workNow 5 = .ok (.aload_n 0, 1) := by decide +kernel
theorem dX6_workNow_6 : decode cX6_workNow 6 = .ok (.getfield 7, 3) := by decide +kernel
theorem dX6_workNow_9 : decode cX6_workNow 9 = .ok (.invokevirtual 186, 3) := by decide +kernel
theorem dX6_workNow_12 : decode cX6_workNow 12 = .ok (.return_, 1) := by decide +kernel
theorem dX6_flowOf_0 : decode cX6_flowOf 0 = .ok (.aload_n 0, 1) := by decide +kernel
theorem dX6_flowOf_1 : decode cX6_flowOf 1 = .ok (.getfield 54, 3) := by decide +kernel
theorem dX6_flowOf_4 : decode cX6_flowOf 4 = .ok (.iload_n 1, 1) := by decide +kernel
theorem dX6_flowOf_5 : decode cX6_flowOf 5 = .ok (.baload, 1) := by decide +kernel
theorem dX6_flowOf_6 : decode cX6_flowOf 6 = .ok (.ifCond .ne 5, 3) := by decide +kernel
theorem dX6_flowOf_9 : decode cX6_flowOf 9 = .ok (.lconst 0, 1) := by decide +kernel
theorem dX6_flowOf_10 : decode cX6_flowOf 10 = .ok (.lreturn, 1) := by decide +kernel
theorem dX6_flowOf_11 : decode cX6_flowOf 11 = .ok (.aload_n 0, 1) := by decide +kernel
theorem dX6_flowOf_12 : decode cX6_flowOf 12 = .ok (.iload_n 1, 1) := by decide +kernel
theorem dX6_flowOf_13 : decode cX6_flowOf 13 = .ok (.invokevirtual 172, 3) := by decide +kernel
theorem dX6_flowOf_16 : decode cX6_flowOf 16 = .ok (.i2l, 1) := by decide +kernel
theorem dX6_flowOf_17 : decode cX6_flowOf 17 = .ok (.lstore_n 3, 1) := by decide +kernel
theorem dX6_flowOf_18 : decode cX6_flowOf 18 = .ok (.iload_n 2, 1) := by decide +kernel
theorem dX6_flowOf_19 : decode cX6_flowOf 19 = .ok (.ifCond .ne 21, 3) := by decide +kernel
theorem dX6_flowOf_22 : decode cX6_flowOf 22 = .ok (.lload_n 3, 1) := by decide +kernel
theorem dX6_flowOf_23 : decode cX6_flowOf 23 = .ok (.aload_n 0, 1) := by decide +kernel
theorem dX6_flowOf_24 : decode cX6_flowOf 24 = .ok (.getfield 70, 3) := by decide +kernel
theorem dX6_flowOf_27 : decode cX6_flowOf 27 = .ok (.iload_n 1, 1) := by decide +kernel
theorem dX6_flowOf_28 : decode cX6_flowOf 28 = .ok (.laload, 1) := by decide +kernel
theorem dX6_flowOf_29 : decode cX6_flowOf 29 = .ok (.ldc2_w 170, 3) := by decide +kernel
theorem dX6_flowOf_32 : decode cX6_flowOf 32 = .ok (.lmul, 1) := by decide +kernel
theorem dX6_flowOf_33 : decode cX6_flowOf 33 = .ok (.invokestatic 149, 3) := by decide +kernel
theorem dX6_flowOf_36 : decode cX6_flowOf 36 = .ok (.lmul, 1) := by decide +kernel
theorem dX6_flowOf_37 : decode cX6_flowOf 37 = .ok (.goto 18, 3) := by decide +kernel
theorem dX6_flowOf_40 : decode cX6_flowOf 40 = .ok (.lload_n 3, 1) := by decide +kernel
theorem dX6_flowOf_41 : decode cX6_flowOf 41 = .ok (.aload_n 0, 1) := by decide +kernel
theorem dX6_flowOf_42 : decode cX6_flowOf 42 = .ok (.getfield 73, 3) := by decide +kernel
theorem dX6_flowOf_45 : decode cX6_flowOf 45 = .ok (.iload_n 1, 1) := by decide +kernel
theorem dX6_flowOf_46 : decode cX6_flowOf 46 = .ok (.laload, 1) := by decide +kernel
theorem dX6_flowOf_47 : decode cX6_flowOf 47 = .ok (.ldc2_w 170, 3) := by decide +kernel
theorem dX6_flowOf_50 : decode cX6_flowOf 50 = .ok (.lmul, 1) := by decide +kernel
theorem dX6_flowOf_51 : decode cX6_flowOf 51 = .ok (.invokestatic 159, 3) := by decide +kernel
theorem dX6_flowOf_54 : decode cX6_flowOf 54 = .ok (.lmul, 1) := by decide +kernel
theorem dX6_flowOf_55 : decode cX6_flowOf 55 = .ok (.lreturn, 1) := by decide +kernel
theorem dX6_conduct_0 : decode cX6_conduct 0 = .ok (.iload_n 1, 1) := by decide +kernel
theorem dX6_conduct_1 : decode cX6_conduct 1 = .ok (.iconst (-1), 1) := by decide +kernel
theorem dX6_conduct_2 : decode cX6_conduct 2 = .ok (.if_icmp .eq 15, 3) := by decide +kernel
theorem dX6_conduct_5 : decode cX6_conduct 5 = .ok (.aload_n 0, 1) := by decide +kernel
theorem dX6_conduct_6 : decode cX6_conduct 6 = .ok (.iload_n 1, 1) := by decide +kernel
theorem dX6_conduct_7 : decode cX6_conduct 7 = .ok (.invokevirtual 116, 3) := by decide +kernel
theorem dX6_conduct_10 : decode cX6_conduct 10 = .ok (.ifCond .ne 7, 3) := by decide +kernel
theorem dX6_conduct_13 : decode cX6_conduct 13 = .ok (.ldc2_w 189, 3) := by decide +kernel
theorem dX6_conduct_16 : decode cX6_conduct 16 = .ok (.lreturn, 1) := by decide +kernel
theorem dX6_conduct_17 : decode cX6_conduct 17 = .ok (.iload_n 2, 1) := by decide +kernel
theorem dX6_conduct_18 : decode cX6_conduct 18 = .ok (.i2l, 1) := by decide +kernel
theorem dX6_conduct_19 : decode cX6_conduct 19 = .ok (.lconst 0, 1) := by decide +kernel
theorem dX6_conduct_20 : decode cX6_conduct 20 = .ok (.lconst 1, 1) := by decide +kernel
theorem dX6_conduct_21 : decode cX6_conduct 21 = .ok (.invokestatic 112, 3) := by decide +kernel
theorem dX6_conduct_24 : decode cX6_conduct 24 = .ok (.ifCond .ne 7, 3) := by decide +kernel
theorem dX6_conduct_27 : decode cX6_conduct 27 = .ok (.ldc2_w 191, 3) := by decide +kernel
theorem dX6_conduct_30 : decode cX6_conduct 30 = .ok (.lreturn, 1) := by decide +kernel
theorem dX6_conduct_31 : decode cX6_conduct 31 = .ok (.aload_n 0, 1) := by decide +kernel
theorem dX6_conduct_32 : decode cX6_conduct 32 = .ok (.invokevirtual 193, 3) := by decide +kernel
theorem dX6_conduct_35 : decode cX6_conduct 35 = .ok (.iload_n 1, 1) := by decide +kernel
theorem dX6_conduct_36 : decode cX6_conduct 36 = .ok (.ifCond .ge 8, 3) := by decide +kernel
theorem dX6_conduct_39 : decode cX6_conduct 39 = .ok (.bipush 24, 2) := by decide +kernel
theorem dX6_conduct_41 : decode cX6_conduct 41 = .ok (.goto 4, 3) := by decide +kernel
theorem dX6_conduct_44 : decode cX6_conduct 44 = .ok (.iload_n 1, 1) := by decide +kernel
theorem dX6_conduct_45 : decode cX6_conduct 45 = .ok (.istore_n 3, 1) := by decide +kernel
theorem dX6_conduct_46 : decode cX6_conduct 46 = .ok (.iload_n 2, 1) := by decide +kernel
theorem dX6_conduct_47 : decode cX6_conduct 47 = .ok (.ifCond .ne 12, 3) := by decide +kernel
theorem dX6_conduct_50 : decode cX6_conduct 50 = .ok (.aload_n 0, 1) := by decide +kernel
theorem dX6_conduct_51 : decode cX6_conduct 51 = .ok (.getfield 64, 3) := by decide +kernel
theorem dX6_conduct_54 : decode cX6_conduct 54 = .ok (.iload_n 3, 1) := by decide +kernel
theorem dX6_conduct_55 : decode cX6_conduct 55 = .ok (.laload, 1) := by decide +kernel
theorem dX6_conduct_56 : decode cX6_conduct 56 = .ok (.goto 9, 3) := by decide +kernel
theorem dX6_conduct_59 : decode cX6_conduct 59 = .ok (.aload_n 0, 1) := by decide +kernel
theorem dX6_conduct_60 : decode cX6_conduct 60 = .ok (.getfield 67, 3) := by decide +kernel
theorem dX6_conduct_63 : decode cX6_conduct 63 = .ok (.iload_n 3, 1) := by decide +kernel
theorem dX6_conduct_64 : decode cX6_conduct 64 = .ok (.laload, 1) := by decide +kernel
theorem dX6_conduct_65 : decode cX6_conduct 65 = .ok (.lreturn, 1) := by decide +kernel
theorem dX6_pressure_0 : decode cX6_pressure 0 = .ok (.iload_n 1, 1) := by decide +kernel
theorem dX6_pressure_1 : decode cX6_pressure 1 = .ok (.iconst (-1), 1) := by decide +kernel
theorem dX6_pressure_2 : decode cX6_pressure 2 = .ok (.if_icmp .eq 15, 3) := by decide +kernel
theorem dX6_pressure_5 : decode cX6_pressure 5 = .ok (.aload_n 0, 1) := by decide +kernel
theorem dX6_pressure_6 : decode cX6_pressure 6 = .ok (.iload_n 1, 1) := by decide +kernel
theorem dX6_pressure_7 : decode cX6_pressure 7 = .ok (.invokevirtual 116, 3) := by decide +kernel
theorem dX6_pressure_10 : decode cX6_pressure 10 = .ok (.ifCond .ne 7, 3) := by decide +kernel
theorem dX6_pressure_13 : decode cX6_pressure 13 = .ok (.ldc2_w 189, 3) := by decide +kernel
theorem dX6_pressure_16 : decode cX6_pressure 16 = .ok (.lreturn, 1) := by decide +kernel
theorem dX6_pressure_17 : decode cX6_pressure 17 = .ok (.iload_n 2, 1) := by decide +kernel
theorem dX6_pressure_18 : decode cX6_pressure 18 = .ok (.i2l, 1) := by decide +kernel
theorem dX6_pressure_19 : decode cX6_pressure 19 = .ok (.lconst 0, 1) := by decide +kernel
theorem dX6_pressure_20 : decode cX6_pressure 20 = .ok (.lconst 1, 1) := by decide +kernel
theorem dX6_pressure_21 : decode cX6_pressure 21 = .ok (.invokestatic 112, 3) := by decide +kernel
theorem dX6_pressure_24 : decode cX6_pressure 24 = .ok (.ifCond .ne 7, 3) := by decide +kernel
theorem dX6_pressure_27 : decode cX6_pressure 27 = .ok (.ldc2_w 191, 3) := by decide +kernel
theorem dX6_pressure_30 : decode cX6_pressure 30 = .ok (.lreturn, 1) := by decide +kernel
theorem dX6_pressure_31 : decode cX6_pressure 31 = .ok (.aload_n 0, 1) := by decide +kernel
theorem dX6_pressure_32 : decode cX6_pressure 32 = .ok (.invokevirtual 193, 3) := by decide +kernel
theorem dX6_pressure_35 : decode cX6_pressure 35 = .ok (.iload_n 1, 1) := by decide +kernel
theorem dX6_pressure_36 : decode cX6_pressure 36 = .ok (.ifCond .ge 8, 3) := by decide +kernel
theorem dX6_pressure_39 : decode cX6_pressure 39 = .ok (.bipush 24, 2) := by decide +kernel
theorem dX6_pressure_41 : decode cX6_pressure 41 = .ok (.goto 4, 3) := by decide +kernel
theorem dX6_pressure_44 : decode cX6_pressure 44 = .ok (.iload_n 1, 1) := by decide +kernel
theorem dX6_pressure_45 : decode cX6_pressure 45 = .ok (.istore_n 3, 1) := by decide +kernel
theorem dX6_pressure_46 : decode cX6_pressure 46 = .ok (.iload_n 2, 1) := by decide +kernel
theorem dX6_pressure_47 : decode cX6_pressure 47 = .ok (.ifCond .ne 12, 3) := by decide +kernel
theorem dX6_pressure_50 : decode cX6_pressure 50 = .ok (.aload_n 0, 1) := by decide +kernel
theorem dX6_pressure_51 : decode cX6_pressure 51 = .ok (.getfield 70, 3) := by decide +kernel
theorem dX6_pressure_54 : decode cX6_pressure 54 = .ok (.iload_n 3, 1) := by decide +kernel
theorem dX6_pressure_55 : decode cX6_pressure 55 = .ok (.laload, 1) := by decide +kernel
theorem dX6_pressure_56 : decode cX6_pressure 56 = .ok (.goto 9, 3) := by decide +kernel
theorem dX6_pressure_59 : decode cX6_pressure 59 = .ok (.aload_n 0, 1) := by decide +kernel
theorem dX6_pressure_60 : decode cX6_pressure 60 = .ok (.getfield 73, 3) := by decide +kernel
theorem dX6_pressure_63 : decode cX6_pressure 63 = .ok (.iload_n 3, 1) := by decide +kernel
theorem dX6_pressure_64 : decode cX6_pressure 64 = .ok (.laload, 1) := by decide +kernel
theorem dX6_pressure_65 : decode cX6_pressure 65 = .ok (.lreturn, 1) := by decide +kernel
theorem dX6_flow_0 : decode cX6_flow 0 = .ok (.aload_n 0, 1) := by decide +kernel
theorem dX6_flow_1 : decode cX6_flow 1 = .ok (.iload_n 1, 1) := by decide +kernel
theorem dX6_flow_2 : decode cX6_flow 2 = .ok (.invokevirtual 140, 3) := by decide +kernel
theorem dX6_flow_5 : decode cX6_flow 5 = .ok (.ifCond .ne 7, 3) := by decide +kernel
theorem dX6_flow_8 : decode cX6_flow 8 = .ok (.ldc2_w 189, 3) := by decide +kernel
theorem dX6_flow_11 : decode cX6_flow 11 = .ok (.lreturn, 1) := by decide +kernel
theorem dX6_flow_12 : decode cX6_flow 12 = .ok (.iload_n 2, 1) := by decide +kernel
theorem dX6_flow_13 : decode cX6_flow 13 = .ok (.i2l, 1) := by decide +kernel
theorem dX6_flow_14 : decode cX6_flow 14 = .ok (.lconst 0, 1) := by decide +kernel
theorem dX6_flow_15 : decode cX6_flow 15 = .ok (.lconst 1, 1) := by decide +kernel
theorem dX6_flow_16 : decode cX6_flow 16 = .ok (.invokestatic 112, 3) := by decide +kernel
theorem dX6_flow_19 : decode cX6_flow 19 = .ok (.ifCond .ne 7, 3) := by decide +kernel
theorem dX6_flow_22 : decode cX6_flow 22 = .ok (.ldc2_w 191, 3) := by decide +kernel
theorem dX6_flow_25 : decode cX6_flow 25 = .ok (.lreturn, 1) := by decide +kernel
theorem dX6_flow_26 : decode cX6_flow 26 = .ok (.aload_n 0, 1) := by decide +kernel
theorem dX6_flow_27 : decode cX6_flow 27 = .ok (.invokevirtual 193, 3) := by decide +kernel
theorem dX6_flow_30 : decode cX6_flow 30 = .ok (.aload_n 0, 1) := by decide +kernel
theorem dX6_flow_31 : decode cX6_flow 31 = .ok (.iload_n 1, 1) := by decide +kernel
theorem dX6_flow_32 : decode cX6_flow 32 = .ok (.iload_n 2, 1) := by decide +kernel
theorem dX6_flow_33 : decode cX6_flow 33 = .ok (.invokevirtual 196, 3) := by decide +kernel
theorem dX6_flow_36 : decode cX6_flow 36 = .ok (.lreturn, 1) := by decide +kernel
theorem dX6_total_0 : decode cX6_total 0 = .ok (.iload_n 1, 1) := by decide +kernel
theorem dX6_total_1 : decode cX6_total 1 = .ok (.i2l, 1) := by decide +kernel
theorem dX6_total_2 : decode cX6_total 2 = .ok (.lconst 0, 1) := by decide +kernel
theorem dX6_total_3 : decode cX6_total 3 = .ok (.lconst 1, 1) := by decide +kernel
theorem dX6_total_4 : decode cX6_total 4 = .ok (.invokestatic 112, 3) := by decide +kernel
theorem dX6_total_7 : decode cX6_total 7 = .ok (.ifCond .ne 7, 3) := by decide +kernel
theorem dX6_total_10 : decode cX6_total 10 = .ok (.ldc2_w 191, 3) := by decide +kernel
theorem dX6_total_13 : decode cX6_total 13 = .ok (.lreturn, 1) := by decide +kernel
theorem dX6_total_14 : decode cX6_total 14 = .ok (.aload_n 0, 1) := by decide +kernel
theorem dX6_total_15 : decode cX6_total 15 = .ok (.invokevirtual 193, 3) := by decide +kernel
theorem dX6_total_18 : decode cX6_total 18 = .ok (.lconst 0, 1) := by decide +kernel
theorem dX6_total_19 : decode cX6_total 19 = .ok (.lstore_n 2, 1) := by decide +kernel
theorem dX6_total_20 : decode cX6_total 20 = .ok (.iconst 0, 1) := by decide +kernel
theorem dX6_total_21 : decode cX6_total 21 = .ok (.istore 4, 2) := by decide +kernel
theorem dX6_total_23 : decode cX6_total 23 = .ok (.iload 4, 2) := by decide +kernel
theorem dX6_total_25 : decode cX6_total 25 = .ok (.aload_n 0, 1) := by decide +kernel
theorem dX6_total_26 : decode cX6_total 26 = .ok (.getfield 109, 3) := by decide +kernel
theorem dX6_total_29 : decode cX6_total 29 = .ok (.if_icmp .ge 19, 3) := by decide +kernel
theorem dX6_total_32 : decode cX6_total 32 = .ok (.lload_n 2, 1) := by decide +kernel
theorem dX6_total_33 : decode cX6_total 33 = .ok (.aload_n 0, 1) := by decide +kernel
theorem dX6_total_34 : decode cX6_total 34 = .ok (.iload 4, 2) := by decide +kernel
theorem dX6_total_36 : decode cX6_total 36 = .ok (.iload_n 1, 1) := by decide +kernel
theorem dX6_total_37 : decode cX6_total 37 = .ok (.invokevirtual 196, 3) := by decide +kernel
theorem dX6_total_40 : decode cX6_total 40 = .ok (.ladd, 1) := by decide +kernel
theorem dX6_total_41 : decode cX6_total 41 = .ok (.lstore_n 2, 1) := by decide +kernel
theorem dX6_total_42 : decode cX6_total 42 = .ok (.iinc 4 1, 3) := by decide +kernel
theorem dX6_total_45 : decode cX6_total 45 = .ok (.goto (-22), 3) := by decide +kernel
theorem dX6_total_48 : decode cX6_total 48 = .ok (.lload_n 2, 1) := by decide +kernel
theorem dX6_total_49 : decode cX6_total 49 = .ok (.lreturn, 1) := by decide +kernel
theorem dX6_asInt_0 : decode cX6_asInt 0 = .ok (.iload_n 0, 1) := by decide +kernel
theorem dX6_asInt_1 : decode cX6_asInt 1 = .ok (.ifCond .eq 7, 3) := by decide +kernel
theorem dX6_asInt_4 : decode cX6_asInt 4 = .ok (.iconst 1, 1) := by decide +kernel
theorem dX6_asInt_5 : decode cX6_asInt 5 = .ok (.goto 4, 3) := by decide +kernel
theorem dX6_asInt_8 : decode cX6_asInt 8 = .ok (.iconst 0, 1) := by decide +kernel
theorem dX6_asInt_9 : decode cX6_asInt 9 = .ok (.ireturn, 1) := by decide +kernel
theorem dX6_about_0 : decode cX6_about 0 = .ok (.aload_n 0, 1) := by decide +kernel
theorem dX6_about_1 : decode cX6_about 1 = .ok (.iload_n 1, 1) := by decide +kernel
theorem dX6_about_2 : decode cX6_about 2 = .ok (.invokevirtual 116, 3) := by decide +kernel
theorem dX6_about_5 : decode cX6_about 5 = .ok (.ifCond .ne 5, 3) := by decide +kernel
theorem dX6_about_8 : decode cX6_about 8 = .ok (.iconst (-1), 1) := by decide +kernel
theorem dX6_about_9 : decode cX6_about 9 = .ok (.ireturn, 1) := by decide +kernel
theorem dX6_about_10 : decode cX6_about 10 = .ok (.aload_n 0, 1) := by decide +kernel
theorem dX6_about_11 : decode cX6_about 11 = .ok (.getfield 39, 3) := by decide +kernel
theorem dX6_about_14 : decode cX6_about 14 = .ok (.iload_n 1, 1) := by decide +kernel
theorem dX6_about_15 : decode cX6_about 15 = .ok (.baload, 1) := by decide +kernel
theorem dX6_about_16 : decode cX6_about 16 = .ok (.istore_n 3, 1) := by decide +kernel
theorem dX6_about_17 : decode cX6_about 17 = .ok (.iload_n 2, 1) := by decide +kernel
theorem dX6_about_18 : decode cX6_about 18 = .ok (.tableswitch 207 0 10 #[58, 65, 72, 79, 89, 94, 100, 115, 137, 152, 162], 58) := by decide +kernel
theorem dX6_about_76 : decode cX6_about 76 = .ok (.aload_n 0, 1) := by decide +kernel
theorem dX6_about_77 : decode cX6_about 77 = .ok (.getfield 20, 3) := by decide +kernel
theorem dX6_about_80 : decode cX6_about 80 = .ok (.iload_n 1, 1) := by decide +kernel
theorem dX6_about_81 : decode cX6_about 81 = .ok (.iaload, 1) := by decide +kernel
theorem dX6_about_82 : decode cX6_about 82 = .ok (.ireturn, 1) := by decide +kernel
theorem dX6_about_83 : decode cX6_about 83 = .ok (.aload_n 0, 1) := by decide +kernel
theorem dX6_about_84 : decode cX6_about 84 = .ok (.getfield 23, 3) := by decide +kernel
theorem dX6_about_87 : decode cX6_about 87 = .ok (.iload_n 1, 1) := by decide +kernel
theorem dX6_about_88 : decode cX6_about 88 = .ok (.iaload, 1) := by decide +kernel
theorem dX6_about_89 : decode cX6_about 89 = .ok (.ireturn, 1) := by decide +kernel
theorem dX6_about_90 : decode cX6_about 90 = .ok (.aload_n 0, 1) := by decide +kernel
theorem dX6_about_91 : decode cX6_about 91 = .ok (.getfield 26, 3) := by decide +kernel
theorem dX6_about_94 : decode cX6_about 94 = .ok (.iload_n 1, 1) := by decide +kernel
theorem dX6_about_95 : decode cX6_about 95 = .ok (.iaload, 1) := by decide +kernel
theorem dX6_about_96 : decode cX6_about 96 = .ok (.ireturn, 1) := by decide +kernel
theorem dX6_about_97 : decode cX6_about 97 = .ok (.aload_n 0, 1) := by decide +kernel
theorem dX6_about_98 : decode cX6_about 98 = .ok (.getfield 32, 3) := by decide +kernel
theorem dX6_about_101 : decode cX6_about 101 = .ok (.iload_n 1, 1) := by decide +kernel
theorem dX6_about_102 : decode cX6_about 102 = .ok (.baload, 1) := by decide +kernel
theorem dX6_about_103 : decode cX6_about 103 = .ok (.invokestatic 200, 3) := by decide +kernel
theorem dX6_about_106 : decode cX6_about 106 = .ok (.ireturn, 1) := by decide +kernel
theorem dX6_about_107 : decode cX6_about 107 = .ok (.iload_n 3, 1) := by decide +kernel
theorem dX6_about_108 : decode cX6_about 108 = .ok (.invokestatic 200, 3) := by decide +kernel
theorem dX6_about_111 : decode cX6_about 111 = .ok (.ireturn, 1) := by decide +kernel
theorem dX6_about_112 : decode cX6_about 112 = .ok (.aload_n 0, 1) := by decide +kernel
theorem dX6_about_113 : decode cX6_about 113 = .ok (.iload_n 1, 1) := by decide +kernel
theorem dX6_about_114 : decode cX6_about 114 = .ok (.invokevirtual 172, 3) := by decide +kernel
theorem dX6_about_117 : decode cX6_about 117 = .ok (.ireturn, 1) := by decide +kernel
theorem dX6_about_118 : decode cX6_about 118 = .ok (.iload_n 3, 1) := by decide +kernel
theorem dX6_about_119 : decode cX6_about 119 = .ok (.ifCond .eq 12, 3) := by decide +kernel
theorem dX6_about_122 : decode cX6_about 122 = .ok (.aload_n 0, 1) := by decide +kernel
theorem dX6_about_123 : decode cX6_about 123 = .ok (.getfield 45, 3) := by decide +kernel
theorem dX6_about_126 : decode cX6_about 126 = .ok (.iload_n 1, 1) := by decide +kernel
theorem dX6_about_127 : decode cX6_about 127 = .ok (.iaload, 1) := by decide +kernel
theorem dX6_about_128 : decode cX6_about 128 = .ok (.goto 4, 3) := by decide +kernel
theorem dX6_about_131 : decode cX6_about 131 = .ok (.iconst 0, 1) := by decide +kernel
theorem dX6_about_132 : decode cX6_about 132 = .ok (.ireturn, 1) := by decide +kernel
theorem dX6_about_133 : decode cX6_about 133 = .ok (.iload_n 3, 1) := by decide +kernel
theorem dX6_about_134 : decode cX6_about 134 = .ok (.ifCond .eq 16, 3) := by decide +kernel
theorem dX6_about_137 : decode cX6_about 137 = .ok (.aload_n 0, 1) := by decide +kernel
theorem dX6_about_138 : decode cX6_about 138 = .ok (.getfield 48, 3) := by decide +kernel
theorem dX6_about_141 : decode cX6_about 141 = .ok (.iload_n 1, 1) := by decide +kernel
theorem dX6_about_142 : decode cX6_about 142 = .ok (.baload, 1) := by decide +kernel
theorem dX6_about_143 : decode cX6_about 143 = .ok (.ifCond .eq 7, 3) := by decide +kernel
theorem dX6_about_146 : decode cX6_about 146 = .ok (.iconst 1, 1) := by decide +kernel
theorem dX6_about_147 : decode cX6_about 147 = .ok (.goto 4, 3) := by decide +kernel
theorem dX6_about_150 : decode cX6_about 150 = .ok (.iconst 0, 1) := by decide +kernel
theorem dX6_about_151 : decode cX6_about 151 = .ok (.invokestatic 200, 3) := by decide +kernel
theorem dX6_about_154 : decode cX6_about 154 = .ok (.ireturn, 1) := by decide +kernel
theorem dX6_about_155 : decode cX6_about 155 = .ok (.iload_n 3, 1) := by decide +kernel
theorem dX6_about_156 : decode cX6_about 156 = .ok (.ifCond .eq 12, 3) := by decide +kernel
theorem dX6_about_159 : decode cX6_about 159 = .ok (.aload_n 0, 1) := by decide +kernel
theorem dX6_about_160 : decode cX6_about 160 = .ok (.getfield 51, 3) := by decide +kernel
theorem dX6_about_163 : decode cX6_about 163 = .ok (.iload_n 1, 1) := by decide +kernel
theorem dX6_about_164 : decode cX6_about 164 = .ok (.iaload, 1) := by decide +kernel
theorem dX6_about_165 : decode cX6_about 165 = .ok (.goto 4, 3) := by decide +kernel
theorem dX6_about_168 : decode cX6_about 168 = .ok (.iconst 0, 1) := by decide +kernel
theorem dX6_about_169 : decode cX6_about 169 = .ok (.ireturn, 1) := by decide +kernel
theorem dX6_about_170 : decode cX6_about 170 = .ok (.aload_n 0, 1) := by decide +kernel
theorem dX6_about_171 : decode cX6_about 171 = .ok (.getfield 36, 3) := by decide +kernel
theorem dX6_about_174 : decode cX6_about 174 = .ok (.iload_n 1, 1) := by decide +kernel
theorem dX6_about_175 : decode cX6_about 175 = .ok (.baload, 1) := by decide +kernel
theorem dX6_about_176 : decode cX6_about 176 = .ok (.invokestatic 200, 3) := by decide +kernel
theorem dX6_about_179 : decode cX6_about 179 = .ok (.ireturn, 1) := by decide +kernel
theorem dX6_about_180 : decode cX6_about 180 = .ok (.iconst 0, 1) := by decide +kernel
theorem dX6_about_181 : decode cX6_about 181 = .ok (.istore 4, 2) := by decide +kernel
theorem dX6_about_183 : decode cX6_about 183 = .ok (.iconst 0, 1) := by decide +kernel
theorem dX6_about_184 : decode cX6_about 184 = .ok (.istore 5, 2) := by decide +kernel
theorem dX6_about_186 : decode cX6_about 186 = .ok (.iload 5, 2) := by decide +kernel
theorem dX6_about_188 : decode cX6_about 188 = .ok (.aload_n 0, 1) := by decide +kernel
theorem dX6_about_189 : decode cX6_about 189 = .ok (.getfield 109, 3) := by decide +kernel
theorem dX6_about_192 : decode cX6_about 192 = .ok (.if_icmp .ge 30, 3) := by decide +kernel
theorem dX6_about_195 : decode cX6_about 195 = .ok (.iload 4, 2) := by decide +kernel
theorem dX6_about_197 : decode cX6_about 197 = .ok (.aload_n 0, 1) := by decide +kernel
theorem dX6_about_198 : decode cX6_about 198 = .ok (.getfield 20, 3) := by decide +kernel
theorem dX6_about_201 : decode cX6_about 201 = .ok (.iload 5, 2) := by decide +kernel
theorem dX6_about_203 : decode cX6_about 203 = .ok (.iaload, 1) := by decide +kernel
theorem dX6_about_204 : decode cX6_about 204 = .ok (.iload_n 1, 1) := by decide +kernel
theorem dX6_about_205 : decode cX6_about 205 = .ok (.if_icmp .ne 7, 3) := by decide +kernel
theorem dX6_about_208 : decode cX6_about 208 = .ok (.iconst 1, 1) := by decide +kernel
theorem dX6_about_209 : decode cX6_about 209 = .ok (.goto 4, 3) := by decide +kernel
theorem dX6_about_212 : decode cX6_about 212 = .ok (.iconst 0, 1) := by decide +kernel
theorem dX6_about_213 : decode cX6_about 213 = .ok (.iadd, 1) := by decide +kernel
theorem dX6_about_214 : decode cX6_about 214 = .ok (.istore 4, 2) := by decide +kernel
theorem dX6_about_216 : decode cX6_about 216 = .ok (.iinc 5 1, 3) := by decide +kernel
theorem dX6_about_219 : decode cX6_about 219 = .ok (.goto (-33), 3) := by decide +kernel
theorem dX6_about_222 : decode cX6_about 222 = .ok (.iload 4, 2) := by decide +kernel
theorem dX6_about_224 : decode cX6_about 224 = .ok (.ireturn, 1) := by decide +kernel
theorem dX6_about_225 : decode cX6_about 225 = .ok (.bipush (-2), 2) := by decide +kernel
theorem dX6_about_227 : decode cX6_about 227 = .ok (.ireturn, 1) := by decide +kernel
theorem dX6_spare_0 : decode cX6_spare 0 = .ok (.aload_n 0, 1) := by decide +kernel
theorem dX6_spare_1 : decode cX6_spare 1 = .ok (.iload_n 1, 1) := by decide +kernel
theorem dX6_spare_2 : decode cX6_spare 2 = .ok (.iconst 0, 1) := by decide +kernel
theorem dX6_spare_3 : decode cX6_spare 3 = .ok (.invokevirtual 196, 3) := by decide +kernel
theorem dX6_spare_6 : decode cX6_spare 6 = .ok (.ldc2_w 170, 3) := by decide +kernel
theorem dX6_spare_9 : decode cX6_spare 9 = .ok (.aload_n 0, 1) := by decide +kernel
theorem dX6_spare_10 : decode cX6_spare 10 = .ok (.getfield 45, 3) := by decide +kernel
theorem dX6_spare_13 : decode cX6_spare 13 = .ok (.iload_n 1, 1) := by decide +kernel
theorem dX6_spare_14 : decode cX6_spare 14 = .ok (.iaload, 1) := by decide +kernel
theorem dX6_spare_15 : decode cX6_spare 15 = .ok (.i2l, 1) := by decide +kernel
theorem dX6_spare_16 : decode cX6_spare 16 = .ok (.lmul, 1) := by decide +kernel
theorem dX6_spare_17 : decode cX6_spare 17 = .ok (.lsub, 1) := by decide +kernel
theorem dX6_spare_18 : decode cX6_spare 18 = .ok (.lreturn, 1) := by decide +kernel
theorem dX6_worst_0 : decode cX6_worst 0 = .ok (.aload_n 0, 1) := by decide +kernel
theorem dX6_worst_1 : decode cX6_worst 1 = .ok (.invokevirtual 193, 3) := by decide +kernel
theorem dX6_worst_4 : decode cX6_worst 4 = .ok (.bipush (-6), 2) := by decide +kernel
theorem dX6_worst_6 : decode cX6_worst 6 = .ok (.istore_n 1, 1) := by decide +kernel
theorem dX6_worst_7 : decode cX6_worst 7 = .ok (.iconst 0, 1) := by decide +kernel
theorem dX6_worst_8 : decode cX6_worst 8 = .ok (.istore_n 2, 1) := by decide +kernel
theorem dX6_worst_9 : decode cX6_worst 9 = .ok (.iload_n 2, 1) := by decide +kernel
theorem dX6_worst_10 : decode cX6_worst 10 = .ok (.aload_n 0, 1) := by decide +kernel
theorem dX6_worst_11 : decode cX6_worst 11 = .ok (.getfield 109, 3) := by decide +kernel
theorem dX6_worst_14 : decode cX6_worst 14 = .ok (.if_icmp .ge 38, 3) := by decide +kernel
theorem dX6_worst_17 : decode cX6_worst 17 = .ok (.aload_n 0, 1) := by decide +kernel
theorem dX6_worst_18 : decode cX6_worst 18 = .ok (.getfield 54, 3) := by decide +kernel
theorem dX6_worst_21 : decode cX6_worst 21 = .ok (.iload_n 2, 1) := by decide +kernel
theorem dX6_worst_22 : decode cX6_worst 22 = .ok (.baload, 1) := by decide +kernel
theorem dX6_worst_23 : decode cX6_worst 23 = .ok (.ifCond .eq 23, 3) := by decide +kernel
theorem dX6_worst_26 : decode cX6_worst 26 = .ok (.iload_n 1, 1) := by decide +kernel
theorem dX6_worst_27 : decode cX6_worst 27 = .ok (.ifCond .lt 17, 3) := by decide +kernel
theorem dX6_worst_30 : decode cX6_worst 30 = .ok (.aload_n 0, 1) := by decide +kernel
theorem dX6_worst_31 : decode cX6_worst 31 = .ok (.iload_n 2, 1) := by decide +kernel
theorem dX6_worst_32 : decode cX6_worst 32 = .ok (.invokevirtual 204, 3) := by decide +kernel
theorem dX6_worst_35 : decode cX6_worst 35 = .ok (.aload_n 0, 1) := by decide +kernel
theorem dX6_worst_36 : decode cX6_worst 36 = .ok (.iload_n 1, 1) := by decide +kernel
theorem dX6_worst_37 : decode cX6_worst 37 = .ok (.invokevirtual 204, 3) := by decide +kernel
theorem dX6_worst_40 : decode cX6_worst 40 = .ok (.lcmp, 1) := by decide +kernel
theorem dX6_worst_41 : decode cX6_worst 41 = .ok (.ifCond .ge 5, 3) := by decide +kernel
theorem dX6_worst_44 : decode cX6_worst 44 = .ok (.iload_n 2, 1) := by decide +kernel
theorem dX6_worst_45 : decode cX6_worst 45 = .ok (.istore_n 1, 1) := by decide +kernel
theorem dX6_worst_46 : decode cX6_worst 46 = .ok (.iinc 2 1, 3) := by decide +kernel
theorem dX6_worst_49 : decode cX6_worst 49 = .ok (.goto (-40), 3) := by decide +kernel
theorem dX6_worst_52 : decode cX6_worst 52 = .ok (.iload_n 1, 1) := by decide +kernel
theorem dX6_worst_53 : decode cX6_worst 53 = .ok (.ireturn, 1) := by decide +kernel
theorem dX6_heap_0 : decode cX6_heap 0 = .ok (.aload_n 0, 1) := by decide +kernel
theorem dX6_heap_1 : decode cX6_heap 1 = .ok (.getfield 208, 3) := by decide +kernel
theorem dX6_heap_4 : decode cX6_heap 4 = .ok (.bipush 6, 2) := by decide +kernel
theorem dX6_heap_6 : decode cX6_heap 6 = .ok (.if_icmp .ne 6, 3) := by decide +kernel
theorem dX6_heap_9 : decode cX6_heap 9 = .ok (.bipush (-4), 2) := by decide +kernel
theorem dX6_heap_11 : decode cX6_heap 11 = .ok (.ireturn, 1) := by decide +kernel
theorem dX6_heap_12 : decode cX6_heap 12 = .ok (.aload_n 0, 1) := by decide +kernel
theorem dX6_heap_13 : decode cX6_heap 13 = .ok (.dup, 1) := by decide +kernel
theorem dX6_heap_14 : decode cX6_heap 14 = .ok (.getfield 208, 3) := by decide +kernel
theorem dX6_heap_17 : decode cX6_heap 17 = .ok (.iconst 1, 1) := by decide +kernel
theorem dX6_heap_18 : decode cX6_heap 18 = .ok (.iadd, 1) := by decide +kernel
theorem dX6_heap_19 : decode cX6_heap 19 = .ok (.putfield 208, 3) := by decide +kernel
theorem dX6_heap_22 : decode cX6_heap 22 = .ok (.aload_n 0, 1) := by decide +kernel
theorem dX6_heap_23 : decode cX6_heap 23 = .ok (.getfield 208, 3) := by decide +kernel
theorem dX6_heap_26 : decode cX6_heap 26 = .ok (.iconst 1, 1) := by decide +kernel
theorem dX6_heap_27 : decode cX6_heap 27 = .ok (.isub, 1) := by decide +kernel
theorem dX6_heap_28 : decode cX6_heap 28 = .ok (.ireturn, 1) := by decide +kernel
theorem dX6_isHeap_0 : decode cX6_isHeap 0 = .ok (.iload_n 1, 1) := by decide +kernel
theorem dX6_isHeap_1 : decode cX6_isHeap 1 = .ok (.i2l, 1) := by decide +kernel
theorem dX6_isHeap_2 : decode cX6_isHeap 2 = .ok (.lconst 0, 1) := by decide +kernel
theorem dX6_isHeap_3 : decode cX6_isHeap 3 = .ok (.aload_n 0, 1) := by decide +kernel
theorem dX6_isHeap_4 : decode cX6_isHeap 4 = .ok (.getfield 208, 3) := by decide +kernel
theorem dX6_isHeap_7 : decode cX6_isHeap 7 = .ok (.iconst 1, 1) := by decide +kernel
theorem dX6_isHeap_8 : decode cX6_isHeap 8 = .ok (.isub, 1) := by decide +kernel
theorem dX6_isHeap_9 : decode cX6_isHeap 9 = .ok (.i2l, 1) := by decide +kernel
theorem dX6_isHeap_10 : decode cX6_isHeap 10 = .ok (.invokestatic 112, 3) := by decide +kernel
theorem dX6_isHeap_13 : decode cX6_isHeap 13 = .ok (.ireturn, 1) := by decide +kernel
theorem dX6_put_0 : decode cX6_put 0 = .ok (.aload_n 0, 1) := by decide +kernel
theorem dX6_put_1 : decode cX6_put 1 = .ok (.iload_n 1, 1) := by decide +kernel
theorem dX6_put_2 : decode cX6_put 2 = .ok (.invokevirtual 211, 3) := by decide +kernel
theorem dX6_put_5 : decode cX6_put 5 = .ok (.ifCond .eq 11, 3) := by decide +kernel
theorem dX6_put_8 : decode cX6_put 8 = .ok (.aload_n 0, 1) := by decide +kernel
theorem dX6_put_9 : decode cX6_put 9 = .ok (.iload_n 2, 1) := by decide +kernel
theorem dX6_put_10 : decode cX6_put 10 = .ok (.invokevirtual 140, 3) := by decide +kernel
theorem dX6_put_13 : decode cX6_put 13 = .ok (.ifCond .ne 5, 3) := by decide +kernel
theorem dX6_put_16 : decode cX6_put 16 = .ok (.iconst (-1), 1) := by decide +kernel
theorem dX6_put_17 : decode cX6_put 17 = .ok (.ireturn, 1) := by decide +kernel
theorem dX6_put_18 : decode cX6_put 18 = .ok (.aload_n 0, 1) := by decide +kernel
theorem dX6_put_19 : decode cX6_put 19 = .ok (.getfield 76, 3) := by decide +kernel
theorem dX6_put_22 : decode cX6_put 22 = .ok (.bipush 24, 2) := by decide +kernel
theorem dX6_put_24 : decode cX6_put 24 = .ok (.iload_n 1, 1) := by decide +kernel
theorem dX6_put_25 : decode cX6_put 25 = .ok (.imul, 1) := by decide +kernel
theorem dX6_put_26 : decode cX6_put 26 = .ok (.iload_n 2, 1) := by decide +kernel
theorem dX6_put_27 : decode cX6_put 27 = .ok (.iadd, 1) := by decide +kernel
theorem dX6_put_28 : decode cX6_put 28 = .ok (.iload_n 3, 1) := by decide +kernel
theorem dX6_put_29 : decode cX6_put 29 = .ok (.bastore, 1) := by decide +kernel
theorem dX6_put_30 : decode cX6_put 30 = .ok (.iconst 0, 1) := by decide +kernel
theorem dX6_put_31 : decode cX6_put 31 = .ok (.istore 4, 2) := by decide +kernel
theorem dX6_put_33 : decode cX6_put 33 = .ok (.iconst 0, 1) := by decide +kernel
theorem dX6_put_34 : decode cX6_put 34 = .ok (.istore 5, 2) := by decide +kernel
theorem dX6_put_36 : decode cX6_put 36 = .ok (.iload 5, 2) := by decide +kernel
theorem dX6_put_38 : decode cX6_put 38 = .ok (.aload_n 0, 1) := by decide +kernel
theorem dX6_put_39 : decode cX6_put 39 = .ok (.getfield 109, 3) := by decide +kernel
theorem dX6_put_42 : decode cX6_put 42 = .ok (.if_icmp .ge 34, 3) := by decide +kernel
theorem dX6_put_45 : decode cX6_put 45 = .ok (.iload 4, 2) := by decide +kernel
theorem dX6_put_47 : decode cX6_put 47 = .ok (.aload_n 0, 1) := by decide +kernel
theorem dX6_put_48 : decode cX6_put 48 = .ok (.getfield 76, 3) := by decide +kernel
theorem dX6_put_51 : decode cX6_put 51 = .ok (.bipush 24, 2) := by decide +kernel
theorem dX6_put_53 : decode cX6_put 53 = .ok (.iload_n 1, 1) := by decide +kernel
theorem dX6_put_54 : decode cX6_put 54 = .ok (.imul, 1) := by decide +kernel
theorem dX6_put_55 : decode cX6_put 55 = .ok (.iload 5, 2) := by decide +kernel
theorem dX6_put_57 : decode cX6_put 57 = .ok (.iadd, 1) := by decide +kernel
theorem dX6_put_58 : decode cX6_put 58 = .ok (.baload, 1) := by decide +kernel
theorem dX6_put_59 : decode cX6_put 59 = .ok (.ifCond .eq 7, 3) := by decide +kernel
theorem dX6_put_62 : decode cX6_put 62 = .ok (.iconst 1, 1) := by decide +kernel
theorem dX6_put_63 : decode cX6_put 63 = .ok (.goto 4, 3) := by decide +kernel
theorem dX6_put_66 : decode cX6_put 66 = .ok (.iconst 0, 1) := by decide +kernel
theorem dX6_put_67 : decode cX6_put 67 = .ok (.iadd, 1) := by decide +kernel
theorem dX6_put_68 : decode cX6_put 68 = .ok (.istore 4, 2) := by decide +kernel
theorem dX6_put_70 : decode cX6_put 70 = .ok (.iinc 5 1, 3) := by decide +kernel
theorem dX6_put_73 : decode cX6_put 73 = .ok (.goto (-37), 3) := by decide +kernel
theorem dX6_put_76 : decode cX6_put 76 = .ok (.iload 4, 2) := by decide +kernel
theorem dX6_put_78 : decode cX6_put 78 = .ok (.ireturn, 1) := by decide +kernel
theorem dX6_leastOf_0 : decode cX6_leastOf 0 = .ok (.iconst 0, 1) := by decide +kernel
theorem dX6_leastOf_1 : decode cX6_leastOf 1 = .ok (.istore_n 3, 1) := by decide +kernel
theorem dX6_leastOf_2 : decode cX6_leastOf 2 = .ok (.iload_n 3, 1) := by decide +kernel
theorem dX6_leastOf_3 : decode cX6_leastOf 3 = .ok (.aload_n 0, 1) := by decide +kernel
theorem dX6_leastOf_4 : decode cX6_leastOf 4 = .ok (.getfield 109, 3) := by decide +kernel
theorem dX6_leastOf_7 : decode cX6_leastOf 7 = .ok (.if_icmp .ge 43, 3) := by decide +kernel
theorem dX6_leastOf_10 : decode cX6_leastOf 10 = .ok (.aload_n 0, 1) := by decide +kernel
theorem dX6_leastOf_11 : decode cX6_leastOf 11 = .ok (.getfield 54, 3) := by decide +kernel
theorem dX6_leastOf_14 : decode cX6_leastOf 14 = .ok (.iload_n 3, 1) := by decide +kernel
theorem dX6_leastOf_15 : decode cX6_leastOf 15 = .ok (.aload_n 0, 1) := by decide +kernel
theorem dX6_leastOf_16 : decode cX6_leastOf 16 = .ok (.getfield 39, 3) := by decide +kernel
theorem dX6_leastOf_19 : decode cX6_leastOf 19 = .ok (.iload_n 3, 1) := by decide +kernel
theorem dX6_leastOf_20 : decode cX6_leastOf 20 = .ok (.baload, 1) := by decide +kernel
theorem dX6_leastOf_21 : decode cX6_leastOf 21 = .ok (.ifCond .eq 21, 3) := by decide +kernel
theorem dX6_leastOf_24 : decode cX6_leastOf 24 = .ok (.aload_n 0, 1) := by decide +kernel
theorem dX6_leastOf_25 : decode cX6_leastOf 25 = .ok (.getfield 76, 3) := by decide +kernel
theorem dX6_leastOf_28 : decode cX6_leastOf 28 = .ok (.bipush 24, 2) := by decide +kernel
theorem dX6_leastOf_30 : decode cX6_leastOf 30 = .ok (.iload_n 1, 1) := by decide +kernel
theorem dX6_leastOf_31 : decode cX6_leastOf 31 = .ok (.imul, 1) := by decide +kernel
theorem dX6_leastOf_32 : decode cX6_leastOf 32 = .ok (.iload_n 3, 1) := by decide +kernel
theorem dX6_leastOf_33 : decode cX6_leastOf 33 = .ok (.iadd, 1) := by decide +kernel
theorem dX6_leastOf_34 : decode cX6_leastOf 34 = .ok (.baload, 1) := by decide +kernel
theorem dX6_leastOf_35 : decode cX6_leastOf 35 = .ok (.ifCond .eq 7, 3) := by decide +kernel
theorem dX6_leastOf_38 : decode cX6_leastOf 38 = .ok (.iconst 1, 1) := by decide +kernel
theorem dX6_leastOf_39 : decode cX6_leastOf 39 = .ok (.goto 4, 3) := by decide +kernel
theorem dX6_leastOf_42 : decode cX6_leastOf 42 = .ok (.iconst 0, 1) := by decide +kernel
theorem dX6_leastOf_43 : decode cX6_leastOf 43 = .ok (.bastore, 1) := by decide +kernel
theorem dX6_leastOf_44 : decode cX6_leastOf 44 = .ok (.iinc 3 1, 3) := by decide +kernel
theorem dX6_leastOf_47 : decode cX6_leastOf 47 = .ok (.goto (-45), 3) := by decide +kernel
theorem dX6_leastOf_50 : decode cX6_leastOf 50 = .ok (.aload_n 0, 1) := by decide +kernel
theorem dX6_leastOf_51 : decode cX6_leastOf 51 = .ok (.iload_n 2, 1) := by decide +kernel
theorem dX6_leastOf_52 : decode cX6_leastOf 52 = .ok (.invokevirtual 186, 3) := by decide +kernel
theorem dX6_leastOf_55 : decode cX6_leastOf 55 = .ok (.iconst 0, 1) := by decide +kernel
theorem dX6_leastOf_56 : decode cX6_leastOf 56 = .ok (.istore_n 3, 1) := by decide +kernel
theorem dX6_leastOf_57 : decode cX6_leastOf 57 = .ok (.lconst 0, 1) := by decide +kernel
theorem dX6_leastOf_58 : decode cX6_leastOf 58 = .ok (.lstore 4, 2) := by decide +kernel
theorem dX6_leastOf_60 : decode cX6_leastOf 60 = .ok (.iconst 0, 1) := by decide +kernel
theorem dX6_leastOf_61 : decode cX6_leastOf 61 = .ok (.istore 6, 2) := by decide +kernel
theorem dX6_leastOf_63 : decode cX6_leastOf 63 = .ok (.iload 6, 2) := by decide +kernel
theorem dX6_leastOf_65 : decode cX6_leastOf 65 = .ok (.aload_n 0, 1) := by decide +kernel
theorem dX6_leastOf_66 : decode cX6_leastOf 66 = .ok (.getfield 109, 3) := by decide +kernel
theorem dX6_leastOf_69 : decode cX6_leastOf 69 = .ok (.if_icmp .ge 50, 3) := by decide +kernel
theorem dX6_leastOf_72 : decode cX6_leastOf 72 = .ok (.aload_n 0, 1) := by decide +kernel
theorem dX6_leastOf_73 : decode cX6_leastOf 73 = .ok (.getfield 54, 3) := by decide +kernel
theorem dX6_leastOf_76 : decode cX6_leastOf 76 = .ok (.iload 6, 2) := by decide +kernel
theorem dX6_leastOf_78 : decode cX6_leastOf 78 = .ok (.baload, 1) := by decide +kernel
theorem dX6_leastOf_79 : decode cX6_leastOf 79 = .ok (.ifCond .eq 34, 3) := by decide +kernel
theorem dX6_leastOf_82 : decode cX6_leastOf 82 = .ok (.aload_n 0, 1) := by decide +kernel
theorem dX6_leastOf_83 : decode cX6_leastOf 83 = .ok (.iload 6, 2) := by decide +kernel
theorem dX6_leastOf_85 : decode cX6_leastOf 85 = .ok (.invokevirtual 204, 3) := by decide +kernel
theorem dX6_leastOf_88 : decode cX6_leastOf 88 = .ok (.lstore 7, 2) := by decide +kernel
theorem dX6_leastOf_90 : decode cX6_leastOf 90 = .ok (.iload_n 3, 1) := by decide +kernel
theorem dX6_leastOf_91 : decode cX6_leastOf 91 = .ok (.ifCond .eq 11, 3) := by decide +kernel
theorem dX6_leastOf_94 : decode cX6_leastOf 94 = .ok (.lload 7, 2) := by decide +kernel
theorem dX6_leastOf_96 : decode cX6_leastOf 96 = .ok (.lload 4, 2) := by decide +kernel
theorem dX6_leastOf_98 : decode cX6_leastOf 98 = .ok (.lcmp, 1) := by decide +kernel
theorem dX6_leastOf_99 : decode cX6_leastOf 99 = .ok (.ifCond .ge 8, 3) := by decide +kernel
theorem dX6_leastOf_102 : decode cX6_leastOf 102 = .ok (.lload 7, 2) := by decide +kernel
theorem dX6_leastOf_104 : decode cX6_leastOf 104 = .ok (.goto 5, 3) := by decide +kernel
theorem dX6_leastOf_107 : decode cX6_leastOf 107 = .ok (.lload 4, 2) := by decide +kernel
theorem dX6_leastOf_109 : decode cX6_leastOf 109 = .ok (.lstore 4, 2) := by decide +kernel
theorem dX6_leastOf_111 : decode cX6_leastOf 111 = .ok (.iconst 1, 1) := by decide +kernel
theorem dX6_leastOf_112 : decode cX6_leastOf 112 = .ok (.istore_n 3, 1) := by decide +kernel
theorem dX6_leastOf_113 : decode cX6_leastOf 113 = .ok (.iinc 6 1, 3) := by decide +kernel
theorem dX6_leastOf_116 : decode cX6_leastOf 116 = .ok (.goto (-53), 3) := by decide +kernel
theorem dX6_leastOf_119 : decode cX6_leastOf 119 = .ok (.lload 4, 2) := by decide +kernel
theorem dX6_leastOf_121 : decode cX6_leastOf 121 = .ok (.lreturn, 1) := by decide +kernel
theorem dX6_least_0 : decode cX6_least 0 = .ok (.aload_n 0, 1) := by decide +kernel
theorem dX6_least_1 : decode cX6_least 1 = .ok (.iload_n 1, 1) := by decide +kernel
theorem dX6_least_2 : decode cX6_least 2 = .ok (.invokevirtual 211, 3) := by decide +kernel
theorem dX6_least_5 : decode cX6_least 5 = .ok (.ifCond .eq 15, 3) := by decide +kernel
theorem dX6_least_8 : decode cX6_least 8 = .ok (.aload_n 0, 1) := by decide +kernel
theorem dX6_least_9 : decode cX6_least 9 = .ok (.iload_n 1, 1) := by decide +kernel
theorem dX6_least_10 : decode cX6_least 10 = .ok (.aload_n 0, 1) := by decide +kernel
theorem dX6_least_11 : decode cX6_least 11 = .ok (.getfield 7, 3) := by decide +kernel
theorem dX6_least_14 : decode cX6_least 14 = .ok (.invokevirtual 214, 3) := by decide +kernel
theorem dX6_least_17 : decode cX6_least 17 = .ok (.goto 6, 3) := by decide +kernel
theorem dX6_least_20 : decode cX6_least 20 = .ok (.ldc2_w 217, 3) := by decide +kernel
theorem dX6_least_23 : decode cX6_least 23 = .ok (.lreturn, 1) := by decide +kernel
theorem dX6_thinnest_0 : decode cX6_thinnest 0 = .ok (.bipush (-6), 2) := by decide +kernel
theorem dX6_thinnest_2 : decode cX6_thinnest 2 = .ok (.istore_n 1, 1) := by decide +kernel
theorem dX6_thinnest_3 : decode cX6_thinnest 3 = .ok (.lconst 0, 1) := by decide +kernel
theorem dX6_thinnest_4 : decode cX6_thinnest 4 = .ok (.lstore_n 2, 1) := by decide +kernel
theorem dX6_thinnest_5 : decode cX6_thinnest 5 = .ok (.iconst 0, 1) := by decide +kernel
theorem dX6_thinnest_6 : decode cX6_thinnest 6 = .ok (.istore 4, 2) := by decide +kernel
theorem dX6_thinnest_8 : decode cX6_thinnest 8 = .ok (.iload 4, 2) := by decide +kernel
theorem dX6_thinnest_10 : decode cX6_thinnest 10 = .ok (.aload_n 0, 1) := by decide +kernel
theorem dX6_thinnest_11 : decode cX6_thinnest 11 = .ok (.getfield 208, 3) := by decide +kernel
theorem dX6_thinnest_14 : decode cX6_thinnest 14 = .ok (.if_icmp .ge 38, 3) := by decide +kernel
theorem dX6_thinnest_17 : decode cX6_thinnest 17 = .ok (.aload_n 0, 1) := by decide +kernel
theorem dX6_thinnest_18 : decode cX6_thinnest 18 = .ok (.iload 4, 2) := by decide +kernel
theorem dX6_thinnest_20 : decode cX6_thinnest 20 = .ok (.aload_n 0, 1) := by decide +kernel
theorem dX6_thinnest_21 : decode cX6_thinnest 21 = .ok (.getfield 7, 3) := by decide +kernel
theorem dX6_thinnest_24 : decode cX6_thinnest 24 = .ok (.invokevirtual 214, 3) := by decide +kernel
theorem dX6_thinnest_27 : decode cX6_thinnest 27 = .ok (.lstore 5, 2) := by decide +kernel
theorem dX6_thinnest_29 : decode cX6_thinnest 29 = .ok (.iload_n 1, 1) := by decide +kernel
theorem dX6_thinnest_30 : decode cX6_thinnest 30 = .ok (.ifCond .lt 10, 3) := by decide +kernel
theorem dX6_thinnest_33 : decode cX6_thinnest 33 = .ok (.lload 5, 2) := by decide +kernel
theorem dX6_thinnest_35 : decode cX6_thinnest 35 = .ok (.lload_n 2, 1) := by decide +kernel
theorem dX6_thinnest_36 : decode cX6_thinnest 36 = .ok (.lcmp, 1) := by decide +kernel
theorem dX6_thinnest_37 : decode cX6_thinnest 37 = .ok (.ifCond .ge 9, 3) := by decide +kernel
theorem dX6_thinnest_40 : decode cX6_thinnest 40 = .ok (.iload 4, 2) := by decide +kernel
theorem dX6_thinnest_42 : decode cX6_thinnest 42 = .ok (.istore_n 1, 1) := by decide +kernel
theorem dX6_thinnest_43 : decode cX6_thinnest 43 = .ok (.lload 5, 2) := by decide +kernel
theorem dX6_thinnest_45 : decode cX6_thinnest 45 = .ok (.lstore_n 2, 1) := by decide +kernel
theorem dX6_thinnest_46 : decode cX6_thinnest 46 = .ok (.iinc 4 1, 3) := by decide +kernel
theorem dX6_thinnest_49 : decode cX6_thinnest 49 = .ok (.goto (-41), 3) := by decide +kernel
theorem dX6_thinnest_52 : decode cX6_thinnest 52 = .ok (.iload_n 1, 1) := by decide +kernel
theorem dX6_thinnest_53 : decode cX6_thinnest 53 = .ok (.ireturn, 1) := by decide +kernel
theorem dX6_freeMany_0 : decode cX6_freeMany 0 = .ok (.iconst 0, 1) := by decide +kernel
theorem dX6_freeMany_1 : decode cX6_freeMany 1 = .ok (.istore_n 1, 1) := by decide +kernel
theorem dX6_freeMany_2 : decode cX6_freeMany 2 = .ok (.iconst 0, 1) := by decide +kernel
theorem dX6_freeMany_3 : decode cX6_freeMany 3 = .ok (.istore_n 2, 1) := by decide +kernel
theorem dX6_freeMany_4 : decode cX6_freeMany 4 = .ok (.iload_n 2, 1) := by decide +kernel
theorem dX6_freeMany_5 : decode cX6_freeMany 5 = .ok (.aload_n 0, 1) := by decide +kernel
theorem dX6_freeMany_6 : decode cX6_freeMany 6 = .ok (.getfield 109, 3) := by decide +kernel
theorem dX6_freeMany_9 : decode cX6_freeMany 9 = .ok (.if_icmp .ge 26, 3) := by decide +kernel
theorem dX6_freeMany_12 : decode cX6_freeMany 12 = .ok (.iload_n 1, 1) := by decide +kernel
theorem dX6_freeMany_13 : decode cX6_freeMany 13 = .ok (.aload_n 0, 1) := by decide +kernel
theorem dX6_freeMany_14 : decode cX6_freeMany 14 = .ok (.getfield 36, 3) := by decide +kernel
theorem dX6_freeMany_17 : decode cX6_freeMany 17 = .ok (.iload_n 2, 1) := by decide +kernel
theorem dX6_freeMany_18 : decode cX6_freeMany 18 = .ok (.baload, 1) := by decide +kernel
theorem dX6_freeMany_19 : decode cX6_freeMany 19 = .ok (.ifCond .eq 7, 3) := by decide +kernel
theorem dX6_freeMany_22 : decode cX6_freeMany 22 = .ok (.iconst 1, 1) := by decide +kernel
theorem dX6_freeMany_23 : decode cX6_freeMany 23 = .ok (.goto 4, 3) := by decide +kernel
theorem dX6_freeMany_26 : decode cX6_freeMany 26 = .ok (.iconst 0, 1) := by decide +kernel
theorem dX6_freeMany_27 : decode cX6_freeMany 27 = .ok (.iadd, 1) := by decide +kernel
theorem dX6_freeMany_28 : decode cX6_freeMany 28 = .ok (.istore_n 1, 1) := by decide +kernel
theorem dX6_freeMany_29 : decode cX6_freeMany 29 = .ok (.iinc 2 1, 3) := by decide +kernel
theorem dX6_freeMany_32 : decode cX6_freeMany 32 = .ok (.goto (-28), 3) := by decide +kernel
theorem dX6_freeMany_35 : decode cX6_freeMany 35 = .ok (.iload_n 1, 1) := by decide +kernel
theorem dX6_freeMany_36 : decode cX6_freeMany 36 = .ok (.ireturn, 1) := by decide +kernel
theorem dX6_free_0 : decode cX6_free 0 = .ok (.aload_n 0, 1) := by decide +kernel
theorem dX6_free_1 : decode cX6_free 1 = .ok (.iload_n 1, 1) := by decide +kernel
theorem dX6_free_2 : decode cX6_free 2 = .ok (.invokevirtual 116, 3) := by decide +kernel
theorem dX6_free_5 : decode cX6_free 5 = .ok (.ifCond .ne 5, 3) := by decide +kernel
theorem dX6_free_8 : decode cX6_free 8 = .ok (.iconst (-1), 1) := by decide +kernel
theorem dX6_free_9 : decode cX6_free 9 = .ok (.ireturn, 1) := by decide +kernel
theorem dX6_free_10 : decode cX6_free 10 = .ok (.iload_n 2, 1) := by decide +kernel
theorem dX6_free_11 : decode cX6_free 11 = .ok (.ifCond .eq 23, 3) := by decide +kernel
theorem dX6_free_14 : decode cX6_free 14 = .ok (.aload_n 0, 1) := by decide +kernel
theorem dX6_free_15 : decode cX6_free 15 = .ok (.getfield 36, 3) := by decide +kernel
theorem dX6_free_18 : decode cX6_free 18 = .ok (.iload_n 1, 1) := by decide +kernel
theorem dX6_free_19 : decode cX6_free 19 = .ok (.baload, 1) := by decide +kernel
theorem dX6_free_20 : decode cX6_free 20 = .ok (.ifCond .ne 14, 3) := by decide +kernel
theorem dX6_free_23 : decode cX6_free 23 = .ok (.aload_n 0, 1) := by decide +kernel
theorem dX6_free_24 : decode cX6_free 24 = .ok (.invokevirtual 219, 3) := by decide +kernel
theorem dX6_free_27 : decode cX6_free 27 = .ok (.iconst 5, 1) := by decide +kernel
theorem dX6_free_28 : decode cX6_free 28 = .ok (.if_icmp .ne 6, 3) := by decide +kernel
theorem dX6_free_31 : decode cX6_free 31 = .ok (.bipush (-4), 2) := by decide +kernel
theorem dX6_free_33 : decode cX6_free 33 = .ok (.ireturn, 1) := by decide +kernel
theorem dX6_free_34 : decode cX6_free 34 = .ok (.aload_n 0, 1) := by decide +kernel
theorem dX6_free_35 : decode cX6_free 35 = .ok (.getfield 36, 3) := by decide +kernel
theorem dX6_free_38 : decode cX6_free 38 = .ok (.iload_n 1, 1) := by decide +kernel
theorem dX6_free_39 : decode cX6_free 39 = .ok (.iload_n 2, 1) := by decide +kernel
theorem dX6_free_40 : decode cX6_free 40 = .ok (.bastore, 1) := by decide +kernel
theorem dX6_free_41 : decode cX6_free 41 = .ok (.aload_n 0, 1) := by decide +kernel
theorem dX6_free_42 : decode cX6_free 42 = .ok (.invokevirtual 219, 3) := by decide +kernel
theorem dX6_free_45 : decode cX6_free 45 = .ok (.ireturn, 1) := by decide +kernel
theorem dX6_price_0 : decode cX6_price 0 = .ok (.lconst 0, 1) := by decide +kernel
theorem dX6_price_1 : decode cX6_price 1 = .ok (.lstore_n 1, 1) := by decide +kernel
theorem dX6_price_2 : decode cX6_price 2 = .ok (.iconst 0, 1) := by decide +kernel
theorem dX6_price_3 : decode cX6_price 3 = .ok (.istore_n 3, 1) := by decide +kernel
theorem dX6_price_4 : decode cX6_price 4 = .ok (.iload_n 3, 1) := by decide +kernel
theorem dX6_price_5 : decode cX6_price 5 = .ok (.aload_n 0, 1) := by decide +kernel
theorem dX6_price_6 : decode cX6_price 6 = .ok (.getfield 109, 3) := by decide +kernel
