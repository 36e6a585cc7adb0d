theorem dX5_free_43 : decode cX5_free 43 = .ok (.invokestatic 172, 3) := by decide +kernel
theorem dX5_free_46 : decode cX5_free 46 = .ok (.ireturn, 1) := by decide +kernel
theorem dX5_choose_0 : decode cX5_choose 0 = .ok (.aload_n 0, 1) := by decide +kernel
theorem dX5_choose_1 : decode cX5_choose 1 = .ok (.getfield 34, 3) := by decide +kernel
theorem dX5_choose_4 : decode cX5_choose 4 = .ok (.aload_n 0, 1) := by decide +kernel
theorem dX5_choose_5 : decode cX5_choose 5 = .ok (.getfield 166, 3) := by decide +kernel
theorem dX5_choose_8 : decode cX5_choose 8 = .ok (.invokevirtual 182, 3) := by decide +kernel
theorem dX5_choose_11 : decode cX5_choose 11 = .ok (.aload_n 0, 1) := by decide +kernel
theorem dX5_choose_12 : decode cX5_choose 12 = .ok (.getfield 34, 3) := by decide +kernel
theorem dX5_choose_15 : decode cX5_choose 15 = .ok (.iconst 0, 1) := by decide +kernel
theorem dX5_choose_16 : decode cX5_choose 16 = .ok (.iconst 0, 1) := by decide +kernel
theorem dX5_choose_17 : decode cX5_choose 17 = .ok (.invokestatic 186, 3) := by decide +kernel
theorem dX5_choose_20 : decode cX5_choose 20 = .ok (.aload_n 0, 1) := by decide +kernel
theorem dX5_choose_21 : decode cX5_choose 21 = .ok (.getfield 34, 3) := by decide +kernel
theorem dX5_choose_24 : decode cX5_choose 24 = .ok (.invokevirtual 190, 3) := by decide +kernel
theorem dX5_choose_27 : decode cX5_choose 27 = .ok (.ifCond .eq 14, 3) := by decide +kernel
theorem dX5_choose_30 : decode cX5_choose 30 = .ok (.aload_n 0, 1) := by decide +kernel
theorem dX5_choose_31 : decode cX5_choose 31 = .ok (.getfield 17, 3) := by decide +kernel
theorem dX5_choose_34 : decode cX5_choose 34 = .ok (.invokevirtual 194, 3) := by decide +kernel
theorem dX5_choose_37 : decode cX5_choose 37 = .ok (.i2l, 1) := by decide +kernel
theorem dX5_choose_38 : decode cX5_choose 38 = .ok (.goto 6, 3) := by decide +kernel
theorem dX5_choose_41 : decode cX5_choose 41 = .ok (.ldc2_w 198, 3) := by decide +kernel
theorem dX5_choose_44 : decode cX5_choose 44 = .ok (.lreturn, 1) := by decide +kernel
theorem dX5_bill_0 : decode cX5_bill 0 = .ok (.aload_n 0, 1) := by decide +kernel
theorem dX5_bill_1 : decode cX5_bill 1 = .ok (.getfield 17, 3) := by decide +kernel
theorem dX5_bill_4 : decode cX5_bill 4 = .ok (.invokevirtual 194, 3) := by decide +kernel
theorem dX5_bill_7 : decode cX5_bill 7 = .ok (.i2l, 1) := by decide +kernel
theorem dX5_bill_8 : decode cX5_bill 8 = .ok (.lreturn, 1) := by decide +kernel
theorem dX5_margin_0 : decode cX5_margin 0 = .ok (.aload_n 0, 1) := by decide +kernel
theorem dX5_margin_1 : decode cX5_margin 1 = .ok (.iload_n 1, 1) := by decide +kernel
theorem dX5_margin_2 : decode cX5_margin 2 = .ok (.invokevirtual 169, 3) := by decide +kernel
theorem dX5_margin_5 : decode cX5_margin 5 = .ok (.ifCond .ne 5, 3) := by decide +kernel
theorem dX5_margin_8 : decode cX5_margin 8 = .ok (.iconst (-1), 1) := by decide +kernel
theorem dX5_margin_9 : decode cX5_margin 9 = .ok (.ireturn, 1) := by decide +kernel
theorem dX5_margin_10 : decode cX5_margin 10 = .ok (.aload_n 0, 1) := by decide +kernel
theorem dX5_margin_11 : decode cX5_margin 11 = .ok (.getfield 21, 3) := by decide +kernel
theorem dX5_margin_14 : decode cX5_margin 14 = .ok (.iconst 1, 1) := by decide +kernel
theorem dX5_margin_15 : decode cX5_margin 15 = .ok (.aload_n 0, 1) := by decide +kernel
theorem dX5_margin_16 : decode cX5_margin 16 = .ok (.getfield 17, 3) := by decide +kernel
theorem dX5_margin_19 : decode cX5_margin 19 = .ok (.getfield 54, 3) := by decide +kernel
theorem dX5_margin_22 : decode cX5_margin 22 = .ok (.aload_n 0, 1) := by decide +kernel
theorem dX5_margin_23 : decode cX5_margin 23 = .ok (.getfield 25, 3) := by decide +kernel
theorem dX5_margin_26 : decode cX5_margin 26 = .ok (.iload_n 1, 1) := by decide +kernel
theorem dX5_margin_27 : decode cX5_margin 27 = .ok (.iaload, 1) := by decide +kernel
theorem dX5_margin_28 : decode cX5_margin 28 = .ok (.invokevirtual 121, 3) := by decide +kernel
theorem dX5_margin_31 : decode cX5_margin 31 = .ok (.aload_n 0, 1) := by decide +kernel
theorem dX5_margin_32 : decode cX5_margin 32 = .ok (.iload_n 1, 1) := by decide +kernel
theorem dX5_margin_33 : decode cX5_margin 33 = .ok (.iconst 0, 1) := by decide +kernel
theorem dX5_margin_34 : decode cX5_margin 34 = .ok (.invokevirtual 200, 3) := by decide +kernel
theorem dX5_margin_37 : decode cX5_margin 37 = .ok (.ifCond .ne 6, 3) := by decide +kernel
theorem dX5_margin_40 : decode cX5_margin 40 = .ok (.bipush (-5), 2) := by decide +kernel
theorem dX5_margin_42 : decode cX5_margin 42 = .ok (.ireturn, 1) := by decide +kernel
theorem dX5_margin_43 : decode cX5_margin 43 = .ok (.aload_n 0, 1) := by decide +kernel
theorem dX5_margin_44 : decode cX5_margin 44 = .ok (.iload_n 1, 1) := by decide +kernel
theorem dX5_margin_45 : decode cX5_margin 45 = .ok (.bipush 100, 2) := by decide +kernel
theorem dX5_margin_47 : decode cX5_margin 47 = .ok (.invokevirtual 200, 3) := by decide +kernel
theorem dX5_margin_50 : decode cX5_margin 50 = .ok (.ifCond .eq 6, 3) := by decide +kernel
theorem dX5_margin_53 : decode cX5_margin 53 = .ok (.bipush (-6), 2) := by decide +kernel
theorem dX5_margin_55 : decode cX5_margin 55 = .ok (.ireturn, 1) := by decide +kernel
theorem dX5_margin_56 : decode cX5_margin 56 = .ok (.aload_n 0, 1) := by decide +kernel
theorem dX5_margin_57 : decode cX5_margin 57 = .ok (.iload_n 1, 1) := by decide +kernel
theorem dX5_margin_58 : decode cX5_margin 58 = .ok (.invokevirtual 204, 3) := by decide +kernel
theorem dX5_margin_61 : decode cX5_margin 61 = .ok (.ireturn, 1) := by decide +kernel
theorem dX5_floor_0 : decode cX5_floor 0 = .ok (.iload_n 1, 1) := by decide +kernel
theorem dX5_floor_1 : decode cX5_floor 1 = .ok (.iconst 2, 1) := by decide +kernel
theorem dX5_floor_2 : decode cX5_floor 2 = .ok (.bipush 16, 2) := by decide +kernel
theorem dX5_floor_4 : decode cX5_floor 4 = .ok (.invokestatic 46, 3) := by decide +kernel
theorem dX5_floor_7 : decode cX5_floor 7 = .ok (.ifCond .eq 13, 3) := by decide +kernel
theorem dX5_floor_10 : decode cX5_floor 10 = .ok (.iload_n 2, 1) := by decide +kernel
theorem dX5_floor_11 : decode cX5_floor 11 = .ok (.iconst 2, 1) := by decide +kernel
theorem dX5_floor_12 : decode cX5_floor 12 = .ok (.bipush 16, 2) := by decide +kernel
theorem dX5_floor_14 : decode cX5_floor 14 = .ok (.invokestatic 46, 3) := by decide +kernel
theorem dX5_floor_17 : decode cX5_floor 17 = .ok (.ifCond .ne 6, 3) := by decide +kernel
theorem dX5_floor_20 : decode cX5_floor 20 = .ok (.bipush (-2), 2) := by decide +kernel
theorem dX5_floor_22 : decode cX5_floor 22 = .ok (.ireturn, 1) := by decide +kernel
theorem dX5_floor_23 : decode cX5_floor 23 = .ok (.aload_n 0, 1) := by decide +kernel
theorem dX5_floor_24 : decode cX5_floor 24 = .ok (.getfield 41, 3) := by decide +kernel
theorem dX5_floor_27 : decode cX5_floor 27 = .ok (.iload_n 1, 1) := by decide +kernel
theorem dX5_floor_28 : decode cX5_floor 28 = .ok (.iload_n 2, 1) := by decide +kernel
theorem dX5_floor_29 : decode cX5_floor 29 = .ok (.invokevirtual 207, 3) := by decide +kernel
theorem dX5_floor_32 : decode cX5_floor 32 = .ok (.iload_n 1, 1) := by decide +kernel
theorem dX5_floor_33 : decode cX5_floor 33 = .ok (.iload_n 2, 1) := by decide +kernel
theorem dX5_floor_34 : decode cX5_floor 34 = .ok (.imul, 1) := by decide +kernel
theorem dX5_floor_35 : decode cX5_floor 35 = .ok (.ireturn, 1) := by decide +kernel
theorem dX5_cell_0 : decode cX5_cell 0 = .ok (.aload_n 0, 1) := by decide +kernel
theorem dX5_cell_1 : decode cX5_cell 1 = .ok (.getfield 41, 3) := by decide +kernel
theorem dX5_cell_4 : decode cX5_cell 4 = .ok (.iload_n 1, 1) := by decide +kernel
theorem dX5_cell_5 : decode cX5_cell 5 = .ok (.iload_n 2, 1) := by decide +kernel
theorem dX5_cell_6 : decode cX5_cell 6 = .ok (.invokevirtual 210, 3) := by decide +kernel
theorem dX5_cell_9 : decode cX5_cell 9 = .ok (.ifCond .ne 5, 3) := by decide +kernel
theorem dX5_cell_12 : decode cX5_cell 12 = .ok (.iconst (-1), 1) := by decide +kernel
theorem dX5_cell_13 : decode cX5_cell 13 = .ok (.ireturn, 1) := by decide +kernel
theorem dX5_cell_14 : decode cX5_cell 14 = .ok (.iload_n 3, 1) := by decide +kernel
theorem dX5_cell_15 : decode cX5_cell 15 = .ok (.iconst 0, 1) := by decide +kernel
theorem dX5_cell_16 : decode cX5_cell 16 = .ok (.iconst 2, 1) := by decide +kernel
theorem dX5_cell_17 : decode cX5_cell 17 = .ok (.invokestatic 46, 3) := by decide +kernel
theorem dX5_cell_20 : decode cX5_cell 20 = .ok (.ifCond .ne 6, 3) := by decide +kernel
theorem dX5_cell_23 : decode cX5_cell 23 = .ok (.bipush (-2), 2) := by decide +kernel
theorem dX5_cell_25 : decode cX5_cell 25 = .ok (.ireturn, 1) := by decide +kernel
theorem dX5_cell_26 : decode cX5_cell 26 = .ok (.aload_n 0, 1) := by decide +kernel
theorem dX5_cell_27 : decode cX5_cell 27 = .ok (.getfield 41, 3) := by decide +kernel
theorem dX5_cell_30 : decode cX5_cell 30 = .ok (.iload_n 1, 1) := by decide +kernel
theorem dX5_cell_31 : decode cX5_cell 31 = .ok (.iload_n 2, 1) := by decide +kernel
theorem dX5_cell_32 : decode cX5_cell 32 = .ok (.invokevirtual 213, 3) := by decide +kernel
theorem dX5_cell_35 : decode cX5_cell 35 = .ok (.bipush (-6), 2) := by decide +kernel
theorem dX5_cell_37 : decode cX5_cell 37 = .ok (.if_icmp .eq 6, 3) := by decide +kernel
theorem dX5_cell_40 : decode cX5_cell 40 = .ok (.bipush (-3), 2) := by decide +kernel
theorem dX5_cell_42 : decode cX5_cell 42 = .ok (.ireturn, 1) := by decide +kernel
theorem dX5_cell_43 : decode cX5_cell 43 = .ok (.aload_n 0, 1) := by decide +kernel
theorem dX5_cell_44 : decode cX5_cell 44 = .ok (.getfield 41, 3) := by decide +kernel
theorem dX5_cell_47 : decode cX5_cell 47 = .ok (.iload_n 1, 1) := by decide +kernel
theorem dX5_cell_48 : decode cX5_cell 48 = .ok (.iload_n 2, 1) := by decide +kernel
theorem dX5_cell_49 : decode cX5_cell 49 = .ok (.invokevirtual 216, 3) := by decide +kernel
theorem dX5_cell_52 : decode cX5_cell 52 = .ok (.istore 4, 2) := by decide +kernel
theorem dX5_cell_54 : decode cX5_cell 54 = .ok (.aload_n 0, 1) := by decide +kernel
theorem dX5_cell_55 : decode cX5_cell 55 = .ok (.getfield 41, 3) := by decide +kernel
theorem dX5_cell_58 : decode cX5_cell 58 = .ok (.getfield 219, 3) := by decide +kernel
theorem dX5_cell_61 : decode cX5_cell 61 = .ok (.iload_n 1, 1) := by decide +kernel
theorem dX5_cell_62 : decode cX5_cell 62 = .ok (.bipush 16, 2) := by decide +kernel
theorem dX5_cell_64 : decode cX5_cell 64 = .ok (.imul, 1) := by decide +kernel
theorem dX5_cell_65 : decode cX5_cell 65 = .ok (.iload_n 2, 1) := by decide +kernel
theorem dX5_cell_66 : decode cX5_cell 66 = .ok (.iadd, 1) := by decide +kernel
theorem dX5_cell_67 : decode cX5_cell 67 = .ok (.iload_n 3, 1) := by decide +kernel
theorem dX5_cell_68 : decode cX5_cell 68 = .ok (.iastore, 1) := by decide +kernel
theorem dX5_cell_69 : decode cX5_cell 69 = .ok (.iload 4, 2) := by decide +kernel
theorem dX5_cell_71 : decode cX5_cell 71 = .ok (.ireturn, 1) := by decide +kernel
theorem dX5_stand_0 : decode cX5_stand 0 = .ok (.aload_n 0, 1) := by decide +kernel
theorem dX5_stand_1 : decode cX5_stand 1 = .ok (.iload_n 1, 1) := by decide +kernel
theorem dX5_stand_2 : decode cX5_stand 2 = .ok (.invokevirtual 88, 3) := by decide +kernel
theorem dX5_stand_5 : decode cX5_stand 5 = .ok (.ifCond .eq 15, 3) := by decide +kernel
theorem dX5_stand_8 : decode cX5_stand 8 = .ok (.aload_n 0, 1) := by decide +kernel
theorem dX5_stand_9 : decode cX5_stand 9 = .ok (.getfield 41, 3) := by decide +kernel
theorem dX5_stand_12 : decode cX5_stand 12 = .ok (.iload_n 2, 1) := by decide +kernel
theorem dX5_stand_13 : decode cX5_stand 13 = .ok (.iload_n 3, 1) := by decide +kernel
theorem dX5_stand_14 : decode cX5_stand 14 = .ok (.invokevirtual 210, 3) := by decide +kernel
theorem dX5_stand_17 : decode cX5_stand 17 = .ok (.ifCond .ne 5, 3) := by decide +kernel
theorem dX5_stand_20 : decode cX5_stand 20 = .ok (.iconst (-1), 1) := by decide +kernel
theorem dX5_stand_21 : decode cX5_stand 21 = .ok (.ireturn, 1) := by decide +kernel
theorem dX5_stand_22 : decode cX5_stand 22 = .ok (.iload 4, 2) := by decide +kernel
theorem dX5_stand_24 : decode cX5_stand 24 = .ok (.iconst 1, 1) := by decide +kernel
theorem dX5_stand_25 : decode cX5_stand 25 = .ok (.bipush 12, 2) := by decide +kernel
theorem dX5_stand_27 : decode cX5_stand 27 = .ok (.invokestatic 46, 3) := by decide +kernel
theorem dX5_stand_30 : decode cX5_stand 30 = .ok (.ifCond .ne 6, 3) := by decide +kernel
theorem dX5_stand_33 : decode cX5_stand 33 = .ok (.bipush (-2), 2) := by decide +kernel
theorem dX5_stand_35 : decode cX5_stand 35 = .ok (.ireturn, 1) := by decide +kernel
theorem dX5_stand_36 : decode cX5_stand 36 = .ok (.aload_n 0, 1) := by decide +kernel
theorem dX5_stand_37 : decode cX5_stand 37 = .ok (.getfield 41, 3) := by decide +kernel
theorem dX5_stand_40 : decode cX5_stand 40 = .ok (.iload_n 2, 1) := by decide +kernel
theorem dX5_stand_41 : decode cX5_stand 41 = .ok (.iload_n 3, 1) := by decide +kernel
theorem dX5_stand_42 : decode cX5_stand 42 = .ok (.invokevirtual 213, 3) := by decide +kernel
theorem dX5_stand_45 : decode cX5_stand 45 = .ok (.istore 5, 2) := by decide +kernel
theorem dX5_stand_47 : decode cX5_stand 47 = .ok (.aload_n 0, 1) := by decide +kernel
theorem dX5_stand_48 : decode cX5_stand 48 = .ok (.getfield 41, 3) := by decide +kernel
theorem dX5_stand_51 : decode cX5_stand 51 = .ok (.iload_n 2, 1) := by decide +kernel
theorem dX5_stand_52 : decode cX5_stand 52 = .ok (.iload_n 3, 1) := by decide +kernel
theorem dX5_stand_53 : decode cX5_stand 53 = .ok (.invokevirtual 216, 3) := by decide +kernel
theorem dX5_stand_56 : decode cX5_stand 56 = .ok (.ifCond .ne 16, 3) := by decide +kernel
theorem dX5_stand_59 : decode cX5_stand 59 = .ok (.iload 5, 2) := by decide +kernel
theorem dX5_stand_61 : decode cX5_stand 61 = .ok (.bipush (-6), 2) := by decide +kernel
theorem dX5_stand_63 : decode cX5_stand 63 = .ok (.if_icmp .eq 12, 3) := by decide +kernel
theorem dX5_stand_66 : decode cX5_stand 66 = .ok (.iload 5, 2) := by decide +kernel
theorem dX5_stand_68 : decode cX5_stand 68 = .ok (.iload_n 1, 1) := by decide +kernel
theorem dX5_stand_69 : decode cX5_stand 69 = .ok (.if_icmp .eq 6, 3) := by decide +kernel
theorem dX5_stand_72 : decode cX5_stand 72 = .ok (.bipush (-5), 2) := by decide +kernel
theorem dX5_stand_74 : decode cX5_stand 74 = .ok (.ireturn, 1) := by decide +kernel
theorem dX5_stand_75 : decode cX5_stand 75 = .ok (.aload_n 0, 1) := by decide +kernel
theorem dX5_stand_76 : decode cX5_stand 76 = .ok (.getfield 41, 3) := by decide +kernel
theorem dX5_stand_79 : decode cX5_stand 79 = .ok (.iload_n 1, 1) := by decide +kernel
theorem dX5_stand_80 : decode cX5_stand 80 = .ok (.iload_n 2, 1) := by decide +kernel
theorem dX5_stand_81 : decode cX5_stand 81 = .ok (.iload_n 3, 1) := by decide +kernel
theorem dX5_stand_82 : decode cX5_stand 82 = .ok (.iload 4, 2) := by decide +kernel
theorem dX5_stand_84 : decode cX5_stand 84 = .ok (.invokevirtual 222, 3) := by decide +kernel
theorem dX5_stand_87 : decode cX5_stand 87 = .ok (.iconst 1, 1) := by decide +kernel
theorem dX5_stand_88 : decode cX5_stand 88 = .ok (.ireturn, 1) := by decide +kernel
theorem dX5_lift_0 : decode cX5_lift 0 = .ok (.aload_n 0, 1) := by decide +kernel
theorem dX5_lift_1 : decode cX5_lift 1 = .ok (.iload_n 1, 1) := by decide +kernel
theorem dX5_lift_2 : decode cX5_lift 2 = .ok (.invokevirtual 88, 3) := by decide +kernel
theorem dX5_lift_5 : decode cX5_lift 5 = .ok (.ifCond .ne 5, 3) := by decide +kernel
theorem dX5_lift_8 : decode cX5_lift 8 = .ok (.iconst (-1), 1) := by decide +kernel
theorem dX5_lift_9 : decode cX5_lift 9 = .ok (.ireturn, 1) := by decide +kernel
theorem dX5_lift_10 : decode cX5_lift 10 = .ok (.aload_n 0, 1) := by decide +kernel
theorem dX5_lift_11 : decode cX5_lift 11 = .ok (.getfield 41, 3) := by decide +kernel
theorem dX5_lift_14 : decode cX5_lift 14 = .ok (.getfield 226, 3) := by decide +kernel
theorem dX5_lift_17 : decode cX5_lift 17 = .ok (.iload_n 1, 1) := by decide +kernel
theorem dX5_lift_18 : decode cX5_lift 18 = .ok (.invokestatic 94, 3) := by decide +kernel
theorem dX5_lift_21 : decode cX5_lift 21 = .ok (.istore_n 2, 1) := by decide +kernel
theorem dX5_lift_22 : decode cX5_lift 22 = .ok (.aload_n 0, 1) := by decide +kernel
theorem dX5_lift_23 : decode cX5_lift 23 = .ok (.getfield 41, 3) := by decide +kernel
theorem dX5_lift_26 : decode cX5_lift 26 = .ok (.aload_n 0, 1) := by decide +kernel
theorem dX5_lift_27 : decode cX5_lift 27 = .ok (.getfield 41, 3) := by decide +kernel
theorem dX5_lift_30 : decode cX5_lift 30 = .ok (.getfield 226, 3) := by decide +kernel
theorem dX5_lift_33 : decode cX5_lift 33 = .ok (.iload_n 1, 1) := by decide +kernel
theorem dX5_lift_34 : decode cX5_lift 34 = .ok (.iconst 0, 1) := by decide +kernel
theorem dX5_lift_35 : decode cX5_lift 35 = .ok (.invokestatic 97, 3) := by decide +kernel
theorem dX5_lift_38 : decode cX5_lift 38 = .ok (.putfield 226, 3) := by decide +kernel
theorem dX5_lift_41 : decode cX5_lift 41 = .ok (.iload_n 2, 1) := by decide +kernel
theorem dX5_lift_42 : decode cX5_lift 42 = .ok (.ireturn, 1) := by decide +kernel
theorem dX5_wets_0 : decode cX5_wets 0 = .ok (.aload_n 0, 1) := by decide +kernel
theorem dX5_wets_1 : decode cX5_wets 1 = .ok (.iload_n 1, 1) := by decide +kernel
theorem dX5_wets_2 : decode cX5_wets 2 = .ok (.invokevirtual 88, 3) := by decide +kernel
theorem dX5_wets_5 : decode cX5_wets 5 = .ok (.ifCond .eq 15, 3) := by decide +kernel
theorem dX5_wets_8 : decode cX5_wets 8 = .ok (.aload_n 0, 1) := by decide +kernel
theorem dX5_wets_9 : decode cX5_wets 9 = .ok (.getfield 41, 3) := by decide +kernel
theorem dX5_wets_12 : decode cX5_wets 12 = .ok (.iload_n 2, 1) := by decide +kernel
theorem dX5_wets_13 : decode cX5_wets 13 = .ok (.iload_n 3, 1) := by decide +kernel
theorem dX5_wets_14 : decode cX5_wets 14 = .ok (.invokevirtual 210, 3) := by decide +kernel
theorem dX5_wets_17 : decode cX5_wets 17 = .ok (.ifCond .ne 5, 3) := by decide +kernel
theorem dX5_wets_20 : decode cX5_wets 20 = .ok (.iconst (-1), 1) := by decide +kernel
theorem dX5_wets_21 : decode cX5_wets 21 = .ok (.ireturn, 1) := by decide +kernel
theorem dX5_wets_22 : decode cX5_wets 22 = .ok (.aload_n 0, 1) := by decide +kernel
theorem dX5_wets_23 : decode cX5_wets 23 = .ok (.getfield 41, 3) := by decide +kernel
theorem dX5_wets_26 : decode cX5_wets 26 = .ok (.getfield 226, 3) := by decide +kernel
theorem dX5_wets_29 : decode cX5_wets 29 = .ok (.iload_n 1, 1) := by decide +kernel
theorem dX5_wets_30 : decode cX5_wets 30 = .ok (.invokestatic 94, 3) := by decide +kernel
theorem dX5_wets_33 : decode cX5_wets 33 = .ok (.ifCond .ne 6, 3) := by decide +kernel
theorem dX5_wets_36 : decode cX5_wets 36 = .ok (.bipush (-3), 2) := by decide +kernel
theorem dX5_wets_38 : decode cX5_wets 38 = .ok (.ireturn, 1) := by decide +kernel
theorem dX5_wets_39 : decode cX5_wets 39 = .ok (.aload_n 0, 1) := by decide +kernel
theorem dX5_wets_40 : decode cX5_wets 40 = .ok (.getfield 41, 3) := by decide +kernel
theorem dX5_wets_43 : decode cX5_wets 43 = .ok (.iload_n 1, 1) := by decide +kernel
theorem dX5_wets_44 : decode cX5_wets 44 = .ok (.iload_n 2, 1) := by decide +kernel
theorem dX5_wets_45 : decode cX5_wets 45 = .ok (.iload_n 3, 1) := by decide +kernel
theorem dX5_wets_46 : decode cX5_wets 46 = .ok (.invokevirtual 229, 3) := by decide +kernel
theorem dX5_wets_49 : decode cX5_wets 49 = .ok (.ifCond .eq 7, 3) := by decide +kernel
theorem dX5_wets_52 : decode cX5_wets 52 = .ok (.iconst 1, 1) := by decide +kernel
theorem dX5_wets_53 : decode cX5_wets 53 = .ok (.goto 4, 3) := by decide +kernel
theorem dX5_wets_56 : decode cX5_wets 56 = .ok (.iconst 0, 1) := by decide +kernel
theorem dX5_wets_57 : decode cX5_wets 57 = .ok (.ireturn, 1) := by decide +kernel
theorem dX5_dry_0 : decode cX5_dry 0 = .ok (.iconst 0, 1) := by decide +kernel
theorem dX5_dry_1 : decode cX5_dry 1 = .ok (.istore_n 2, 1) := by decide +kernel
theorem dX5_dry_2 : decode cX5_dry 2 = .ok (.iconst 0, 1) := by decide +kernel
theorem dX5_dry_3 : decode cX5_dry 3 = .ok (.istore_n 3, 1) := by decide +kernel
theorem dX5_dry_4 : decode cX5_dry 4 = .ok (.iload_n 3, 1) := by decide +kernel
theorem dX5_dry_5 : decode cX5_dry 5 = .ok (.aload_n 0, 1) := by decide +kernel
theorem dX5_dry_6 : decode cX5_dry 6 = .ok (.getfield 41, 3) := by decide +kernel
theorem dX5_dry_9 : decode cX5_dry 9 = .ok (.getfield 232, 3) := by decide +kernel
theorem dX5_dry_12 : decode cX5_dry 12 = .ok (.if_icmp .ge 59, 3) := by decide +kernel
theorem dX5_dry_15 : decode cX5_dry 15 = .ok (.iconst 0, 1) := by decide +kernel
theorem dX5_dry_16 : decode cX5_dry 16 = .ok (.istore 4, 2) := by decide +kernel
theorem dX5_dry_18 : decode cX5_dry 18 = .ok (.iload 4, 2) := by decide +kernel
theorem dX5_dry_20 : decode cX5_dry 20 = .ok (.aload_n 0, 1) := by decide +kernel
theorem dX5_dry_21 : decode cX5_dry 21 = .ok (.getfield 41, 3) := by decide +kernel
theorem dX5_dry_24 : decode cX5_dry 24 = .ok (.getfield 235, 3) := by decide +kernel
theorem dX5_dry_27 : decode cX5_dry 27 = .ok (.if_icmp .ge 38, 3) := by decide +kernel
theorem dX5_dry_30 : decode cX5_dry 30 = .ok (.aload_n 0, 1) := by decide +kernel
theorem dX5_dry_31 : decode cX5_dry 31 = .ok (.getfield 41, 3) := by decide +kernel
theorem dX5_dry_34 : decode cX5_dry 34 = .ok (.iload_n 3, 1) := by decide +kernel
theorem dX5_dry_35 : decode cX5_dry 35 = .ok (.iload 4, 2) := by decide +kernel
theorem dX5_dry_37 : decode cX5_dry 37 = .ok (.invokevirtual 238, 3) := by decide +kernel
theorem dX5_dry_40 : decode cX5_dry 40 = .ok (.ifCond .eq 19, 3) := by decide +kernel
theorem dX5_dry_43 : decode cX5_dry 43 = .ok (.iload_n 2, 1) := by decide +kernel
theorem dX5_dry_44 : decode cX5_dry 44 = .ok (.iload_n 1, 1) := by decide +kernel
theorem dX5_dry_45 : decode cX5_dry 45 = .ok (.if_icmp .ne 11, 3) := by decide +kernel
theorem dX5_dry_48 : decode cX5_dry 48 = .ok (.iload_n 3, 1) := by decide +kernel
theorem dX5_dry_49 : decode cX5_dry 49 = .ok (.bipush 16, 2) := by decide +kernel
theorem dX5_dry_51 : decode cX5_dry 51 = .ok (.imul, 1) := by decide +kernel
theorem dX5_dry_52 : decode cX5_dry 52 = .ok (.iload 4, 2) := by decide +kernel
theorem dX5_dry_54 : decode cX5_dry 54 = .ok (.iadd, 1) := by decide +kernel
theorem dX5_dry_55 : decode cX5_dry 55 = .ok (.ireturn, 1) := by decide +kernel
theorem dX5_dry_56 : decode cX5_dry 56 = .ok (.iinc 2 1, 3) := by decide +kernel
theorem dX5_dry_59 : decode cX5_dry 59 = .ok (.iinc 4 1, 3) := by decide +kernel
theorem dX5_dry_62 : decode cX5_dry 62 = .ok (.goto (-44), 3) := by decide +kernel
theorem dX5_dry_65 : decode cX5_dry 65 = .ok (.iinc 3 1, 3) := by decide +kernel
theorem dX5_dry_68 : decode cX5_dry 68 = .ok (.goto (-64), 3) := by decide +kernel
theorem dX5_dry_71 : decode cX5_dry 71 = .ok (.iload_n 1, 1) := by decide +kernel
theorem dX5_dry_72 : decode cX5_dry 72 = .ok (.iconst (-1), 1) := by decide +kernel
theorem dX5_dry_73 : decode cX5_dry 73 = .ok (.if_icmp .ne 7, 3) := by decide +kernel
theorem dX5_dry_76 : decode cX5_dry 76 = .ok (.iload_n 2, 1) := by decide +kernel
theorem dX5_dry_77 : decode cX5_dry 77 = .ok (.goto 5, 3) := by decide +kernel
theorem dX5_dry_80 : decode cX5_dry 80 = .ok (.bipush (-6), 2) := by decide +kernel
theorem dX5_dry_82 : decode cX5_dry 82 = .ok (.ireturn, 1) := by decide +kernel
theorem dX5_near_0 : decode cX5_near 0 = .ok (.iload_n 1, 1) := by decide +kernel
theorem dX5_near_1 : decode cX5_near 1 = .ok (.iconst 1, 1) := by decide +kernel
theorem dX5_near_2 : decode cX5_near 2 = .ok (.bipush 30, 2) := by decide +kernel
theorem dX5_near_4 : decode cX5_near 4 = .ok (.invokestatic 46, 3) := by decide +kernel
theorem dX5_near_7 : decode cX5_near 7 = .ok (.ifCond .ne 6, 3) := by decide +kernel
theorem dX5_near_10 : decode cX5_near 10 = .ok (.bipush (-2), 2) := by decide +kernel
theorem dX5_near_12 : decode cX5_near 12 = .ok (.ireturn, 1) := by decide +kernel
theorem dX5_near_13 : decode cX5_near 13 = .ok (.iconst 0, 1) := by decide +kernel
theorem dX5_near_14 : decode cX5_near 14 = .ok (.istore_n 2, 1) := by decide +kernel
theorem dX5_near_15 : decode cX5_near 15 = .ok (.iload_n 2, 1) := by decide +kernel
theorem dX5_near_16 : decode cX5_near 16 = .ok (.bipush 24, 2) := by decide +kernel
theorem dX5_near_18 : decode cX5_near 18 = .ok (.if_icmp .ge 25, 3) := by decide +kernel
theorem dX5_near_21 : decode cX5_near 21 = .ok (.aload_n 0, 1) := by decide +kernel
theorem dX5_near_22 : decode cX5_near 22 = .ok (.getfield 41, 3) := by decide +kernel
theorem dX5_near_25 : decode cX5_near 25 = .ok (.iload_n 2, 1) := by decide +kernel
theorem dX5_near_26 : decode cX5_near 26 = .ok (.iload_n 1, 1) := by decide +kernel
theorem dX5_near_27 : decode cX5_near 27 = .ok (.iload_n 1, 1) := by decide +kernel
theorem dX5_near_28 : decode cX5_near 28 = .ok (.imul, 1) := by decide +kernel
theorem dX5_near_29 : decode cX5_near 29 = .ok (.invokevirtual 241, 3) := by decide +kernel
theorem dX5_near_32 : decode cX5_near 32 = .ok (.ifCond .eq 5, 3) := by decide +kernel
theorem dX5_near_35 : decode cX5_near 35 = .ok (.iload_n 2, 1) := by decide +kernel
theorem dX5_near_36 : decode cX5_near 36 = .ok (.ireturn, 1) := by decide +kernel
theorem dX5_near_37 : decode cX5_near 37 = .ok (.iinc 2 1, 3) := by decide +kernel
theorem dX5_near_40 : decode cX5_near 40 = .ok (.goto (-25), 3) := by decide +kernel
theorem dX5_near_43 : decode cX5_near 43 = .ok (.bipush (-6), 2) := by decide +kernel
theorem dX5_near_45 : decode cX5_near 45 = .ok (.ireturn, 1) := by decide +kernel
theorem dX5_told_0 : decode cX5_told 0 = .ok (.iload_n 1, 1) := by decide +kernel
theorem dX5_told_1 : decode cX5_told 1 = .ok (.tableswitch 144 0 9 #[55, 63, 71, 82, 93, 98, 109, 120, 128, 136], 55) := by decide +kernel
theorem dX5_told_56 : decode cX5_told 56 = .ok (.aload_n 0, 1) := by decide +kernel
theorem dX5_told_57 : decode cX5_told 57 = .ok (.getfield 17, 3) := by decide +kernel
theorem dX5_told_60 : decode cX5_told 60 = .ok (.getfield 57, 3) := by decide +kernel
theorem dX5_told_63 : decode cX5_told 63 = .ok (.ireturn, 1) := by decide +kernel
theorem dX5_told_64 : decode cX5_told 64 = .ok (.aload_n 0, 1) := by decide +kernel
theorem dX5_told_65 : decode cX5_told 65 = .ok (.getfield 17, 3) := by decide +kernel
theorem dX5_told_68 : decode cX5_told 68 = .ok (.getfield 71, 3) := by decide +kernel
theorem dX5_told_71 : decode cX5_told 71 = .ok (.ireturn, 1) := by decide +kernel
theorem dX5_told_72 : decode cX5_told 72 = .ok (.aload_n 0, 1) := by decide +kernel
theorem dX5_told_73 : decode cX5_told 73 = .ok (.getfield 17, 3) := by decide +kernel
theorem dX5_told_76 : decode cX5_told 76 = .ok (.getfield 146, 3) := by decide +kernel
theorem dX5_told_79 : decode cX5_told 79 = .ok (.invokestatic 172, 3) := by decide +kernel
theorem dX5_told_82 : decode cX5_told 82 = .ok (.ireturn, 1) := by decide +kernel
theorem dX5_told_83 : decode cX5_told 83 = .ok (.aload_n 0, 1) := by decide +kernel
theorem dX5_told_84 : decode cX5_told 84 = .ok (.getfield 17, 3) := by decide +kernel
theorem dX5_told_87 : decode cX5_told 87 = .ok (.getfield 91, 3) := by decide +kernel
theorem dX5_told_90 : decode cX5_told 90 = .ok (.invokestatic 172, 3) := by decide +kernel
theorem dX5_told_93 : decode cX5_told 93 = .ok (.ireturn, 1) := by decide +kernel
theorem dX5_told_94 : decode cX5_told 94 = .ok (.aload_n 0, 1) := by decide +kernel
theorem dX5_told_95 : decode cX5_told 95 = .ok (.getfield 166, 3) := by decide +kernel
theorem dX5_told_98 : decode cX5_told 98 = .ok (.ireturn, 1) := by decide +kernel
theorem dX5_told_99 : decode cX5_told 99 = .ok (.aload_n 0, 1) := by decide +kernel
theorem dX5_told_100 : decode cX5_told 100 = .ok (.getfield 17, 3) := by decide +kernel
theorem dX5_told_103 : decode cX5_told 103 = .ok (.getfield 156, 3) := by decide +kernel
theorem dX5_told_106 : decode cX5_told 106 = .ok (.invokestatic 172, 3) := by decide +kernel
theorem dX5_told_109 : decode cX5_told 109 = .ok (.ireturn, 1) := by decide +kernel
theorem dX5_told_110 : decode cX5_told 110 = .ok (.aload_n 0, 1) := by decide +kernel
theorem dX5_told_111 : decode cX5_told 111 = .ok (.getfield 41, 3) := by decide +kernel
theorem dX5_told_114 : decode cX5_told 114 = .ok (.getfield 226, 3) := by decide +kernel
theorem dX5_told_117 : decode cX5_told 117 = .ok (.invokestatic 172, 3) := by decide +kernel
theorem dX5_told_120 : decode cX5_told 120 = .ok (.ireturn, 1) := by decide +kernel
theorem dX5_told_121 : decode cX5_told 121 = .ok (.aload_n 0, 1) := by decide +kernel
theorem dX5_told_122 : decode cX5_told 122 = .ok (.getfield 41, 3) := by decide +kernel
theorem dX5_told_125 : decode cX5_told 125 = .ok (.invokevirtual 244, 3) := by decide +kernel
theorem dX5_told_128 : decode cX5_told 128 = .ok (.ireturn, 1) := by decide +kernel
theorem dX5_told_129 : decode cX5_told 129 = .ok (.aload_n 0, 1) := by decide +kernel
theorem dX5_told_130 : decode cX5_told 130 = .ok (.getfield 41, 3) := by decide +kernel
theorem dX5_told_133 : decode cX5_told 133 = .ok (.getfield 232, 3) := by decide +kernel
theorem dX5_told_136 : decode cX5_told 136 = .ok (.ireturn, 1) := by decide +kernel
theorem dX5_told_137 : decode cX5_told 137 = .ok (.aload_n 0, 1) := by decide +kernel
theorem dX5_told_138 : decode cX5_told 138 = .ok (.getfield 41, 3) := by decide +kernel
theorem dX5_told_141 : decode cX5_told 141 = .ok (.getfield 235, 3) := by decide +kernel
theorem dX5_told_144 : decode cX5_told 144 = .ok (.ireturn, 1) := by decide +kernel
theorem dX5_told_145 : decode cX5_told 145 = .ok (.bipush (-2), 2) := by decide +kernel
theorem dX5_told_147 : decode cX5_told 147 = .ok (.ireturn, 1) := by decide +kernel
theorem dX5_isPipe_0 : decode cX5_isPipe 0 = .ok (.iload_n 1, 1) := by decide +kernel
theorem dX5_isPipe_1 : decode cX5_isPipe 1 = .ok (.ifCond .lt 18, 3) := by decide +kernel
theorem dX5_isPipe_4 : decode cX5_isPipe 4 = .ok (.iload_n 1, 1) := by decide +kernel
theorem dX5_isPipe_5 : decode cX5_isPipe 5 = .ok (.aload_n 0, 1) := by decide +kernel
theorem dX5_isPipe_6 : decode cX5_isPipe 6 = .ok (.getfield 17, 3) := by decide +kernel
theorem dX5_isPipe_9 : decode cX5_isPipe 9 = .ok (.getfield 71, 3) := by decide +kernel
theorem dX5_isPipe_12 : decode cX5_isPipe 12 = .ok (.if_icmp .ge 7, 3) := by decide +kernel
theorem dX5_isPipe_15 : decode cX5_isPipe 15 = .ok (.iconst 1, 1) := by decide +kernel
theorem dX5_isPipe_16 : decode cX5_isPipe 16 = .ok (.goto 4, 3) := by decide +kernel
theorem dX5_isPipe_19 : decode cX5_isPipe 19 = .ok (.iconst 0, 1) := by decide +kernel
theorem dX5_isPipe_20 : decode cX5_isPipe 20 = .ok (.ireturn, 1) := by decide +kernel
theorem dX5_isEnd_0 : decode cX5_isEnd 0 = .ok (.iload_n 1, 1) := by decide +kernel
theorem dX5_isEnd_1 : decode cX5_isEnd 1 = .ok (.iconst (-1), 1) := by decide +kernel
theorem dX5_isEnd_2 : decode cX5_isEnd 2 = .ok (.if_icmp .eq 11, 3) := by decide +kernel
theorem dX5_isEnd_5 : decode cX5_isEnd 5 = .ok (.aload_n 0, 1) := by decide +kernel
theorem dX5_isEnd_6 : decode cX5_isEnd 6 = .ok (.iload_n 1, 1) := by decide +kernel
theorem dX5_isEnd_7 : decode cX5_isEnd 7 = .ok (.invokevirtual 81, 3) := by decide +kernel
theorem dX5_isEnd_10 : decode cX5_isEnd 10 = .ok (.ifCond .eq 7, 3) := by decide +kernel
theorem dX5_isEnd_13 : decode cX5_isEnd 13 = .ok (.iconst 1, 1) := by decide +kernel
theorem dX5_isEnd_14 : decode cX5_isEnd 14 = .ok (.goto 4, 3) := by decide +kernel
theorem dX5_isEnd_17 : decode cX5_isEnd 17 = .ok (.iconst 0, 1) := by decide +kernel
theorem dX5_isEnd_18 : decode cX5_isEnd 18 = .ok (.ireturn, 1) := by decide +kernel
theorem dX5_isHead_0 : decode cX5_isHead 0 = .ok (.aload_n 0, 1) := by decide +kernel
theorem dX5_isHead_1 : decode cX5_isHead 1 = .ok (.iload_n 1, 1) := by decide +kernel
theorem dX5_isHead_2 : decode cX5_isHead 2 = .ok (.invokevirtual 81, 3) := by decide +kernel
theorem dX5_isHead_5 : decode cX5_isHead 5 = .ok (.ifCond .eq 22, 3) := by decide +kernel
theorem dX5_isHead_8 : decode cX5_isHead 8 = .ok (.aload_n 0, 1) := by decide +kernel
theorem dX5_isHead_9 : decode cX5_isHead 9 = .ok (.getfield 17, 3) := by decide +kernel
theorem dX5_isHead_12 : decode cX5_isHead 12 = .ok (.getfield 146, 3) := by decide +kernel
theorem dX5_isHead_15 : decode cX5_isHead 15 = .ok (.iload_n 1, 1) := by decide +kernel
theorem dX5_isHead_16 : decode cX5_isHead 16 = .ok (.invokestatic 94, 3) := by decide +kernel
theorem dX5_isHead_19 : decode cX5_isHead 19 = .ok (.iconst 1, 1) := by decide +kernel
theorem dX5_isHead_20 : decode cX5_isHead 20 = .ok (.if_icmp .ne 7, 3) := by decide +kernel
theorem dX5_isHead_23 : decode cX5_isHead 23 = .ok (.iconst 1, 1) := by decide +kernel
theorem dX5_isHead_24 : decode cX5_isHead 24 = .ok (.goto 4, 3) := by decide +kernel
theorem dX5_isHead_27 : decode cX5_isHead 27 = .ok (.iconst 0, 1) := by decide +kernel
theorem dX5_isHead_28 : decode cX5_isHead 28 = .ok (.ireturn, 1) := by decide +kernel
theorem dX5_isSize_0 : decode cX5_isSize 0 = .ok (.iload_n 1, 1) := by decide +kernel
theorem dX5_isSize_1 : decode cX5_isSize 1 = .ok (.ifCond .lt 18, 3) := by decide +kernel
theorem dX5_isSize_4 : decode cX5_isSize 4 = .ok (.iload_n 1, 1) := by decide +kernel
theorem dX5_isSize_5 : decode cX5_isSize 5 = .ok (.aload_n 0, 1) := by decide +kernel
theorem dX5_isSize_6 : decode cX5_isSize 6 = .ok (.getfield 17, 3) := by decide +kernel
theorem dX5_isSize_9 : decode cX5_isSize 9 = .ok (.getfield 57, 3) := by decide +kernel
theorem dX5_isSize_12 : decode cX5_isSize 12 = .ok (.if_icmp .ge 7, 3) := by decide +kernel
theorem dX5_isSize_15 : decode cX5_isSize 15 = .ok (.iconst 1, 1) := by decide +kernel
theorem dX5_isSize_16 : decode cX5_isSize 16 = .ok (.goto 4, 3) := by decide +kernel
theorem dX5_isSize_19 : decode cX5_isSize 19 = .ok (.iconst 0, 1) := by decide +kernel
theorem dX5_isSize_20 : decode cX5_isSize 20 = .ok (.ireturn, 1) := by decide +kernel
theorem dX5_isHeap_0 : decode cX5_isHeap 0 = .ok (.iload_n 1, 1) := by decide +kernel
theorem dX5_isHeap_1 : decode cX5_isHeap 1 = .ok (.ifCond .lt 15, 3) := by decide +kernel
theorem dX5_isHeap_4 : decode cX5_isHeap 4 = .ok (.iload_n 1, 1) := by decide +kernel
theorem dX5_isHeap_5 : decode cX5_isHeap 5 = .ok (.aload_n 0, 1) := by decide +kernel
theorem dX5_isHeap_6 : decode cX5_isHeap 6 = .ok (.getfield 166, 3) := by decide +kernel
theorem dX5_isHeap_9 : decode cX5_isHeap 9 = .ok (.if_icmp .ge 7, 3) := by decide +kernel
theorem dX5_isHeap_12 : decode cX5_isHeap 12 = .ok (.iconst 1, 1) := by decide +kernel
theorem dX5_isHeap_13 : decode cX5_isHeap 13 = .ok (.goto 4, 3) := by decide +kernel
theorem dX5_isHeap_16 : decode cX5_isHeap 16 = .ok (.iconst 0, 1) := by decide +kernel
theorem dX5_isHeap_17 : decode cX5_isHeap 17 = .ok (.ireturn, 1) := by decide +kernel
theorem dX5_leastOfHeap_0 : decode cX5_leastOfHeap 0 = .ok (.aload_n 0, 1) := by decide +kernel
theorem dX5_leastOfHeap_1 : decode cX5_leastOfHeap 1 = .ok (.getfield 21, 3) := by decide +kernel
theorem dX5_leastOfHeap_4 : decode cX5_leastOfHeap 4 = .ok (.iconst 0, 1) := by decide +kernel
theorem dX5_leastOfHeap_5 : decode cX5_leastOfHeap 5 = .ok (.aload_n 0, 1) := by decide +kernel
theorem dX5_leastOfHeap_6 : decode cX5_leastOfHeap 6 = .ok (.getfield 25, 3) := by decide +kernel
theorem dX5_leastOfHeap_9 : decode cX5_leastOfHeap 9 = .ok (.iload_n 1, 1) := by decide +kernel
theorem dX5_leastOfHeap_10 : decode cX5_leastOfHeap 10 = .ok (.iaload, 1) := by decide +kernel
theorem dX5_leastOfHeap_11 : decode cX5_leastOfHeap 11 = .ok (.invokevirtual 129, 3) := by decide +kernel
theorem dX5_leastOfHeap_14 : decode cX5_leastOfHeap 14 = .ok (.aload_n 0, 1) := by decide +kernel
theorem dX5_leastOfHeap_15 : decode cX5_leastOfHeap 15 = .ok (.getfield 21, 3) := by decide +kernel
theorem dX5_leastOfHeap_18 : decode cX5_leastOfHeap 18 = .ok (.aload_n 0, 1) := by decide +kernel
theorem dX5_leastOfHeap_19 : decode cX5_leastOfHeap 19 = .ok (.getfield 25, 3) := by decide +kernel
theorem dX5_leastOfHeap_22 : decode cX5_leastOfHeap 22 = .ok (.iload_n 1, 1) := by decide +kernel
theorem dX5_leastOfHeap_23 : decode cX5_leastOfHeap 23 = .ok (.iaload, 1) := by decide +kernel
theorem dX5_leastOfHeap_24 : decode cX5_leastOfHeap 24 = .ok (.invokevirtual 247, 3) := by decide +kernel
theorem dX5_leastOfHeap_27 : decode cX5_leastOfHeap 27 = .ok (.lreturn, 1) := by decide +kernel
theorem dX5_isMetWithLess_0 : decode cX5_isMetWithLess 0 = .ok (.iconst 1, 1) := by decide +kernel
theorem dX5_isMetWithLess_1 : decode cX5_isMetWithLess 1 = .ok (.aload_n 0, 1) := by decide +kernel
theorem dX5_isMetWithLess_2 : decode cX5_isMetWithLess 2 = .ok (.getfield 17, 3) := by decide +kernel
theorem dX5_isMetWithLess_5 : decode cX5_isMetWithLess 5 = .ok (.getfield 50, 3) := by decide +kernel
theorem dX5_isMetWithLess_8 : decode cX5_isMetWithLess 8 = .ok (.bipush 100, 2) := by decide +kernel
theorem dX5_isMetWithLess_10 : decode cX5_isMetWithLess 10 = .ok (.iload_n 2, 1) := by decide +kernel
theorem dX5_isMetWithLess_11 : decode cX5_isMetWithLess 11 = .ok (.isub, 1) := by decide +kernel
theorem dX5_isMetWithLess_12 : decode cX5_isMetWithLess 12 = .ok (.imul, 1) := by decide +kernel
theorem dX5_isMetWithLess_13 : decode cX5_isMetWithLess 13 = .ok (.bipush 100, 2) := by decide +kernel
theorem dX5_isMetWithLess_15 : decode cX5_isMetWithLess 15 = .ok (.idiv, 1) := by decide +kernel
theorem dX5_isMetWithLess_16 : decode cX5_isMetWithLess 16 = .ok (.invokestatic 250, 3) := by decide +kernel
theorem dX5_isMetWithLess_19 : decode cX5_isMetWithLess 19 = .ok (.istore_n 3, 1) := by decide +kernel
theorem dX5_isMetWithLess_20 : decode cX5_isMetWithLess 20 = .ok (.aload_n 0, 1) := by decide +kernel
theorem dX5_isMetWithLess_21 : decode cX5_isMetWithLess 21 = .ok (.getfield 21, 3) := by decide +kernel
theorem dX5_isMetWithLess_24 : decode cX5_isMetWithLess 24 = .ok (.iconst 0, 1) := by decide +kernel
theorem dX5_isMetWithLess_25 : decode cX5_isMetWithLess 25 = .ok (.aload_n 0, 1) := by decide +kernel
theorem dX5_isMetWithLess_26 : decode cX5_isMetWithLess 26 = .ok (.getfield 17, 3) := by decide +kernel
theorem dX5_isMetWithLess_29 : decode cX5_isMetWithLess 29 = .ok (.getfield 54, 3) := by decide +kernel
theorem dX5_isMetWithLess_32 : decode cX5_isMetWithLess 32 = .ok (.iload_n 3, 1) := by decide +kernel
theorem dX5_isMetWithLess_33 : decode cX5_isMetWithLess 33 = .ok (.invokevirtual 255, 3) := by decide +kernel
theorem dX5_isMetWithLess_36 : decode cX5_isMetWithLess 36 = .ok (.aload_n 0, 1) := by decide +kernel
theorem dX5_isMetWithLess_37 : decode cX5_isMetWithLess 37 = .ok (.getfield 21, 3) := by decide +kernel
theorem dX5_isMetWithLess_40 : decode cX5_isMetWithLess 40 = .ok (.aload_n 0, 1) := by decide +kernel
theorem dX5_isMetWithLess_41 : decode cX5_isMetWithLess 41 = .ok (.getfield 25, 3) := by decide +kernel
theorem dX5_isMetWithLess_44 : decode cX5_isMetWithLess 44 = .ok (.iload_n 1, 1) := by decide +kernel
theorem dX5_isMetWithLess_45 : decode cX5_isMetWithLess 45 = .ok (.iaload, 1) := by decide +kernel
theorem dX5_isMetWithLess_46 : decode cX5_isMetWithLess 46 = .ok (.invokevirtual 247, 3) := by decide +kernel
theorem dX5_isMetWithLess_49 : decode cX5_isMetWithLess 49 = .ok (.lconst 0, 1) := by decide +kernel
theorem dX5_isMetWithLess_50 : decode cX5_isMetWithLess 50 = .ok (.lcmp, 1) := by decide +kernel
theorem dX5_isMetWithLess_51 : decode cX5_isMetWithLess 51 = .ok (.ifCond .lt 7, 3) := by decide +kernel
theorem dX5_isMetWithLess_54 : decode cX5_isMetWithLess 54 = .ok (.iconst 1, 1) := by decide +kernel
theorem dX5_isMetWithLess_55 : decode cX5_isMetWithLess 55 = .ok (.goto 4, 3) := by decide +kernel
theorem dX5_isMetWithLess_58 : decode cX5_isMetWithLess 58 = .ok (.iconst 0, 1) := by decide +kernel
theorem dX5_isMetWithLess_59 : decode cX5_isMetWithLess 59 = .ok (.ireturn, 1) := by decide +kernel
theorem dX5_leastTooMuch_0 : decode cX5_leastTooMuch 0 = .ok (.iconst 0, 1) := by decide +kernel
theorem dX5_leastTooMuch_1 : decode cX5_leastTooMuch 1 = .ok (.istore_n 2, 1) := by decide +kernel
theorem dX5_leastTooMuch_2 : decode cX5_leastTooMuch 2 = .ok (.bipush 100, 2) := by decide +kernel
theorem dX5_leastTooMuch_4 : decode cX5_leastTooMuch 4 = .ok (.istore_n 3, 1) := by decide +kernel
theorem dX5_leastTooMuch_5 : decode cX5_leastTooMuch 5 = .ok (.iconst 0, 1) := by decide +kernel
theorem dX5_leastTooMuch_6 : decode cX5_leastTooMuch 6 = .ok (.istore 4, 2) := by decide +kernel
theorem dX5_leastTooMuch_8 : decode cX5_leastTooMuch 8 = .ok (.iload 4, 2) := by decide +kernel
theorem dX5_leastTooMuch_10 : decode cX5_leastTooMuch 10 = .ok (.bipush 100, 2) := by decide +kernel
theorem dX5_leastTooMuch_12 : decode cX5_leastTooMuch 12 = .ok (.if_icmp .ge 42, 3) := by decide +kernel
theorem dX5_leastTooMuch_15 : decode cX5_leastTooMuch 15 = .ok (.iload_n 3, 1) := by decide +kernel
theorem dX5_leastTooMuch_16 : decode cX5_leastTooMuch 16 = .ok (.iload_n 2, 1) := by decide +kernel
theorem dX5_leastTooMuch_17 : decode cX5_leastTooMuch 17 = .ok (.isub, 1) := by decide +kernel
theorem dX5_leastTooMuch_18 : decode cX5_leastTooMuch 18 = .ok (.iconst 1, 1) := by decide +kernel
theorem dX5_leastTooMuch_19 : decode cX5_leastTooMuch 19 = .ok (.if_icmp .le 35, 3) := by decide +kernel
theorem dX5_leastTooMuch_22 : decode cX5_leastTooMuch 22 = .ok (.iload_n 2, 1) := by decide +kernel
theorem dX5_leastTooMuch_23 : decode cX5_leastTooMuch 23 = .ok (.iload_n 3, 1) := by decide +kernel
theorem dX5_leastTooMuch_24 : decode cX5_leastTooMuch 24 = .ok (.iadd, 1) := by decide +kernel
theorem dX5_leastTooMuch_25 : decode cX5_leastTooMuch 25 = .ok (.iconst 2, 1) := by decide +kernel
theorem dX5_leastTooMuch_26 : decode cX5_leastTooMuch 26 = .ok (.idiv, 1) := by decide +kernel
theorem dX5_leastTooMuch_27 : decode cX5_leastTooMuch 27 = .ok (.istore 5, 2) := by decide +kernel
theorem dX5_leastTooMuch_29 : decode cX5_leastTooMuch 29 = .ok (.aload_n 0, 1) := by decide +kernel
theorem dX5_leastTooMuch_30 : decode cX5_leastTooMuch 30 = .ok (.iload_n 1, 1) := by decide +kernel
theorem dX5_leastTooMuch_31 : decode cX5_leastTooMuch 31 = .ok (.iload 5, 2) := by decide +kernel
theorem dX5_leastTooMuch_33 : decode cX5_leastTooMuch 33 = .ok (.invokevirtual 200, 3) := by decide +kernel
theorem dX5_leastTooMuch_36 : decode cX5_leastTooMuch 36 = .ok (.ifCond .eq 9, 3) := by decide +kernel
theorem dX5_leastTooMuch_39 : decode cX5_leastTooMuch 39 = .ok (.iload 5, 2) := by decide +kernel
theorem dX5_leastTooMuch_41 : decode cX5_leastTooMuch 41 = .ok (.istore_n 2, 1) := by decide +kernel
theorem dX5_leastTooMuch_42 : decode cX5_leastTooMuch 42 = .ok (.goto 6, 3) := by decide +kernel
theorem dX5_leastTooMuch_45 : decode cX5_leastTooMuch 45 = .ok (.iload 5, 2) := by decide +kernel
theorem dX5_leastTooMuch_47 : decode cX5_leastTooMuch 47 = .ok (.istore_n 3, 1) := by decide +kernel
theorem dX5_leastTooMuch_48 : decode cX5_leastTooMuch 48 = .ok (.iinc 4 1, 3) := by decide +kernel
theorem dX5_leastTooMuch_51 : decode cX5_leastTooMuch 51 = .ok (.goto (-43), 3) := by decide +kernel
theorem dX5_leastTooMuch_54 : decode cX5_leastTooMuch 54 = .ok (.iload_n 3, 1) := by decide +kernel
theorem dX5_leastTooMuch_55 : decode cX5_leastTooMuch 55 = .ok (.ireturn, 1) := by decide +kernel
theorem dX5_isSide_0 : decode cX5_isSide 0 = .ok (.iload_n 0, 1) := by decide +kernel
theorem dX5_isSide_1 : decode cX5_isSide 1 = .ok (.ifCond .eq 8, 3) := by decide +kernel
theorem dX5_isSide_4 : decode cX5_isSide 4 = .ok (.iload_n 0, 1) := by decide +kernel
theorem dX5_isSide_5 : decode cX5_isSide 5 = .ok (.iconst 1, 1) := by decide +kernel
theorem dX5_isSide_6 : decode cX5_isSide 6 = .ok (.if_icmp .ne 7, 3) := by decide +kernel
theorem dX5_isSide_9 : decode cX5_isSide 9 = .ok (.iconst 1, 1) := by decide +kernel
theorem dX5_isSide_10 : decode cX5_isSide 10 = .ok (.goto 4, 3) := by decide +kernel
theorem dX5_isSide_13 : decode cX5_isSide 13 = .ok (.iconst 0, 1) := by decide +kernel
theorem dX5_isSide_14 : decode cX5_isSide 14 = .ok (.ireturn, 1) := by decide +kernel
theorem dX5_isWithin_0 : decode cX5_isWithin 0 = .ok (.iload_n 0, 1) := by decide +kernel
theorem dX5_isWithin_1 : decode cX5_isWithin 1 = .ok (.iload_n 1, 1) := by decide +kernel
theorem dX5_isWithin_2 : decode cX5_isWithin 2 = .ok (.if_icmp .lt 12, 3) := by decide +kernel
theorem dX5_isWithin_5 : decode cX5_isWithin 5 = .ok (.iload_n 0, 1) := by decide +kernel
theorem dX5_isWithin_6 : decode cX5_isWithin 6 = .ok (.iload_n 2, 1) := by decide +kernel
theorem dX5_isWithin_7 : decode cX5_isWithin 7 = .ok (.if_icmp .gt 7, 3) := by decide +kernel
theorem dX5_isWithin_10 : decode cX5_isWithin 10 = .ok (.iconst 1, 1) := by decide +kernel
theorem dX5_isWithin_11 : decode cX5_isWithin 11 = .ok (.goto 4, 3) := by decide +kernel
theorem dX5_isWithin_14 : decode cX5_isWithin 14 = .ok (.iconst 0, 1) := by decide +kernel
theorem dX5_isWithin_15 : decode cX5_isWithin 15 = .ok (.ireturn, 1) := by decide +kernel
theorem dX5_bit_0 : decode cX5_bit 0 = .ok (.iload_n 0, 1) := by decide +kernel
theorem dX5_bit_1 : decode cX5_bit 1 = .ok (.iload_n 1, 1) := by decide +kernel
theorem dX5_bit_2 : decode cX5_bit 2 = .ok (.iushr, 1) := by decide +kernel
theorem dX5_bit_3 : decode cX5_bit 3 = .ok (.iconst 1, 1) := by decide +kernel
theorem dX5_bit_4 : decode cX5_bit 4 = .ok (.iand, 1) := by decide +kernel
theorem dX5_bit_5 : decode cX5_bit 5 = .ok (.ireturn, 1) := by decide +kernel
theorem dX5_withBit_0 : decode cX5_withBit 0 = .ok (.iload_n 2, 1) := by decide +kernel
theorem dX5_withBit_1 : decode cX5_withBit 1 = .ok (.ifCond .eq 11, 3) := by decide +kernel
theorem dX5_withBit_4 : decode cX5_withBit 4 = .ok (.iload_n 0, 1) := by decide +kernel
theorem dX5_withBit_5 : decode cX5_withBit 5 = .ok (.iconst 1, 1) := by decide +kernel
theorem dX5_withBit_6 : decode cX5_withBit 6 = .ok (.iload_n 1, 1) := by decide +kernel
theorem dX5_withBit_7 : decode cX5_withBit 7 = .ok (.ishl, 1) := by decide +kernel
theorem dX5_withBit_8 : decode cX5_withBit 8 = .ok (.ior, 1) := by decide +kernel
theorem dX5_withBit_9 : decode cX5_withBit 9 = .ok (.goto 10, 3) := by decide +kernel
theorem dX5_withBit_12 : decode cX5_withBit 12 = .ok (.iload_n 0, 1) := by decide +kernel
theorem dX5_withBit_13 : decode cX5_withBit 13 = .ok (.iconst 1, 1) := by decide +kernel
theorem dX5_withBit_14 : decode cX5_withBit 14 = .ok (.iload_n 1, 1) := by decide +kernel
theorem dX5_withBit_15 : decode cX5_withBit 15 = .ok (.ishl, 1) := by decide +kernel
theorem dX5_withBit_16 : decode cX5_withBit 16 = .ok (.iconst (-1), 1) := by decide +kernel
theorem dX5_withBit_17 : decode cX5_withBit 17 = .ok (.ixor, 1) := by decide +kernel
theorem dX5_withBit_18 : decode cX5_withBit 18 = .ok (.iand, 1) := by decide +kernel
theorem dX5_withBit_19 : decode cX5_withBit 19 = .ok (.ireturn, 1) := by decide +kernel
theorem dX6_init_0 : decode cX6_init 0 = .ok (.aload_n 0, 1) := by decide +kernel
theorem dX6_init_1 : decode cX6_init 1 = .ok (.invokespecial 1, 3) := by decide +kernel
theorem dX6_init_4 : decode cX6_init 4 = .ok (.aload_n 0, 1) := by decide +kernel
theorem dX6_init_5 : decode cX6_init 5 = .ok (.sipush 1000, 3) := by decide +kernel
theorem dX6_init_8 : decode cX6_init 8 = .ok (.putfield 7, 3) := by decide +kernel
theorem dX6_init_11 : decode cX6_init 11 = .ok (.aload_n 0, 1) := by decide +kernel
theorem dX6_init_12 : decode cX6_init 12 = .ok (.bipush 6, 2) := by decide +kernel
theorem dX6_init_14 : decode cX6_init 14 = .ok (.newarray .int, 2) := by decide +kernel
theorem dX6_init_16 : decode cX6_init 16 = .ok (.putfield 13, 3) := by decide +kernel
theorem dX6_init_19 : decode cX6_init 19 = .ok (.aload_n 0, 1) := by decide +kernel
theorem dX6_init_20 : decode cX6_init 20 = .ok (.bipush 6, 2) := by decide +kernel
theorem dX6_init_22 : decode cX6_init 22 = .ok (.newarray .int, 2) := by decide +kernel
theorem dX6_init_24 : decode cX6_init 24 = .ok (.putfield 17, 3) := by decide +kernel
theorem dX6_init_27 : decode cX6_init 27 = .ok (.aload_n 0, 1) := by decide +kernel
theorem dX6_init_28 : decode cX6_init 28 = .ok (.bipush 24, 2) := by decide +kernel
theorem dX6_init_30 : decode cX6_init 30 = .ok (.newarray .int, 2) := by decide +kernel
theorem dX6_init_32 : decode cX6_init 32 = .ok (.putfield 20, 3) := by decide +kernel
theorem dX6_init_35 : decode cX6_init 35 = .ok (.aload_n 0, 1) := by decide +kernel
theorem dX6_init_36 : decode cX6_init 36 = .ok (.bipush 24, 2) := by decide +kernel
theorem dX6_init_38 : decode cX6_init 38 = .ok (.newarray .int, 2) := by decide +kernel
theorem dX6_init_40 : decode cX6_init 40 = .ok (.putfield 23, 3) := by decide +kernel
theorem dX6_init_43 : decode cX6_init 43 = .ok (.aload_n 0, 1) := by decide +kernel
theorem dX6_init_44 : decode cX6_init 44 = .ok (.bipush 24, 2) := by decide +kernel
theorem dX6_init_46 : decode cX6_init 46 = .ok (.newarray .int, 2) := by decide +kernel
theorem dX6_init_48 : decode cX6_init 48 = .ok (.putfield 26, 3) := by decide +kernel
theorem dX6_init_51 : decode cX6_init 51 = .ok (.aload_n 0, 1) := by decide +kernel
theorem dX6_init_52 : decode cX6_init 52 = .ok (.bipush 24, 2) := by decide +kernel
theorem dX6_init_54 : decode cX6_init 54 = .ok (.newarray .int, 2) := by decide +kernel
theorem dX6_init_56 : decode cX6_init 56 = .ok (.putfield 29, 3) := by decide +kernel
theorem dX6_init_59 : decode cX6_init 59 = .ok (.aload_n 0, 1) := by decide +kernel
theorem dX6_init_60 : decode cX6_init 60 = .ok (.bipush 24, 2) := by decide +kernel
theorem dX6_init_62 : decode cX6_init 62 = .ok (.newarray .boolean, 2) := by decide +kernel
theorem dX6_init_64 : decode cX6_init 64 = .ok (.putfield 32, 3) := by decide +kernel
theorem dX6_init_67 : decode cX6_init 67 = .ok (.aload_n 0, 1) := by decide +kernel
theorem dX6_init_68 : decode cX6_init 68 = .ok (.bipush 24, 2) := by decide +kernel
theorem dX6_init_70 : decode cX6_init 70 = .ok (.newarray .boolean, 2) := by decide +kernel
theorem dX6_init_72 : decode cX6_init 72 = .ok (.putfield 36, 3) := by decide +kernel
theorem dX6_init_75 : decode cX6_init 75 = .ok (.aload_n 0, 1) := by decide +kernel
theorem dX6_init_76 : decode cX6_init 76 = .ok (.bipush 24, 2) := by decide +kernel
theorem dX6_init_78 : decode cX6_init 78 = .ok (.newarray .boolean, 2) := by decide +kernel
theorem dX6_init_80 : decode cX6_init 80 = .ok (.putfield 39, 3) := by decide +kernel
theorem dX6_init_83 : decode cX6_init 83 = .ok (.aload_n 0, 1) := by decide +kernel
theorem dX6_init_84 : decode cX6_init 84 = .ok (.bipush 24, 2) := by decide +kernel
theorem dX6_init_86 : decode cX6_init 86 = .ok (.newarray .int, 2) := by decide +kernel
theorem dX6_init_88 : decode cX6_init 88 = .ok (.putfield 42, 3) := by decide +kernel
theorem dX6_init_91 : decode cX6_init 91 = .ok (.aload_n 0, 1) := by decide +kernel
theorem dX6_init_92 : decode cX6_init 92 = .ok (.bipush 24, 2) := by decide +kernel
theorem dX6_init_94 : decode cX6_init 94 = .ok (.newarray .int, 2) := by decide +kernel
theorem dX6_init_96 : decode cX6_init 96 = .ok (.putfield 45, 3) := by decide +kernel
theorem dX6_init_99 : decode cX6_init 99 = .ok (.aload_n 0, 1) := by decide +kernel
theorem dX6_init_100 : decode cX6_init 100 = .ok (.bipush 24, 2) := by decide +kernel
theorem dX6_init_102 : decode cX6_init 102 = .ok (.newarray .boolean, 2) := by decide +kernel
theorem dX6_init_104 : decode cX6_init 104 = .ok (.putfield 48, 3) := by decide +kernel
theorem dX6_init_107 : decode cX6_init 107 = .ok (.aload_n 0, 1) := by decide +kernel
theorem dX6_init_108 : decode cX6_init 108 = .ok (.bipush 24, 2) := by decide +kernel
theorem dX6_init_110 : decode cX6_init 110 = .ok (.newarray .int, 2) := by decide +kernel
theorem dX6_init_112 : decode cX6_init 112 = .ok (.putfield 51, 3) := by decide +kernel
theorem dX6_init_115 : decode cX6_init 115 = .ok (.aload_n 0, 1) := by decide +kernel
theorem dX6_init_116 : decode cX6_init 116 = .ok (.bipush 24, 2) := by decide +kernel
theorem dX6_init_118 : decode cX6_init 118 = .ok (.newarray .boolean, 2) := by decide +kernel
theorem dX6_init_120 : decode cX6_init 120 = .ok (.putfield 54, 3) := by decide +kernel
theorem dX6_init_123 : decode cX6_init 123 = .ok (.aload_n 0, 1) := by decide +kernel
theorem dX6_init_124 : decode cX6_init 124 = .ok (.bipush 25, 2) := by decide +kernel
theorem dX6_init_126 : decode cX6_init 126 = .ok (.newarray .long, 2) := by decide +kernel
theorem dX6_init_128 : decode cX6_init 128 = .ok (.putfield 57, 3) := by decide +kernel
theorem dX6_init_131 : decode cX6_init 131 = .ok (.aload_n 0, 1) := by decide +kernel
theorem dX6_init_132 : decode cX6_init 132 = .ok (.bipush 25, 2) := by decide +kernel
theorem dX6_init_134 : decode cX6_init 134 = .ok (.newarray .long, 2) := by decide +kernel
theorem dX6_init_136 : decode cX6_init 136 = .ok (.putfield 61, 3) := by decide +kernel
theorem dX6_init_139 : decode cX6_init 139 = .ok (.aload_n 0, 1) := by decide +kernel
theorem dX6_init_140 : decode cX6_init 140 = .ok (.bipush 25, 2) := by decide +kernel
theorem dX6_init_142 : decode cX6_init 142 = .ok (.newarray .long, 2) := by decide +kernel
theorem dX6_init_144 : decode cX6_init 144 = .ok (.putfield 64, 3) := by decide +kernel
theorem dX6_init_147 : decode cX6_init 147 = .ok (.aload_n 0, 1) := by decide +kernel
theorem dX6_init_148 : decode cX6_init 148 = .ok (.bipush 25, 2) := by decide +kernel
theorem dX6_init_150 : decode cX6_init 150 = .ok (.newarray .long, 2) := by decide +kernel
theorem dX6_init_152 : decode cX6_init 152 = .ok (.putfield 67, 3) := by decide +kernel
theorem dX6_init_155 : decode cX6_init 155 = .ok (.aload_n 0, 1) := by decide +kernel
theorem dX6_init_156 : decode cX6_init 156 = .ok (.bipush 25, 2) := by decide +kernel
theorem dX6_init_158 : decode cX6_init 158 = .ok (.newarray .long, 2) := by decide +kernel
theorem dX6_init_160 : decode cX6_init 160 = .ok (.putfield 70, 3) := by decide +kernel
theorem dX6_init_163 : decode cX6_init 163 = .ok (.aload_n 0, 1) := by decide +kernel
theorem dX6_init_164 : decode cX6_init 164 = .ok (.bipush 25, 2) := by decide +kernel
theorem dX6_init_166 : decode cX6_init 166 = .ok (.newarray .long, 2) := by decide +kernel
theorem dX6_init_168 : decode cX6_init 168 = .ok (.putfield 73, 3) := by decide +kernel
theorem dX6_init_171 : decode cX6_init 171 = .ok (.aload_n 0, 1) := by decide +kernel
theorem dX6_init_172 : decode cX6_init 172 = .ok (.sipush 144, 3) := by decide +kernel
theorem dX6_init_175 : decode cX6_init 175 = .ok (.newarray .boolean, 2) := by decide +kernel
theorem dX6_init_177 : decode cX6_init 177 = .ok (.putfield 76, 3) := by decide +kernel
theorem dX6_init_180 : decode cX6_init 180 = .ok (.aload_n 0, 1) := by decide +kernel
theorem dX6_init_181 : decode cX6_init 181 = .ok (.iconst 5, 1) := by decide +kernel
theorem dX6_init_182 : decode cX6_init 182 = .ok (.newarray .int, 2) := by decide +kernel
theorem dX6_init_184 : decode cX6_init 184 = .ok (.putfield 79, 3) := by decide +kernel
theorem dX6_init_187 : decode cX6_init 187 = .ok (.aload_n 0, 1) := by decide +kernel
theorem dX6_init_188 : decode cX6_init 188 = .ok (.iconst 5, 1) := by decide +kernel
theorem dX6_init_189 : decode cX6_init 189 = .ok (.newarray .int, 2) := by decide +kernel
theorem dX6_init_191 : decode cX6_init 191 = .ok (.putfield 82, 3) := by decide +kernel
theorem dX6_init_194 : decode cX6_init 194 = .ok (.aload_n 0, 1) := by decide +kernel
theorem dX6_init_195 : decode cX6_init 195 = .ok (.iconst 5, 1) := by decide +kernel
theorem dX6_init_196 : decode cX6_init 196 = .ok (.newarray .int, 2) := by decide +kernel
theorem dX6_init_198 : decode cX6_init 198 = .ok (.putfield 85, 3) := by decide +kernel
theorem dX6_init_201 : decode cX6_init 201 = .ok (.aload_n 0, 1) := by decide +kernel
theorem dX6_init_202 : decode cX6_init 202 = .ok (.iconst 2, 1) := by decide +kernel
theorem dX6_init_203 : decode cX6_init 203 = .ok (.putfield 88, 3) := by decide +kernel
theorem dX6_init_206 : decode cX6_init 206 = .ok (.aload_n 0, 1) := by decide +kernel
theorem dX6_init_207 : decode cX6_init 207 = .ok (.iconst 2, 1) := by decide +kernel
theorem dX6_init_208 : decode cX6_init 208 = .ok (.putfield 91, 3) := by decide +kernel
theorem dX6_init_211 : decode cX6_init 211 = .ok (.aload_n 0, 1) := by decide +kernel
theorem dX6_init_212 : decode cX6_init 212 = .ok (.sipush 256, 3) := by decide +kernel
theorem dX6_init_215 : decode cX6_init 215 = .ok (.newarray .int, 2) := by decide +kernel
theorem dX6_init_217 : decode cX6_init 217 = .ok (.putfield 94, 3) := by decide +kernel
theorem dX6_init_220 : decode cX6_init 220 = .ok (.aload_n 0, 1) := by decide +kernel
theorem dX6_init_221 : decode cX6_init 221 = .ok (.bipush 24, 2) := by decide +kernel
theorem dX6_init_223 : decode cX6_init 223 = .ok (.newarray .boolean, 2) := by decide +kernel
theorem dX6_init_225 : decode cX6_init 225 = .ok (.putfield 97, 3) := by decide +kernel
theorem dX6_init_228 : decode cX6_init 228 = .ok (.aload_n 0, 1) := by decide +kernel
theorem dX6_init_229 : decode cX6_init 229 = .ok (.bipush 24, 2) := by decide +kernel
theorem dX6_init_231 : decode cX6_init 231 = .ok (.newarray .int, 2) := by decide +kernel
theorem dX6_init_233 : decode cX6_init 233 = .ok (.putfield 100, 3) := by decide +kernel
theorem dX6_init_236 : decode cX6_init 236 = .ok (.aload_n 0, 1) := by decide +kernel
theorem dX6_init_237 : decode cX6_init 237 = .ok (.bipush 24, 2) := by decide +kernel
theorem dX6_init_239 : decode cX6_init 239 = .ok (.newarray .int, 2) := by decide +kernel
theorem dX6_init_241 : decode cX6_init 241 = .ok (.putfield 103, 3) := by decide +kernel
theorem dX6_init_244 : decode cX6_init 244 = .ok (.aload_n 0, 1) := by decide +kernel
theorem dX6_init_245 : decode cX6_init 245 = .ok (.bipush 24, 2) := by decide +kernel
theorem dX6_init_247 : decode cX6_init 247 = .ok (.newarray .int, 2) := by decide +kernel
theorem dX6_init_249 : decode cX6_init 249 = .ok (.putfield 106, 3) := by decide +kernel
theorem dX6_init_252 : decode cX6_init 252 = .ok (.return_, 1) := by decide +kernel
theorem dX6_in_0 : decode cX6_in 0 = .ok (.lload_n 0, 1) := by decide +kernel
theorem dX6_in_1 : decode cX6_in 1 = .ok (.lload_n 2, 1) := by decide +kernel
theorem dX6_in_2 : decode cX6_in 2 = .ok (.lcmp, 1) := by decide +kernel
theorem dX6_in_3 : decode cX6_in 3 = .ok (.ifCond .lt 14, 3) := by decide +kernel
theorem dX6_in_6 : decode cX6_in 6 = .ok (.lload_n 0, 1) := by decide +kernel
theorem dX6_in_7 : decode cX6_in 7 = .ok (.lload 4, 2) := by decide +kernel
theorem dX6_in_9 : decode cX6_in 9 = .ok (.lcmp, 1) := by decide +kernel
theorem dX6_in_10 : decode cX6_in 10 = .ok (.ifCond .gt 7, 3) := by decide +kernel
theorem dX6_in_13 : decode cX6_in 13 = .ok (.iconst 1, 1) := by decide +kernel
theorem dX6_in_14 : decode cX6_in 14 = .ok (.goto 4, 3) := by decide +kernel
theorem dX6_in_17 : decode cX6_in 17 = .ok (.iconst 0, 1) := by decide +kernel
theorem dX6_in_18 : decode cX6_in 18 = .ok (.ireturn, 1) := by decide +kernel
theorem dX6_isPipe_0 : decode cX6_isPipe 0 = .ok (.iload_n 1, 1) := by decide +kernel
theorem dX6_isPipe_1 : decode cX6_isPipe 1 = .ok (.i2l, 1) := by decide +kernel
theorem dX6_isPipe_2 : decode cX6_isPipe 2 = .ok (.lconst 0, 1) := by decide +kernel
theorem dX6_isPipe_3 : decode cX6_isPipe 3 = .ok (.aload_n 0, 1) := by decide +kernel
theorem dX6_isPipe_4 : decode cX6_isPipe 4 = .ok (.getfield 109, 3) := by decide +kernel
theorem dX6_isPipe_7 : decode cX6_isPipe 7 = .ok (.iconst 1, 1) := by decide +kernel
theorem dX6_isPipe_8 : decode cX6_isPipe 8 = .ok (.isub, 1) := by decide +kernel
theorem dX6_isPipe_9 : decode cX6_isPipe 9 = .ok (.i2l, 1) := by decide +kernel
theorem dX6_isPipe_10 : decode cX6_isPipe 10 = .ok (.invokestatic 112, 3) := by decide +kernel
theorem dX6_isPipe_13 : decode cX6_isPipe 13 = .ok (.ireturn, 1) := by decide +kernel
theorem dX6_isHead_0 : decode cX6_isHead 0 = .ok (.aload_n 0, 1) := by decide +kernel
theorem dX6_isHead_1 : decode cX6_isHead 1 = .ok (.iload_n 1, 1) := by decide +kernel
theorem dX6_isHead_2 : decode cX6_isHead 2 = .ok (.invokevirtual 116, 3) := by decide +kernel
theorem dX6_isHead_5 : decode cX6_isHead 5 = .ok (.ifCond .eq 16, 3) := by decide +kernel
theorem dX6_isHead_8 : decode cX6_isHead 8 = .ok (.aload_n 0, 1) := by decide +kernel
theorem dX6_isHead_9 : decode cX6_isHead 9 = .ok (.getfield 39, 3) := by decide +kernel
theorem dX6_isHead_12 : decode cX6_isHead 12 = .ok (.iload_n 1, 1) := by decide +kernel
theorem dX6_isHead_13 : decode cX6_isHead 13 = .ok (.baload, 1) := by decide +kernel
theorem dX6_isHead_14 : decode cX6_isHead 14 = .ok (.ifCond .eq 7, 3) := by decide +kernel
theorem dX6_isHead_17 : decode cX6_isHead 17 = .ok (.iconst 1, 1) := by decide +kernel
theorem dX6_isHead_18 : decode cX6_isHead 18 = .ok (.goto 4, 3) := by decide +kernel
theorem dX6_isHead_21 : decode cX6_isHead 21 = .ok (.iconst 0, 1) := by decide +kernel
theorem dX6_isHead_22 : decode cX6_isHead 22 = .ok (.ireturn, 1) := by decide +kernel
theorem dX6_supply_0 : decode cX6_supply 0 = .ok (.iload_n 1, 1) := by decide +kernel
theorem dX6_supply_1 : decode cX6_supply 1 = .ok (.i2l, 1) := by decide +kernel
theorem dX6_supply_2 : decode cX6_supply 2 = .ok (.lconst 1, 1) := by decide +kernel
theorem dX6_supply_3 : decode cX6_supply 3 = .ok (.ldc2_w 120, 3) := by decide +kernel
theorem dX6_supply_6 : decode cX6_supply 6 = .ok (.invokestatic 112, 3) := by decide +kernel
theorem dX6_supply_9 : decode cX6_supply 9 = .ok (.ifCond .eq 15, 3) := by decide +kernel
theorem dX6_supply_12 : decode cX6_supply 12 = .ok (.iload_n 2, 1) := by decide +kernel
theorem dX6_supply_13 : decode cX6_supply 13 = .ok (.i2l, 1) := by decide +kernel
theorem dX6_supply_14 : decode cX6_supply 14 = .ok (.lconst 0, 1) := by decide +kernel
theorem dX6_supply_15 : decode cX6_supply 15 = .ok (.ldc2_w 122, 3) := by decide +kernel
theorem dX6_supply_18 : decode cX6_supply 18 = .ok (.invokestatic 112, 3) := by decide +kernel
theorem dX6_supply_21 : decode cX6_supply 21 = .ok (.ifCond .ne 6, 3) := by decide +kernel
theorem dX6_supply_24 : decode cX6_supply 24 = .ok (.bipush (-2), 2) := by decide +kernel
theorem dX6_supply_26 : decode cX6_supply 26 = .ok (.ireturn, 1) := by decide +kernel
theorem dX6_supply_27 : decode cX6_supply 27 = .ok (.aload_n 0, 1) := by decide +kernel
theorem dX6_supply_28 : decode cX6_supply 28 = .ok (.iload_n 1, 1) := by decide +kernel
theorem dX6_supply_29 : decode cX6_supply 29 = .ok (.putfield 7, 3) := by decide +kernel
theorem dX6_supply_32 : decode cX6_supply 32 = .ok (.aload_n 0, 1) := by decide +kernel
theorem dX6_supply_33 : decode cX6_supply 33 = .ok (.iload_n 2, 1) := by decide +kernel
theorem dX6_supply_34 : decode cX6_supply 34 = .ok (.putfield 124, 3) := by decide +kernel
theorem dX6_supply_37 : decode cX6_supply 37 = .ok (.iconst 1, 1) := by decide +kernel
theorem dX6_supply_38 : decode cX6_supply 38 = .ok (.ireturn, 1) := by decide +kernel
theorem dX6_size_0 : decode cX6_size 0 = .ok (.iload_n 1, 1) := by decide +kernel
theorem dX6_size_1 : decode cX6_size 1 = .ok (.i2l, 1) := by decide +kernel
theorem dX6_size_2 : decode cX6_size 2 = .ok (.lconst 1, 1) := by decide +kernel
theorem dX6_size_3 : decode cX6_size 3 = .ok (.ldc2_w 127, 3) := by decide +kernel
theorem dX6_size_6 : decode cX6_size 6 = .ok (.invokestatic 112, 3) := by decide +kernel
theorem dX6_size_9 : decode cX6_size 9 = .ok (.ifCond .eq 15, 3) := by decide +kernel
theorem dX6_size_12 : decode cX6_size 12 = .ok (.iload_n 2, 1) := by decide +kernel
theorem dX6_size_13 : decode cX6_size 13 = .ok (.i2l, 1) := by decide +kernel
theorem dX6_size_14 : decode cX6_size 14 = .ok (.lconst 1, 1) := by decide +kernel
theorem dX6_size_15 : decode cX6_size 15 = .ok (.ldc2_w 129, 3) := by decide +kernel
theorem dX6_size_18 : decode cX6_size 18 = .ok (.invokestatic 112, 3) := by decide +kernel
theorem dX6_size_21 : decode cX6_size 21 = .ok (.ifCond .ne 6, 3) := by decide +kernel
theorem dX6_size_24 : decode cX6_size 24 = .ok (.bipush (-2), 2) := by decide +kernel
theorem dX6_size_26 : decode cX6_size 26 = .ok (.ireturn, 1) := by decide +kernel
theorem dX6_size_27 : decode cX6_size 27 = .ok (.aload_n 0, 1) := by decide +kernel
theorem dX6_size_28 : decode cX6_size 28 = .ok (.getfield 131, 3) := by decide +kernel
theorem dX6_size_31 : decode cX6_size 31 = .ok (.bipush 6, 2) := by decide +kernel
theorem dX6_size_33 : decode cX6_size 33 = .ok (.if_icmp .ne 6, 3) := by decide +kernel
theorem dX6_size_36 : decode cX6_size 36 = .ok (.bipush (-4), 2) := by decide +kernel
theorem dX6_size_38 : decode cX6_size 38 = .ok (.ireturn, 1) := by decide +kernel
theorem dX6_size_39 : decode cX6_size 39 = .ok (.aload_n 0, 1) := by decide +kernel
theorem dX6_size_40 : decode cX6_size 40 = .ok (.getfield 13, 3) := by decide +kernel
theorem dX6_size_43 : decode cX6_size 43 = .ok (.aload_n 0, 1) := by decide +kernel
theorem dX6_size_44 : decode cX6_size 44 = .ok (.getfield 131, 3) := by decide +kernel
theorem dX6_size_47 : decode cX6_size 47 = .ok (.iload_n 1, 1) := by decide +kernel
theorem dX6_size_48 : decode cX6_size 48 = .ok (.iastore, 1) := by decide +kernel
theorem dX6_size_49 : decode cX6_size 49 = .ok (.aload_n 0, 1) := by decide +kernel
theorem dX6_size_50 : decode cX6_size 50 = .ok (.getfield 17, 3) := by decide +kernel
theorem dX6_size_53 : decode cX6_size 53 = .ok (.aload_n 0, 1) := by decide +kernel
theorem dX6_size_54 : decode cX6_size 54 = .ok (.getfield 131, 3) := by decide +kernel
theorem dX6_size_57 : decode cX6_size 57 = .ok (.iload_n 2, 1) := by decide +kernel
theorem dX6_size_58 : decode cX6_size 58 = .ok (.iastore, 1) := by decide +kernel
theorem dX6_size_59 : decode cX6_size 59 = .ok (.aload_n 0, 1) := by decide +kernel
theorem dX6_size_60 : decode cX6_size 60 = .ok (.dup, 1) := by decide +kernel
theorem dX6_size_61 : decode cX6_size 61 = .ok (.getfield 131, 3) := by decide +kernel
theorem dX6_size_64 : decode cX6_size 64 = .ok (.iconst 1, 1) := by decide +kernel
theorem dX6_size_65 : decode cX6_size 65 = .ok (.iadd, 1) := by decide +kernel
theorem dX6_size_66 : decode cX6_size 66 = .ok (.putfield 131, 3) := by decide +kernel
theorem dX6_size_69 : decode cX6_size 69 = .ok (.aload_n 0, 1) := by decide +kernel
theorem dX6_size_70 : decode cX6_size 70 = .ok (.getfield 131, 3) := by decide +kernel
theorem dX6_size_73 : decode cX6_size 73 = .ok (.iconst 1, 1) := by decide +kernel
theorem dX6_size_74 : decode cX6_size 74 = .ok (.isub, 1) := by decide +kernel
theorem dX6_size_75 : decode cX6_size 75 = .ok (.ireturn, 1) := by decide +kernel
theorem dX6_pipe_0 : decode cX6_pipe 0 = .ok (.iload_n 1, 1) := by decide +kernel
theorem dX6_pipe_1 : decode cX6_pipe 1 = .ok (.iconst (-1), 1) := by decide +kernel
theorem dX6_pipe_2 : decode cX6_pipe 2 = .ok (.if_icmp .eq 11, 3) := by decide +kernel
theorem dX6_pipe_5 : decode cX6_pipe 5 = .ok (.aload_n 0, 1) := by decide +kernel
theorem dX6_pipe_6 : decode cX6_pipe 6 = .ok (.iload_n 1, 1) := by decide +kernel
theorem dX6_pipe_7 : decode cX6_pipe 7 = .ok (.invokevirtual 116, 3) := by decide +kernel
theorem dX6_pipe_10 : decode cX6_pipe 10 = .ok (.ifCond .eq 19, 3) := by decide +kernel
theorem dX6_pipe_13 : decode cX6_pipe 13 = .ok (.iload_n 3, 1) := by decide +kernel
theorem dX6_pipe_14 : decode cX6_pipe 14 = .ok (.i2l, 1) := by decide +kernel
theorem dX6_pipe_15 : decode cX6_pipe 15 = .ok (.lconst 0, 1) := by decide +kernel
theorem dX6_pipe_16 : decode cX6_pipe 16 = .ok (.aload_n 0, 1) := by decide +kernel
theorem dX6_pipe_17 : decode cX6_pipe 17 = .ok (.getfield 131, 3) := by decide +kernel
theorem dX6_pipe_20 : decode cX6_pipe 20 = .ok (.iconst 1, 1) := by decide +kernel
theorem dX6_pipe_21 : decode cX6_pipe 21 = .ok (.isub, 1) := by decide +kernel
theorem dX6_pipe_22 : decode cX6_pipe 22 = .ok (.i2l, 1) := by decide +kernel
theorem dX6_pipe_23 : decode cX6_pipe 23 = .ok (.invokestatic 112, 3) := by decide +kernel
theorem dX6_pipe_26 : decode cX6_pipe 26 = .ok (.ifCond .ne 5, 3) := by decide +kernel
theorem dX6_pipe_29 : decode cX6_pipe 29 = .ok (.iconst (-1), 1) := by decide +kernel
theorem dX6_pipe_30 : decode cX6_pipe 30 = .ok (.ireturn, 1) := by decide +kernel
theorem dX6_pipe_31 : decode cX6_pipe 31 = .ok (.iload_n 2, 1) := by decide +kernel
theorem dX6_pipe_32 : decode cX6_pipe 32 = .ok (.i2l, 1) := by decide +kernel
theorem dX6_pipe_33 : decode cX6_pipe 33 = .ok (.lconst 1, 1) := by decide +kernel
theorem dX6_pipe_34 : decode cX6_pipe 34 = .ok (.ldc2_w 134, 3) := by decide +kernel
theorem dX6_pipe_37 : decode cX6_pipe 37 = .ok (.invokestatic 112, 3) := by decide +kernel
theorem dX6_pipe_40 : decode cX6_pipe 40 = .ok (.ifCond .ne 6, 3) := by decide +kernel
theorem dX6_pipe_43 : decode cX6_pipe 43 = .ok (.bipush (-2), 2) := by decide +kernel
theorem dX6_pipe_45 : decode cX6_pipe 45 = .ok (.ireturn, 1) := by decide +kernel
theorem dX6_pipe_46 : decode cX6_pipe 46 = .ok (.aload_n 0, 1) := by decide +kernel
theorem dX6_pipe_47 : decode cX6_pipe 47 = .ok (.getfield 109, 3) := by decide +kernel
theorem dX6_pipe_50 : decode cX6_pipe 50 = .ok (.bipush 24, 2) := by decide +kernel
theorem dX6_pipe_52 : decode cX6_pipe 52 = .ok (.if_icmp .ne 6, 3) := by decide +kernel
theorem dX6_pipe_55 : decode cX6_pipe 55 = .ok (.bipush (-4), 2) := by decide +kernel
theorem dX6_pipe_57 : decode cX6_pipe 57 = .ok (.ireturn, 1) := by decide +kernel
theorem dX6_pipe_58 : decode cX6_pipe 58 = .ok (.iload_n 1, 1) := by decide +kernel
theorem dX6_pipe_59 : decode cX6_pipe 59 = .ok (.ifCond .lt 17, 3) := by decide +kernel
theorem dX6_pipe_62 : decode cX6_pipe 62 = .ok (.aload_n 0, 1) := by decide +kernel
theorem dX6_pipe_63 : decode cX6_pipe 63 = .ok (.getfield 29, 3) := by decide +kernel
theorem dX6_pipe_66 : decode cX6_pipe 66 = .ok (.iload_n 1, 1) := by decide +kernel
theorem dX6_pipe_67 : decode cX6_pipe 67 = .ok (.iaload, 1) := by decide +kernel
theorem dX6_pipe_68 : decode cX6_pipe 68 = .ok (.bipush 8, 2) := by decide +kernel
theorem dX6_pipe_70 : decode cX6_pipe 70 = .ok (.if_icmp .ne 6, 3) := by decide +kernel
theorem dX6_pipe_73 : decode cX6_pipe 73 = .ok (.bipush (-5), 2) := by decide +kernel
theorem dX6_pipe_75 : decode cX6_pipe 75 = .ok (.ireturn, 1) := by decide +kernel
theorem dX6_pipe_76 : decode cX6_pipe 76 = .ok (.aload_n 0, 1) := by decide +kernel
theorem dX6_pipe_77 : decode cX6_pipe 77 = .ok (.getfield 20, 3) := by decide +kernel
theorem dX6_pipe_80 : decode cX6_pipe 80 = .ok (.aload_n 0, 1) := by decide +kernel
theorem dX6_pipe_81 : decode cX6_pipe 81 = .ok (.getfield 109, 3) := by decide +kernel
theorem dX6_pipe_84 : decode cX6_pipe 84 = .ok (.iload_n 1, 1) := by decide +kernel
theorem dX6_pipe_85 : decode cX6_pipe 85 = .ok (.iastore, 1) := by decide +kernel
theorem dX6_pipe_86 : decode cX6_pipe 86 = .ok (.aload_n 0, 1) := by decide +kernel
theorem dX6_pipe_87 : decode cX6_pipe 87 = .ok (.getfield 23, 3) := by decide +kernel
theorem dX6_pipe_90 : decode cX6_pipe 90 = .ok (.aload_n 0, 1) := by decide +kernel
theorem dX6_pipe_91 : decode cX6_pipe 91 = .ok (.getfield 109, 3) := by decide +kernel
theorem dX6_pipe_94 : decode cX6_pipe 94 = .ok (.iload_n 2, 1) := by decide +kernel
theorem dX6_pipe_95 : decode cX6_pipe 95 = .ok (.iastore, 1) := by decide +kernel
theorem dX6_pipe_96 : decode cX6_pipe 96 = .ok (.aload_n 0, 1) := by decide +kernel
theorem dX6_pipe_97 : decode cX6_pipe 97 = .ok (.getfield 26, 3) := by decide +kernel
theorem dX6_pipe_100 : decode cX6_pipe 100 = .ok (.aload_n 0, 1) := by decide +kernel
theorem dX6_pipe_101 : decode cX6_pipe 101 = .ok (.getfield 109, 3) := by decide +kernel
theorem dX6_pipe_104 : decode cX6_pipe 104 = .ok (.iload_n 3, 1) := by decide +kernel
theorem dX6_pipe_105 : decode cX6_pipe 105 = .ok (.iastore, 1) := by decide +kernel
theorem dX6_pipe_106 : decode cX6_pipe 106 = .ok (.aload_n 0, 1) := by decide +kernel
theorem dX6_pipe_107 : decode cX6_pipe 107 = .ok (.getfield 29, 3) := by decide +kernel
theorem dX6_pipe_110 : decode cX6_pipe 110 = .ok (.aload_n 0, 1) := by decide +kernel
theorem dX6_pipe_111 : decode cX6_pipe 111 = .ok (.getfield 109, 3) := by decide +kernel
theorem dX6_pipe_114 : decode cX6_pipe 114 = .ok (.iload_n 1, 1) := by decide +kernel
theorem dX6_pipe_115 : decode cX6_pipe 115 = .ok (.ifCond .ge 7, 3) := by decide +kernel
theorem dX6_pipe_118 : decode cX6_pipe 118 = .ok (.iconst 1, 1) := by decide +kernel
theorem dX6_pipe_119 : decode cX6_pipe 119 = .ok (.goto 11, 3) := by decide +kernel
theorem dX6_pipe_122 : decode cX6_pipe 122 = .ok (.aload_n 0, 1) := by decide +kernel
theorem dX6_pipe_123 : decode cX6_pipe 123 = .ok (.getfield 29, 3) := by decide +kernel
theorem dX6_pipe_126 : decode cX6_pipe 126 = .ok (.iload_n 1, 1) := by decide +kernel
theorem dX6_pipe_127 : decode cX6_pipe 127 = .ok (.iaload, 1) := by decide +kernel
theorem dX6_pipe_128 : decode cX6_pipe 128 = .ok (.iconst 1, 1) := by decide +kernel
theorem dX6_pipe_129 : decode cX6_pipe 129 = .ok (.iadd, 1) := by decide +kernel
theorem dX6_pipe_130 : decode cX6_pipe 130 = .ok (.iastore, 1) := by decide +kernel
theorem dX6_pipe_131 : decode cX6_pipe 131 = .ok (.aload_n 0, 1) := by decide +kernel
theorem dX6_pipe_132 : decode cX6_pipe 132 = .ok (.dup, 1) := by decide +kernel
theorem dX6_pipe_133 : decode cX6_pipe 133 = .ok (.getfield 109, 3) := by decide +kernel
theorem dX6_pipe_136 : decode cX6_pipe 136 = .ok (.iconst 1, 1) := by decide +kernel
theorem dX6_pipe_137 : decode cX6_pipe 137 = .ok (.iadd, 1) := by decide +kernel
theorem dX6_pipe_138 : decode cX6_pipe 138 = .ok (.putfield 109, 3) := by decide +kernel
theorem dX6_pipe_141 : decode cX6_pipe 141 = .ok (.aload_n 0, 1) := by decide +kernel
theorem dX6_pipe_142 : decode cX6_pipe 142 = .ok (.getfield 109, 3) := by decide +kernel
theorem dX6_pipe_145 : decode cX6_pipe 145 = .ok (.iconst 1, 1) := by decide +kernel
theorem dX6_pipe_146 : decode cX6_pipe 146 = .ok (.isub, 1) := by decide +kernel
theorem dX6_pipe_147 : decode cX6_pipe 147 = .ok (.ireturn, 1) := by decide +kernel
theorem dX6_head_0 : decode cX6_head 0 = .ok (.aload_n 0, 1) := by decide +kernel
theorem dX6_head_1 : decode cX6_head 1 = .ok (.iload_n 1, 1) := by decide +kernel
theorem dX6_head_2 : decode cX6_head 2 = .ok (.invokevirtual 116, 3) := by decide +kernel
theorem dX6_head_5 : decode cX6_head 5 = .ok (.ifCond .ne 5, 3) := by decide +kernel
theorem dX6_head_8 : decode cX6_head 8 = .ok (.iconst (-1), 1) := by decide +kernel
theorem dX6_head_9 : decode cX6_head 9 = .ok (.ireturn, 1) := by decide +kernel
theorem dX6_head_10 : decode cX6_head 10 = .ok (.iload_n 2, 1) := by decide +kernel
theorem dX6_head_11 : decode cX6_head 11 = .ok (.i2l, 1) := by decide +kernel
theorem dX6_head_12 : decode cX6_head 12 = .ok (.lconst 1, 1) := by decide +kernel
theorem dX6_head_13 : decode cX6_head 13 = .ok (.ldc2_w 136, 3) := by decide +kernel
theorem dX6_head_16 : decode cX6_head 16 = .ok (.invokestatic 112, 3) := by decide +kernel
theorem dX6_head_19 : decode cX6_head 19 = .ok (.ifCond .eq 15, 3) := by decide +kernel
theorem dX6_head_22 : decode cX6_head 22 = .ok (.iload_n 3, 1) := by decide +kernel
theorem dX6_head_23 : decode cX6_head 23 = .ok (.i2l, 1) := by decide +kernel
theorem dX6_head_24 : decode cX6_head 24 = .ok (.lconst 0, 1) := by decide +kernel
theorem dX6_head_25 : decode cX6_head 25 = .ok (.ldc2_w 138, 3) := by decide +kernel
theorem dX6_head_28 : decode cX6_head 28 = .ok (.invokestatic 112, 3) := by decide +kernel
theorem dX6_head_31 : decode cX6_head 31 = .ok (.ifCond .ne 6, 3) := by decide +kernel
theorem dX6_head_34 : decode cX6_head 34 = .ok (.bipush (-2), 2) := by decide +kernel
theorem dX6_head_36 : decode cX6_head 36 = .ok (.ireturn, 1) := by decide +kernel
theorem dX6_head_37 : decode cX6_head 37 = .ok (.aload_n 0, 1) := by decide +kernel
theorem dX6_head_38 : decode cX6_head 38 = .ok (.getfield 39, 3) := by decide +kernel
theorem dX6_head_41 : decode cX6_head 41 = .ok (.iload_n 1, 1) := by decide +kernel
theorem dX6_head_42 : decode cX6_head 42 = .ok (.iconst 1, 1) := by decide +kernel
theorem dX6_head_43 : decode cX6_head 43 = .ok (.bastore, 1) := by decide +kernel
theorem dX6_head_44 : decode cX6_head 44 = .ok (.aload_n 0, 1) := by decide +kernel
theorem dX6_head_45 : decode cX6_head 45 = .ok (.getfield 42, 3) := by decide +kernel
theorem dX6_head_48 : decode cX6_head 48 = .ok (.iload_n 1, 1) := by decide +kernel
theorem dX6_head_49 : decode cX6_head 49 = .ok (.iload_n 2, 1) := by decide +kernel
theorem dX6_head_50 : decode cX6_head 50 = .ok (.iastore, 1) := by decide +kernel
theorem dX6_head_51 : decode cX6_head 51 = .ok (.aload_n 0, 1) := by decide +kernel
theorem dX6_head_52 : decode cX6_head 52 = .ok (.getfield 45, 3) := by decide +kernel
theorem dX6_head_55 : decode cX6_head 55 = .ok (.iload_n 1, 1) := by decide +kernel
theorem dX6_head_56 : decode cX6_head 56 = .ok (.iload_n 3, 1) := by decide +kernel
theorem dX6_head_57 : decode cX6_head 57 = .ok (.iastore, 1) := by decide +kernel
theorem dX6_head_58 : decode cX6_head 58 = .ok (.aload_n 0, 1) := by decide +kernel
theorem dX6_head_59 : decode cX6_head 59 = .ok (.getfield 48, 3) := by decide +kernel
theorem dX6_head_62 : decode cX6_head 62 = .ok (.iload_n 1, 1) := by decide +kernel
theorem dX6_head_63 : decode cX6_head 63 = .ok (.iconst 0, 1) := by decide +kernel
theorem dX6_head_64 : decode cX6_head 64 = .ok (.bastore, 1) := by decide +kernel
theorem dX6_head_65 : decode cX6_head 65 = .ok (.aload_n 0, 1) := by decide +kernel
theorem dX6_head_66 : decode cX6_head 66 = .ok (.getfield 51, 3) := by decide +kernel
theorem dX6_head_69 : decode cX6_head 69 = .ok (.iload_n 1, 1) := by decide +kernel
theorem dX6_head_70 : decode cX6_head 70 = .ok (.iconst 0, 1) := by decide +kernel
theorem dX6_head_71 : decode cX6_head 71 = .ok (.iastore, 1) := by decide +kernel
theorem dX6_head_72 : decode cX6_head 72 = .ok (.iconst 1, 1) := by decide +kernel
theorem dX6_head_73 : decode cX6_head 73 = .ok (.ireturn, 1) := by decide +kernel
theorem dX6_open_0 : decode cX6_open 0 = .ok (.aload_n 0, 1) := by decide +kernel
theorem dX6_open_1 : decode cX6_open 1 = .ok (.iload_n 1, 1) := by decide +kernel
theorem dX6_open_2 : decode cX6_open 2 = .ok (.invokevirtual 140, 3) := by decide +kernel
theorem dX6_open_5 : decode cX6_open 5 = .ok (.ifCond .ne 5, 3) := by decide +kernel
theorem dX6_open_8 : decode cX6_open 8 = .ok (.iconst (-1), 1) := by decide +kernel
theorem dX6_open_9 : decode cX6_open 9 = .ok (.ireturn, 1) := by decide +kernel
theorem dX6_open_10 : decode cX6_open 10 = .ok (.aload_n 0, 1) := by decide +kernel
theorem dX6_open_11 : decode cX6_open 11 = .ok (.getfield 48, 3) := by decide +kernel
theorem dX6_open_14 : decode cX6_open 14 = .ok (.iload_n 1, 1) := by decide +kernel
theorem dX6_open_15 : decode cX6_open 15 = .ok (.baload, 1) := by decide +kernel
theorem dX6_open_16 : decode cX6_open 16 = .ok (.ifCond .eq 7, 3) := by decide +kernel
theorem dX6_open_19 : decode cX6_open 19 = .ok (.iconst 1, 1) := by decide +kernel
theorem dX6_open_20 : decode cX6_open 20 = .ok (.goto 4, 3) := by decide +kernel
theorem dX6_open_23 : decode cX6_open 23 = .ok (.iconst 0, 1) := by decide +kernel
theorem dX6_open_24 : decode cX6_open 24 = .ok (.istore_n 3, 1) := by decide +kernel
theorem dX6_open_25 : decode cX6_open 25 = .ok (.aload_n 0, 1) := by decide +kernel
theorem dX6_open_26 : decode cX6_open 26 = .ok (.getfield 48, 3) := by decide +kernel
theorem dX6_open_29 : decode cX6_open 29 = .ok (.iload_n 1, 1) := by decide +kernel
theorem dX6_open_30 : decode cX6_open 30 = .ok (.iload_n 2, 1) := by decide +kernel
theorem dX6_open_31 : decode cX6_open 31 = .ok (.bastore, 1) := by decide +kernel
theorem dX6_open_32 : decode cX6_open 32 = .ok (.iload_n 3, 1) := by decide +kernel
theorem dX6_open_33 : decode cX6_open 33 = .ok (.ireturn, 1) := by decide +kernel
theorem dX6_shut_0 : decode cX6_shut 0 = .ok (.aload_n 0, 1) := by decide +kernel
theorem dX6_shut_1 : decode cX6_shut 1 = .ok (.iload_n 1, 1) := by decide +kernel
theorem dX6_shut_2 : decode cX6_shut 2 = .ok (.invokevirtual 116, 3) := by decide +kernel
theorem dX6_shut_5 : decode cX6_shut 5 = .ok (.ifCond .ne 5, 3) := by decide +kernel
theorem dX6_shut_8 : decode cX6_shut 8 = .ok (.iconst (-1), 1) := by decide +kernel
theorem dX6_shut_9 : decode cX6_shut 9 = .ok (.ireturn, 1) := by decide +kernel
theorem dX6_shut_10 : decode cX6_shut 10 = .ok (.aload_n 0, 1) := by decide +kernel
theorem dX6_shut_11 : decode cX6_shut 11 = .ok (.getfield 32, 3) := by decide +kernel
theorem dX6_shut_14 : decode cX6_shut 14 = .ok (.iload_n 1, 1) := by decide +kernel
theorem dX6_shut_15 : decode cX6_shut 15 = .ok (.baload, 1) := by decide +kernel
theorem dX6_shut_16 : decode cX6_shut 16 = .ok (.ifCond .eq 7, 3) := by decide +kernel
theorem dX6_shut_19 : decode cX6_shut 19 = .ok (.iconst 1, 1) := by decide +kernel
theorem dX6_shut_20 : decode cX6_shut 20 = .ok (.goto 4, 3) := by decide +kernel
theorem dX6_shut_23 : decode cX6_shut 23 = .ok (.iconst 0, 1) := by decide +kernel
theorem dX6_shut_24 : decode cX6_shut 24 = .ok (.istore_n 3, 1) := by decide +kernel
theorem dX6_shut_25 : decode cX6_shut 25 = .ok (.aload_n 0, 1) := by decide +kernel
theorem dX6_shut_26 : decode cX6_shut 26 = .ok (.getfield 32, 3) := by decide +kernel
theorem dX6_shut_29 : decode cX6_shut 29 = .ok (.iload_n 1, 1) := by decide +kernel
theorem dX6_shut_30 : decode cX6_shut 30 = .ok (.iload_n 2, 1) := by decide +kernel
theorem dX6_shut_31 : decode cX6_shut 31 = .ok (.bastore, 1) := by decide +kernel
theorem dX6_shut_32 : decode cX6_shut 32 = .ok (.iload_n 3, 1) := by decide +kernel
theorem dX6_shut_33 : decode cX6_shut 33 = .ok (.ireturn, 1) := by decide +kernel
theorem dX6_clog_0 : decode cX6_clog 0 = .ok (.aload_n 0, 1) := by decide +kernel
theorem dX6_clog_1 : decode cX6_clog 1 = .ok (.iload_n 1, 1) := by decide +kernel
theorem dX6_clog_2 : decode cX6_clog 2 = .ok (.invokevirtual 140, 3) := by decide +kernel
theorem dX6_clog_5 : decode cX6_clog 5 = .ok (.ifCond .ne 5, 3) := by decide +kernel
theorem dX6_clog_8 : decode cX6_clog 8 = .ok (.iconst (-1), 1) := by decide +kernel
theorem dX6_clog_9 : decode cX6_clog 9 = .ok (.ireturn, 1) := by decide +kernel
theorem dX6_clog_10 : decode cX6_clog 10 = .ok (.iload_n 2, 1) := by decide +kernel
theorem dX6_clog_11 : decode cX6_clog 11 = .ok (.i2l, 1) := by decide +kernel
theorem dX6_clog_12 : decode cX6_clog 12 = .ok (.lconst 0, 1) := by decide +kernel
theorem dX6_clog_13 : decode cX6_clog 13 = .ok (.ldc2_w 143, 3) := by decide +kernel
theorem dX6_clog_16 : decode cX6_clog 16 = .ok (.invokestatic 112, 3) := by decide +kernel
theorem dX6_clog_19 : decode cX6_clog 19 = .ok (.ifCond .ne 6, 3) := by decide +kernel
theorem dX6_clog_22 : decode cX6_clog 22 = .ok (.bipush (-2), 2) := by decide +kernel
theorem dX6_clog_24 : decode cX6_clog 24 = .ok (.ireturn, 1) := by decide +kernel
theorem dX6_clog_25 : decode cX6_clog 25 = .ok (.aload_n 0, 1) := by decide +kernel
theorem dX6_clog_26 : decode cX6_clog 26 = .ok (.getfield 51, 3) := by decide +kernel
theorem dX6_clog_29 : decode cX6_clog 29 = .ok (.iload_n 1, 1) := by decide +kernel
theorem dX6_clog_30 : decode cX6_clog 30 = .ok (.iaload, 1) := by decide +kernel
theorem dX6_clog_31 : decode cX6_clog 31 = .ok (.istore_n 3, 1) := by decide +kernel
theorem dX6_clog_32 : decode cX6_clog 32 = .ok (.aload_n 0, 1) := by decide +kernel
theorem dX6_clog_33 : decode cX6_clog 33 = .ok (.getfield 51, 3) := by decide +kernel
theorem dX6_clog_36 : decode cX6_clog 36 = .ok (.iload_n 1, 1) := by decide +kernel
theorem dX6_clog_37 : decode cX6_clog 37 = .ok (.iload_n 2, 1) := by decide +kernel
theorem dX6_clog_38 : decode cX6_clog 38 = .ok (.iastore, 1) := by decide +kernel
theorem dX6_clog_39 : decode cX6_clog 39 = .ok (.iload_n 3, 1) := by decide +kernel
theorem dX6_clog_40 : decode cX6_clog 40 = .ok (.ireturn, 1) := by decide +kernel
theorem dX6_resize_0 : decode cX6_resize 0 = .ok (.aload_n 0, 1) := by decide +kernel
theorem dX6_resize_1 : decode cX6_resize 1 = .ok (.iload_n 1, 1) := by decide +kernel
theorem dX6_resize_2 : decode cX6_resize 2 = .ok (.invokevirtual 116, 3) := by decide +kernel
theorem dX6_resize_5 : decode cX6_resize 5 = .ok (.ifCond .eq 19, 3) := by decide +kernel
theorem dX6_resize_8 : decode cX6_resize 8 = .ok (.iload_n 2, 1) := by decide +kernel
theorem dX6_resize_9 : decode cX6_resize 9 = .ok (.i2l, 1) := by decide +kernel
theorem dX6_resize_10 : decode cX6_resize 10 = .ok (.lconst 0, 1) := by decide +kernel
theorem dX6_resize_11 : decode cX6_resize 11 = .ok (.aload_n 0, 1) := by decide +kernel
theorem dX6_resize_12 : decode cX6_resize 12 = .ok (.getfield 131, 3) := by decide +kernel
theorem dX6_resize_15 : decode cX6_resize 15 = .ok (.iconst 1, 1) := by decide +kernel
theorem dX6_resize_16 : decode cX6_resize 16 = .ok (.isub, 1) := by decide +kernel
