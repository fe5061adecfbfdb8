theorem dX11_costs_0 : decode cX11_costs 0 = .ok (.aload_n 0, 1) := by decide +kernel
theorem dX11_costs_1 : decode cX11_costs 1 = .ok (.aload_n 0, 1) := by decide +kernel
theorem dX11_costs_2 : decode cX11_costs 2 = .ok (.iload_n 1, 1) := by decide +kernel
theorem dX11_costs_3 : decode cX11_costs 3 = .ok (.invokevirtual 311, 3) := by decide +kernel
theorem dX11_costs_6 : decode cX11_costs 6 = .ok (.ifCond .eq 11, 3) := by decide +kernel
theorem dX11_costs_9 : decode cX11_costs 9 = .ok (.aload_n 0, 1) := by decide +kernel
theorem dX11_costs_10 : decode cX11_costs 10 = .ok (.iload_n 2, 1) := by decide +kernel
theorem dX11_costs_11 : decode cX11_costs 11 = .ok (.invokevirtual 314, 3) := by decide +kernel
theorem dX11_costs_14 : decode cX11_costs 14 = .ok (.ifCond .ne 7, 3) := by decide +kernel
theorem dX11_costs_17 : decode cX11_costs 17 = .ok (.iconst 1, 1) := by decide +kernel
theorem dX11_costs_18 : decode cX11_costs 18 = .ok (.goto 20, 3) := by decide +kernel
theorem dX11_costs_21 : decode cX11_costs 21 = .ok (.iload_n 3, 1) := by decide +kernel
theorem dX11_costs_22 : decode cX11_costs 22 = .ok (.i2l, 1) := by decide +kernel
theorem dX11_costs_23 : decode cX11_costs 23 = .ok (.lconst 1, 1) := by decide +kernel
theorem dX11_costs_24 : decode cX11_costs 24 = .ok (.ldc2_w 376, 3) := by decide +kernel
theorem dX11_costs_27 : decode cX11_costs 27 = .ok (.invokestatic 301, 3) := by decide +kernel
theorem dX11_costs_30 : decode cX11_costs 30 = .ok (.ifCond .eq 7, 3) := by decide +kernel
theorem dX11_costs_33 : decode cX11_costs 33 = .ok (.iconst 0, 1) := by decide +kernel
theorem dX11_costs_34 : decode cX11_costs 34 = .ok (.goto 4, 3) := by decide +kernel
theorem dX11_costs_37 : decode cX11_costs 37 = .ok (.iconst 2, 1) := by decide +kernel
theorem dX11_costs_38 : decode cX11_costs 38 = .ok (.putfield 104, 3) := by decide +kernel
theorem dX11_costs_41 : decode cX11_costs 41 = .ok (.aload_n 0, 1) := by decide +kernel
theorem dX11_costs_42 : decode cX11_costs 42 = .ok (.getfield 104, 3) := by decide +kernel
theorem dX11_costs_45 : decode cX11_costs 45 = .ok (.ifCond .le 5, 3) := by decide +kernel
theorem dX11_costs_48 : decode cX11_costs 48 = .ok (.iconst 0, 1) := by decide +kernel
theorem dX11_costs_49 : decode cX11_costs 49 = .ok (.ireturn, 1) := by decide +kernel
theorem dX11_costs_50 : decode cX11_costs 50 = .ok (.aload_n 0, 1) := by decide +kernel
theorem dX11_costs_51 : decode cX11_costs 51 = .ok (.invokevirtual 378, 3) := by decide +kernel
theorem dX11_costs_54 : decode cX11_costs 54 = .ok (.aload_n 0, 1) := by decide +kernel
theorem dX11_costs_55 : decode cX11_costs 55 = .ok (.iload_n 1, 1) := by decide +kernel
theorem dX11_costs_56 : decode cX11_costs 56 = .ok (.iload_n 2, 1) := by decide +kernel
theorem dX11_costs_57 : decode cX11_costs 57 = .ok (.invokevirtual 322, 3) := by decide +kernel
theorem dX11_costs_60 : decode cX11_costs 60 = .ok (.istore 4, 2) := by decide +kernel
theorem dX11_costs_62 : decode cX11_costs 62 = .ok (.aload_n 0, 1) := by decide +kernel
theorem dX11_costs_63 : decode cX11_costs 63 = .ok (.getfield 7, 3) := by decide +kernel
theorem dX11_costs_66 : decode cX11_costs 66 = .ok (.iconst 0, 1) := by decide +kernel
theorem dX11_costs_67 : decode cX11_costs 67 = .ok (.bipush 6, 2) := by decide +kernel
theorem dX11_costs_69 : decode cX11_costs 69 = .ok (.iload_n 1, 1) := by decide +kernel
theorem dX11_costs_70 : decode cX11_costs 70 = .ok (.imul, 1) := by decide +kernel
theorem dX11_costs_71 : decode cX11_costs 71 = .ok (.iadd, 1) := by decide +kernel
theorem dX11_costs_72 : decode cX11_costs 72 = .ok (.iload_n 2, 1) := by decide +kernel
theorem dX11_costs_73 : decode cX11_costs 73 = .ok (.iadd, 1) := by decide +kernel
theorem dX11_costs_74 : decode cX11_costs 74 = .ok (.iload_n 3, 1) := by decide +kernel
theorem dX11_costs_75 : decode cX11_costs 75 = .ok (.iastore, 1) := by decide +kernel
theorem dX11_costs_76 : decode cX11_costs 76 = .ok (.iload 4, 2) := by decide +kernel
theorem dX11_costs_78 : decode cX11_costs 78 = .ok (.ireturn, 1) := by decide +kernel
theorem dX11_set_0 : decode cX11_set 0 = .ok (.aload_n 0, 1) := by decide +kernel
theorem dX11_set_1 : decode cX11_set 1 = .ok (.iload_n 1, 1) := by decide +kernel
theorem dX11_set_2 : decode cX11_set 2 = .ok (.i2l, 1) := by decide +kernel
theorem dX11_set_3 : decode cX11_set 3 = .ok (.lconst 0, 1) := by decide +kernel
theorem dX11_set_4 : decode cX11_set 4 = .ok (.ldc2_w 381, 3) := by decide +kernel
theorem dX11_set_7 : decode cX11_set 7 = .ok (.invokestatic 301, 3) := by decide +kernel
theorem dX11_set_10 : decode cX11_set 10 = .ok (.ifCond .ne 7, 3) := by decide +kernel
theorem dX11_set_13 : decode cX11_set 13 = .ok (.iconst 1, 1) := by decide +kernel
theorem dX11_set_14 : decode cX11_set 14 = .ok (.goto 39, 3) := by decide +kernel
theorem dX11_set_17 : decode cX11_set 17 = .ok (.iload_n 2, 1) := by decide +kernel
theorem dX11_set_18 : decode cX11_set 18 = .ok (.i2l, 1) := by decide +kernel
theorem dX11_set_19 : decode cX11_set 19 = .ok (.lconst 0, 1) := by decide +kernel
theorem dX11_set_20 : decode cX11_set 20 = .ok (.iload_n 1, 1) := by decide +kernel
theorem dX11_set_21 : decode cX11_set 21 = .ok (.ifCond .ne 9, 3) := by decide +kernel
theorem dX11_set_24 : decode cX11_set 24 = .ok (.ldc2_w 320, 3) := by decide +kernel
theorem dX11_set_27 : decode cX11_set 27 = .ok (.goto 15, 3) := by decide +kernel
theorem dX11_set_30 : decode cX11_set 30 = .ok (.iload_n 1, 1) := by decide +kernel
theorem dX11_set_31 : decode cX11_set 31 = .ok (.iconst 4, 1) := by decide +kernel
theorem dX11_set_32 : decode cX11_set 32 = .ok (.if_icmp .ge 7, 3) := by decide +kernel
theorem dX11_set_35 : decode cX11_set 35 = .ok (.lconst 1, 1) := by decide +kernel
theorem dX11_set_36 : decode cX11_set 36 = .ok (.goto 6, 3) := by decide +kernel
theorem dX11_set_39 : decode cX11_set 39 = .ok (.ldc2_w 383, 3) := by decide +kernel
theorem dX11_set_42 : decode cX11_set 42 = .ok (.invokestatic 301, 3) := by decide +kernel
theorem dX11_set_45 : decode cX11_set 45 = .ok (.ifCond .eq 7, 3) := by decide +kernel
theorem dX11_set_48 : decode cX11_set 48 = .ok (.iconst 0, 1) := by decide +kernel
theorem dX11_set_49 : decode cX11_set 49 = .ok (.goto 4, 3) := by decide +kernel
theorem dX11_set_52 : decode cX11_set 52 = .ok (.iconst 2, 1) := by decide +kernel
theorem dX11_set_53 : decode cX11_set 53 = .ok (.putfield 104, 3) := by decide +kernel
theorem dX11_set_56 : decode cX11_set 56 = .ok (.aload_n 0, 1) := by decide +kernel
theorem dX11_set_57 : decode cX11_set 57 = .ok (.getfield 104, 3) := by decide +kernel
theorem dX11_set_60 : decode cX11_set 60 = .ok (.ifCond .le 5, 3) := by decide +kernel
theorem dX11_set_63 : decode cX11_set 63 = .ok (.iconst 0, 1) := by decide +kernel
theorem dX11_set_64 : decode cX11_set 64 = .ok (.ireturn, 1) := by decide +kernel
theorem dX11_set_65 : decode cX11_set 65 = .ok (.aload_n 0, 1) := by decide +kernel
theorem dX11_set_66 : decode cX11_set 66 = .ok (.invokevirtual 378, 3) := by decide +kernel
theorem dX11_set_69 : decode cX11_set 69 = .ok (.aload_n 0, 1) := by decide +kernel
theorem dX11_set_70 : decode cX11_set 70 = .ok (.getfield 7, 3) := by decide +kernel
theorem dX11_set_73 : decode cX11_set 73 = .ok (.bipush 28, 2) := by decide +kernel
theorem dX11_set_75 : decode cX11_set 75 = .ok (.iload_n 1, 1) := by decide +kernel
theorem dX11_set_76 : decode cX11_set 76 = .ok (.iadd, 1) := by decide +kernel
theorem dX11_set_77 : decode cX11_set 77 = .ok (.iaload, 1) := by decide +kernel
theorem dX11_set_78 : decode cX11_set 78 = .ok (.istore_n 3, 1) := by decide +kernel
theorem dX11_set_79 : decode cX11_set 79 = .ok (.aload_n 0, 1) := by decide +kernel
theorem dX11_set_80 : decode cX11_set 80 = .ok (.getfield 7, 3) := by decide +kernel
theorem dX11_set_83 : decode cX11_set 83 = .ok (.bipush 28, 2) := by decide +kernel
theorem dX11_set_85 : decode cX11_set 85 = .ok (.iload_n 1, 1) := by decide +kernel
theorem dX11_set_86 : decode cX11_set 86 = .ok (.iadd, 1) := by decide +kernel
theorem dX11_set_87 : decode cX11_set 87 = .ok (.iload_n 2, 1) := by decide +kernel
theorem dX11_set_88 : decode cX11_set 88 = .ok (.iastore, 1) := by decide +kernel
theorem dX11_set_89 : decode cX11_set 89 = .ok (.iload_n 3, 1) := by decide +kernel
theorem dX11_set_90 : decode cX11_set 90 = .ok (.ireturn, 1) := by decide +kernel
theorem dX11_silent_0 : decode cX11_silent 0 = .ok (.aload_n 0, 1) := by decide +kernel
theorem dX11_silent_1 : decode cX11_silent 1 = .ok (.aload_n 0, 1) := by decide +kernel
theorem dX11_silent_2 : decode cX11_silent 2 = .ok (.iload_n 1, 1) := by decide +kernel
theorem dX11_silent_3 : decode cX11_silent 3 = .ok (.invokevirtual 311, 3) := by decide +kernel
theorem dX11_silent_6 : decode cX11_silent 6 = .ok (.ifCond .eq 7, 3) := by decide +kernel
theorem dX11_silent_9 : decode cX11_silent 9 = .ok (.iconst 0, 1) := by decide +kernel
theorem dX11_silent_10 : decode cX11_silent 10 = .ok (.goto 4, 3) := by decide +kernel
theorem dX11_silent_13 : decode cX11_silent 13 = .ok (.iconst 1, 1) := by decide +kernel
theorem dX11_silent_14 : decode cX11_silent 14 = .ok (.putfield 104, 3) := by decide +kernel
theorem dX11_silent_17 : decode cX11_silent 17 = .ok (.aload_n 0, 1) := by decide +kernel
theorem dX11_silent_18 : decode cX11_silent 18 = .ok (.getfield 104, 3) := by decide +kernel
theorem dX11_silent_21 : decode cX11_silent 21 = .ok (.ifCond .le 5, 3) := by decide +kernel
theorem dX11_silent_24 : decode cX11_silent 24 = .ok (.iconst 0, 1) := by decide +kernel
theorem dX11_silent_25 : decode cX11_silent 25 = .ok (.ireturn, 1) := by decide +kernel
theorem dX11_silent_26 : decode cX11_silent 26 = .ok (.aload_n 0, 1) := by decide +kernel
theorem dX11_silent_27 : decode cX11_silent 27 = .ok (.invokevirtual 378, 3) := by decide +kernel
theorem dX11_silent_30 : decode cX11_silent 30 = .ok (.aload_n 0, 1) := by decide +kernel
theorem dX11_silent_31 : decode cX11_silent 31 = .ok (.getfield 7, 3) := by decide +kernel
theorem dX11_silent_34 : decode cX11_silent 34 = .ok (.bipush 24, 2) := by decide +kernel
theorem dX11_silent_36 : decode cX11_silent 36 = .ok (.iload_n 1, 1) := by decide +kernel
theorem dX11_silent_37 : decode cX11_silent 37 = .ok (.iadd, 1) := by decide +kernel
theorem dX11_silent_38 : decode cX11_silent 38 = .ok (.iaload, 1) := by decide +kernel
theorem dX11_silent_39 : decode cX11_silent 39 = .ok (.iconst 1, 1) := by decide +kernel
theorem dX11_silent_40 : decode cX11_silent 40 = .ok (.if_icmp .ne 7, 3) := by decide +kernel
theorem dX11_silent_43 : decode cX11_silent 43 = .ok (.iconst 1, 1) := by decide +kernel
theorem dX11_silent_44 : decode cX11_silent 44 = .ok (.goto 4, 3) := by decide +kernel
theorem dX11_silent_47 : decode cX11_silent 47 = .ok (.iconst 0, 1) := by decide +kernel
theorem dX11_silent_48 : decode cX11_silent 48 = .ok (.istore_n 3, 1) := by decide +kernel
theorem dX11_silent_49 : decode cX11_silent 49 = .ok (.aload_n 0, 1) := by decide +kernel
theorem dX11_silent_50 : decode cX11_silent 50 = .ok (.getfield 7, 3) := by decide +kernel
theorem dX11_silent_53 : decode cX11_silent 53 = .ok (.bipush 24, 2) := by decide +kernel
theorem dX11_silent_55 : decode cX11_silent 55 = .ok (.iload_n 1, 1) := by decide +kernel
theorem dX11_silent_56 : decode cX11_silent 56 = .ok (.iadd, 1) := by decide +kernel
theorem dX11_silent_57 : decode cX11_silent 57 = .ok (.iload_n 2, 1) := by decide +kernel
theorem dX11_silent_58 : decode cX11_silent 58 = .ok (.ifCond .eq 7, 3) := by decide +kernel
theorem dX11_silent_61 : decode cX11_silent 61 = .ok (.iconst 1, 1) := by decide +kernel
theorem dX11_silent_62 : decode cX11_silent 62 = .ok (.goto 4, 3) := by decide +kernel
theorem dX11_silent_65 : decode cX11_silent 65 = .ok (.iconst 0, 1) := by decide +kernel
theorem dX11_silent_66 : decode cX11_silent 66 = .ok (.iastore, 1) := by decide +kernel
theorem dX11_silent_67 : decode cX11_silent 67 = .ok (.iload_n 3, 1) := by decide +kernel
theorem dX11_silent_68 : decode cX11_silent 68 = .ok (.ireturn, 1) := by decide +kernel
theorem dX11_undo_0 : decode cX11_undo 0 = .ok (.aload_n 0, 1) := by decide +kernel
theorem dX11_undo_1 : decode cX11_undo 1 = .ok (.iconst 0, 1) := by decide +kernel
theorem dX11_undo_2 : decode cX11_undo 2 = .ok (.putfield 104, 3) := by decide +kernel
theorem dX11_undo_5 : decode cX11_undo 5 = .ok (.aload_n 0, 1) := by decide +kernel
theorem dX11_undo_6 : decode cX11_undo 6 = .ok (.getfield 294, 3) := by decide +kernel
theorem dX11_undo_9 : decode cX11_undo 9 = .ok (.ifCond .ne 5, 3) := by decide +kernel
theorem dX11_undo_12 : decode cX11_undo 12 = .ok (.iconst (-1), 1) := by decide +kernel
theorem dX11_undo_13 : decode cX11_undo 13 = .ok (.ireturn, 1) := by decide +kernel
theorem dX11_undo_14 : decode cX11_undo 14 = .ok (.aload_n 0, 1) := by decide +kernel
theorem dX11_undo_15 : decode cX11_undo 15 = .ok (.dup, 1) := by decide +kernel
theorem dX11_undo_16 : decode cX11_undo 16 = .ok (.getfield 294, 3) := by decide +kernel
theorem dX11_undo_19 : decode cX11_undo 19 = .ok (.iconst 1, 1) := by decide +kernel
theorem dX11_undo_20 : decode cX11_undo 20 = .ok (.isub, 1) := by decide +kernel
theorem dX11_undo_21 : decode cX11_undo 21 = .ok (.putfield 294, 3) := by decide +kernel
theorem dX11_undo_24 : decode cX11_undo 24 = .ok (.iconst 0, 1) := by decide +kernel
theorem dX11_undo_25 : decode cX11_undo 25 = .ok (.istore_n 1, 1) := by decide +kernel
theorem dX11_undo_26 : decode cX11_undo 26 = .ok (.iload_n 1, 1) := by decide +kernel
theorem dX11_undo_27 : decode cX11_undo 27 = .ok (.sipush 355, 3) := by decide +kernel
theorem dX11_undo_30 : decode cX11_undo 30 = .ok (.if_icmp .ge 30, 3) := by decide +kernel
theorem dX11_undo_33 : decode cX11_undo 33 = .ok (.aload_n 0, 1) := by decide +kernel
theorem dX11_undo_34 : decode cX11_undo 34 = .ok (.getfield 7, 3) := by decide +kernel
theorem dX11_undo_37 : decode cX11_undo 37 = .ok (.iload_n 1, 1) := by decide +kernel
theorem dX11_undo_38 : decode cX11_undo 38 = .ok (.aload_n 0, 1) := by decide +kernel
theorem dX11_undo_39 : decode cX11_undo 39 = .ok (.getfield 16, 3) := by decide +kernel
theorem dX11_undo_42 : decode cX11_undo 42 = .ok (.sipush 355, 3) := by decide +kernel
theorem dX11_undo_45 : decode cX11_undo 45 = .ok (.aload_n 0, 1) := by decide +kernel
theorem dX11_undo_46 : decode cX11_undo 46 = .ok (.getfield 294, 3) := by decide +kernel
theorem dX11_undo_49 : decode cX11_undo 49 = .ok (.imul, 1) := by decide +kernel
theorem dX11_undo_50 : decode cX11_undo 50 = .ok (.iload_n 1, 1) := by decide +kernel
theorem dX11_undo_51 : decode cX11_undo 51 = .ok (.iadd, 1) := by decide +kernel
theorem dX11_undo_52 : decode cX11_undo 52 = .ok (.iaload, 1) := by decide +kernel
theorem dX11_undo_53 : decode cX11_undo 53 = .ok (.iastore, 1) := by decide +kernel
theorem dX11_undo_54 : decode cX11_undo 54 = .ok (.iinc 1 1, 3) := by decide +kernel
theorem dX11_undo_57 : decode cX11_undo 57 = .ok (.goto (-31), 3) := by decide +kernel
theorem dX11_undo_60 : decode cX11_undo 60 = .ok (.aload_n 0, 1) := by decide +kernel
theorem dX11_undo_61 : decode cX11_undo 61 = .ok (.iconst 0, 1) := by decide +kernel
theorem dX11_undo_62 : decode cX11_undo 62 = .ok (.putfield 297, 3) := by decide +kernel
theorem dX11_undo_65 : decode cX11_undo 65 = .ok (.aload_n 0, 1) := by decide +kernel
theorem dX11_undo_66 : decode cX11_undo 66 = .ok (.getfield 294, 3) := by decide +kernel
theorem dX11_undo_69 : decode cX11_undo 69 = .ok (.ireturn, 1) := by decide +kernel
theorem dX11_base_0 : decode cX11_base 0 = .ok (.aload_n 0, 1) := by decide +kernel
theorem dX11_base_1 : decode cX11_base 1 = .ok (.aload_n 0, 1) := by decide +kernel
theorem dX11_base_2 : decode cX11_base 2 = .ok (.iload_n 1, 1) := by decide +kernel
theorem dX11_base_3 : decode cX11_base 3 = .ok (.invokevirtual 311, 3) := by decide +kernel
theorem dX11_base_6 : decode cX11_base 6 = .ok (.ifCond .eq 7, 3) := by decide +kernel
theorem dX11_base_9 : decode cX11_base 9 = .ok (.iconst 0, 1) := by decide +kernel
theorem dX11_base_10 : decode cX11_base 10 = .ok (.goto 4, 3) := by decide +kernel
theorem dX11_base_13 : decode cX11_base 13 = .ok (.iconst 1, 1) := by decide +kernel
theorem dX11_base_14 : decode cX11_base 14 = .ok (.putfield 104, 3) := by decide +kernel
theorem dX11_base_17 : decode cX11_base 17 = .ok (.aload_n 0, 1) := by decide +kernel
theorem dX11_base_18 : decode cX11_base 18 = .ok (.getfield 104, 3) := by decide +kernel
theorem dX11_base_21 : decode cX11_base 21 = .ok (.ifCond .le 5, 3) := by decide +kernel
theorem dX11_base_24 : decode cX11_base 24 = .ok (.iconst 0, 1) := by decide +kernel
theorem dX11_base_25 : decode cX11_base 25 = .ok (.ireturn, 1) := by decide +kernel
theorem dX11_base_26 : decode cX11_base 26 = .ok (.aload_n 0, 1) := by decide +kernel
theorem dX11_base_27 : decode cX11_base 27 = .ok (.invokevirtual 367, 3) := by decide +kernel
theorem dX11_base_30 : decode cX11_base 30 = .ok (.aload_n 0, 1) := by decide +kernel
theorem dX11_base_31 : decode cX11_base 31 = .ok (.getfield 79, 3) := by decide +kernel
theorem dX11_base_34 : decode cX11_base 34 = .ok (.iload_n 1, 1) := by decide +kernel
theorem dX11_base_35 : decode cX11_base 35 = .ok (.iaload, 1) := by decide +kernel
theorem dX11_base_36 : decode cX11_base 36 = .ok (.ireturn, 1) := by decide +kernel
theorem dX11_below_0 : decode cX11_below 0 = .ok (.aload_n 0, 1) := by decide +kernel
theorem dX11_below_1 : decode cX11_below 1 = .ok (.aload_n 0, 1) := by decide +kernel
theorem dX11_below_2 : decode cX11_below 2 = .ok (.iload_n 1, 1) := by decide +kernel
theorem dX11_below_3 : decode cX11_below 3 = .ok (.invokevirtual 311, 3) := by decide +kernel
theorem dX11_below_6 : decode cX11_below 6 = .ok (.ifCond .eq 11, 3) := by decide +kernel
theorem dX11_below_9 : decode cX11_below 9 = .ok (.aload_n 0, 1) := by decide +kernel
theorem dX11_below_10 : decode cX11_below 10 = .ok (.iload_n 2, 1) := by decide +kernel
theorem dX11_below_11 : decode cX11_below 11 = .ok (.invokevirtual 314, 3) := by decide +kernel
theorem dX11_below_14 : decode cX11_below 14 = .ok (.ifCond .ne 7, 3) := by decide +kernel
theorem dX11_below_17 : decode cX11_below 17 = .ok (.iconst 1, 1) := by decide +kernel
theorem dX11_below_18 : decode cX11_below 18 = .ok (.goto 20, 3) := by decide +kernel
theorem dX11_below_21 : decode cX11_below 21 = .ok (.iload_n 3, 1) := by decide +kernel
theorem dX11_below_22 : decode cX11_below 22 = .ok (.i2l, 1) := by decide +kernel
theorem dX11_below_23 : decode cX11_below 23 = .ok (.lconst 0, 1) := by decide +kernel
theorem dX11_below_24 : decode cX11_below 24 = .ok (.ldc2_w 320, 3) := by decide +kernel
theorem dX11_below_27 : decode cX11_below 27 = .ok (.invokestatic 301, 3) := by decide +kernel
theorem dX11_below_30 : decode cX11_below 30 = .ok (.ifCond .eq 7, 3) := by decide +kernel
theorem dX11_below_33 : decode cX11_below 33 = .ok (.iconst 0, 1) := by decide +kernel
theorem dX11_below_34 : decode cX11_below 34 = .ok (.goto 4, 3) := by decide +kernel
theorem dX11_below_37 : decode cX11_below 37 = .ok (.iconst 2, 1) := by decide +kernel
theorem dX11_below_38 : decode cX11_below 38 = .ok (.putfield 104, 3) := by decide +kernel
theorem dX11_below_41 : decode cX11_below 41 = .ok (.aload_n 0, 1) := by decide +kernel
theorem dX11_below_42 : decode cX11_below 42 = .ok (.getfield 104, 3) := by decide +kernel
theorem dX11_below_45 : decode cX11_below 45 = .ok (.ifCond .le 5, 3) := by decide +kernel
theorem dX11_below_48 : decode cX11_below 48 = .ok (.iconst 0, 1) := by decide +kernel
theorem dX11_below_49 : decode cX11_below 49 = .ok (.ireturn, 1) := by decide +kernel
theorem dX11_below_50 : decode cX11_below 50 = .ok (.aload_n 0, 1) := by decide +kernel
theorem dX11_below_51 : decode cX11_below 51 = .ok (.invokevirtual 367, 3) := by decide +kernel
theorem dX11_below_54 : decode cX11_below 54 = .ok (.iload_n 3, 1) := by decide +kernel
theorem dX11_below_55 : decode cX11_below 55 = .ok (.iconst 2, 1) := by decide +kernel
theorem dX11_below_56 : decode cX11_below 56 = .ok (.if_icmp .ge 22, 3) := by decide +kernel
theorem dX11_below_59 : decode cX11_below 59 = .ok (.aload_n 0, 1) := by decide +kernel
theorem dX11_below_60 : decode cX11_below 60 = .ok (.iload_n 1, 1) := by decide +kernel
theorem dX11_below_61 : decode cX11_below 61 = .ok (.iload_n 2, 1) := by decide +kernel
theorem dX11_below_62 : decode cX11_below 62 = .ok (.iload_n 3, 1) := by decide +kernel
theorem dX11_below_63 : decode cX11_below 63 = .ok (.iconst 1, 1) := by decide +kernel
theorem dX11_below_64 : decode cX11_below 64 = .ok (.if_icmp .ne 7, 3) := by decide +kernel
theorem dX11_below_67 : decode cX11_below 67 = .ok (.iconst 1, 1) := by decide +kernel
theorem dX11_below_68 : decode cX11_below 68 = .ok (.goto 4, 3) := by decide +kernel
theorem dX11_below_71 : decode cX11_below 71 = .ok (.iconst 0, 1) := by decide +kernel
theorem dX11_below_72 : decode cX11_below 72 = .ok (.invokevirtual 350, 3) := by decide +kernel
theorem dX11_below_75 : decode cX11_below 75 = .ok (.goto 17, 3) := by decide +kernel
theorem dX11_below_78 : decode cX11_below 78 = .ok (.aload_n 0, 1) := by decide +kernel
theorem dX11_below_79 : decode cX11_below 79 = .ok (.iload_n 1, 1) := by decide +kernel
theorem dX11_below_80 : decode cX11_below 80 = .ok (.iload_n 2, 1) := by decide +kernel
theorem dX11_below_81 : decode cX11_below 81 = .ok (.invokevirtual 361, 3) := by decide +kernel
theorem dX11_below_84 : decode cX11_below 84 = .ok (.ifCond .eq 7, 3) := by decide +kernel
theorem dX11_below_87 : decode cX11_below 87 = .ok (.iconst 1, 1) := by decide +kernel
theorem dX11_below_88 : decode cX11_below 88 = .ok (.goto 4, 3) := by decide +kernel
theorem dX11_below_91 : decode cX11_below 91 = .ok (.iconst 0, 1) := by decide +kernel
theorem dX11_below_92 : decode cX11_below 92 = .ok (.ireturn, 1) := by decide +kernel
theorem dX11_isOf_0 : decode cX11_isOf 0 = .ok (.aload_n 0, 1) := by decide +kernel
theorem dX11_isOf_1 : decode cX11_isOf 1 = .ok (.getfield 76, 3) := by decide +kernel
theorem dX11_isOf_4 : decode cX11_isOf 4 = .ok (.iload_n 1, 1) := by decide +kernel
theorem dX11_isOf_5 : decode cX11_isOf 5 = .ok (.baload, 1) := by decide +kernel
theorem dX11_isOf_6 : decode cX11_isOf 6 = .ok (.ifCond .eq 27, 3) := by decide +kernel
theorem dX11_isOf_9 : decode cX11_isOf 9 = .ok (.aload_n 0, 1) := by decide +kernel
theorem dX11_isOf_10 : decode cX11_isOf 10 = .ok (.iload_n 1, 1) := by decide +kernel
theorem dX11_isOf_11 : decode cX11_isOf 11 = .ok (.iconst 1, 1) := by decide +kernel
theorem dX11_isOf_12 : decode cX11_isOf 12 = .ok (.invokevirtual 305, 3) := by decide +kernel
theorem dX11_isOf_15 : decode cX11_isOf 15 = .ok (.iload_n 2, 1) := by decide +kernel
theorem dX11_isOf_16 : decode cX11_isOf 16 = .ok (.if_icmp .ne 17, 3) := by decide +kernel
theorem dX11_isOf_19 : decode cX11_isOf 19 = .ok (.aload_n 0, 1) := by decide +kernel
theorem dX11_isOf_20 : decode cX11_isOf 20 = .ok (.iload_n 1, 1) := by decide +kernel
theorem dX11_isOf_21 : decode cX11_isOf 21 = .ok (.iconst 2, 1) := by decide +kernel
theorem dX11_isOf_22 : decode cX11_isOf 22 = .ok (.invokevirtual 305, 3) := by decide +kernel
theorem dX11_isOf_25 : decode cX11_isOf 25 = .ok (.iload_n 3, 1) := by decide +kernel
theorem dX11_isOf_26 : decode cX11_isOf 26 = .ok (.if_icmp .ne 7, 3) := by decide +kernel
theorem dX11_isOf_29 : decode cX11_isOf 29 = .ok (.iconst 1, 1) := by decide +kernel
theorem dX11_isOf_30 : decode cX11_isOf 30 = .ok (.goto 4, 3) := by decide +kernel
theorem dX11_isOf_33 : decode cX11_isOf 33 = .ok (.iconst 0, 1) := by decide +kernel
theorem dX11_isOf_34 : decode cX11_isOf 34 = .ok (.ireturn, 1) := by decide +kernel
theorem dX11_nearestLevel_0 : decode cX11_nearestLevel 0 = .ok (.iconst (-1), 1) := by decide +kernel
theorem dX11_nearestLevel_1 : decode cX11_nearestLevel 1 = .ok (.istore 4, 2) := by decide +kernel
theorem dX11_nearestLevel_3 : decode cX11_nearestLevel 3 = .ok (.iconst 0, 1) := by decide +kernel
theorem dX11_nearestLevel_4 : decode cX11_nearestLevel 4 = .ok (.istore 5, 2) := by decide +kernel
theorem dX11_nearestLevel_6 : decode cX11_nearestLevel 6 = .ok (.iload 5, 2) := by decide +kernel
theorem dX11_nearestLevel_8 : decode cX11_nearestLevel 8 = .ok (.iconst 4, 1) := by decide +kernel
theorem dX11_nearestLevel_9 : decode cX11_nearestLevel 9 = .ok (.if_icmp .ge 98, 3) := by decide +kernel
theorem dX11_nearestLevel_12 : decode cX11_nearestLevel 12 = .ok (.iconst 0, 1) := by decide +kernel
theorem dX11_nearestLevel_13 : decode cX11_nearestLevel 13 = .ok (.istore 6, 2) := by decide +kernel
theorem dX11_nearestLevel_15 : decode cX11_nearestLevel 15 = .ok (.iconst 0, 1) := by decide +kernel
theorem dX11_nearestLevel_16 : decode cX11_nearestLevel 16 = .ok (.istore 7, 2) := by decide +kernel
theorem dX11_nearestLevel_18 : decode cX11_nearestLevel 18 = .ok (.iload 7, 2) := by decide +kernel
theorem dX11_nearestLevel_20 : decode cX11_nearestLevel 20 = .ok (.aload_n 0, 1) := by decide +kernel
theorem dX11_nearestLevel_21 : decode cX11_nearestLevel 21 = .ok (.getfield 7, 3) := by decide +kernel
theorem dX11_nearestLevel_24 : decode cX11_nearestLevel 24 = .ok (.bipush 34, 2) := by decide +kernel
theorem dX11_nearestLevel_26 : decode cX11_nearestLevel 26 = .ok (.iaload, 1) := by decide +kernel
theorem dX11_nearestLevel_27 : decode cX11_nearestLevel 27 = .ok (.if_icmp .ge 44, 3) := by decide +kernel
theorem dX11_nearestLevel_30 : decode cX11_nearestLevel 30 = .ok (.iload 6, 2) := by decide +kernel
theorem dX11_nearestLevel_32 : decode cX11_nearestLevel 32 = .ok (.ifCond .ne 26, 3) := by decide +kernel
theorem dX11_nearestLevel_35 : decode cX11_nearestLevel 35 = .ok (.aload_n 0, 1) := by decide +kernel
theorem dX11_nearestLevel_36 : decode cX11_nearestLevel 36 = .ok (.iload 7, 2) := by decide +kernel
theorem dX11_nearestLevel_38 : decode cX11_nearestLevel 38 = .ok (.iload_n 1, 1) := by decide +kernel
theorem dX11_nearestLevel_39 : decode cX11_nearestLevel 39 = .ok (.iload_n 2, 1) := by decide +kernel
theorem dX11_nearestLevel_40 : decode cX11_nearestLevel 40 = .ok (.invokevirtual 385, 3) := by decide +kernel
theorem dX11_nearestLevel_43 : decode cX11_nearestLevel 43 = .ok (.ifCond .eq 19, 3) := by decide +kernel
theorem dX11_nearestLevel_46 : decode cX11_nearestLevel 46 = .ok (.aload_n 0, 1) := by decide +kernel
theorem dX11_nearestLevel_47 : decode cX11_nearestLevel 47 = .ok (.iload 7, 2) := by decide +kernel
theorem dX11_nearestLevel_49 : decode cX11_nearestLevel 49 = .ok (.iconst 3, 1) := by decide +kernel
theorem dX11_nearestLevel_50 : decode cX11_nearestLevel 50 = .ok (.invokevirtual 305, 3) := by decide +kernel
theorem dX11_nearestLevel_53 : decode cX11_nearestLevel 53 = .ok (.iload 5, 2) := by decide +kernel
theorem dX11_nearestLevel_55 : decode cX11_nearestLevel 55 = .ok (.if_icmp .ne 7, 3) := by decide +kernel
theorem dX11_nearestLevel_58 : decode cX11_nearestLevel 58 = .ok (.iconst 1, 1) := by decide +kernel
theorem dX11_nearestLevel_59 : decode cX11_nearestLevel 59 = .ok (.goto 4, 3) := by decide +kernel
theorem dX11_nearestLevel_62 : decode cX11_nearestLevel 62 = .ok (.iconst 0, 1) := by decide +kernel
theorem dX11_nearestLevel_63 : decode cX11_nearestLevel 63 = .ok (.istore 6, 2) := by decide +kernel
theorem dX11_nearestLevel_65 : decode cX11_nearestLevel 65 = .ok (.iinc 7 1, 3) := by decide +kernel
theorem dX11_nearestLevel_68 : decode cX11_nearestLevel 68 = .ok (.goto (-50), 3) := by decide +kernel
theorem dX11_nearestLevel_71 : decode cX11_nearestLevel 71 = .ok (.iload 6, 2) := by decide +kernel
theorem dX11_nearestLevel_73 : decode cX11_nearestLevel 73 = .ok (.ifCond .eq 28, 3) := by decide +kernel
theorem dX11_nearestLevel_76 : decode cX11_nearestLevel 76 = .ok (.iload 4, 2) := by decide +kernel
theorem dX11_nearestLevel_78 : decode cX11_nearestLevel 78 = .ok (.iconst (-1), 1) := by decide +kernel
theorem dX11_nearestLevel_79 : decode cX11_nearestLevel 79 = .ok (.if_icmp .eq 18, 3) := by decide +kernel
theorem dX11_nearestLevel_82 : decode cX11_nearestLevel 82 = .ok (.iload 5, 2) := by decide +kernel
theorem dX11_nearestLevel_84 : decode cX11_nearestLevel 84 = .ok (.iload_n 3, 1) := by decide +kernel
theorem dX11_nearestLevel_85 : decode cX11_nearestLevel 85 = .ok (.invokestatic 389, 3) := by decide +kernel
theorem dX11_nearestLevel_88 : decode cX11_nearestLevel 88 = .ok (.iload 4, 2) := by decide +kernel
theorem dX11_nearestLevel_90 : decode cX11_nearestLevel 90 = .ok (.iload_n 3, 1) := by decide +kernel
theorem dX11_nearestLevel_91 : decode cX11_nearestLevel 91 = .ok (.invokestatic 389, 3) := by decide +kernel
theorem dX11_nearestLevel_94 : decode cX11_nearestLevel 94 = .ok (.if_icmp .ge 7, 3) := by decide +kernel
theorem dX11_nearestLevel_97 : decode cX11_nearestLevel 97 = .ok (.iload 5, 2) := by decide +kernel
theorem dX11_nearestLevel_99 : decode cX11_nearestLevel 99 = .ok (.istore 4, 2) := by decide +kernel
theorem dX11_nearestLevel_101 : decode cX11_nearestLevel 101 = .ok (.iinc 5 1, 3) := by decide +kernel
theorem dX11_nearestLevel_104 : decode cX11_nearestLevel 104 = .ok (.goto (-98), 3) := by decide +kernel
theorem dX11_nearestLevel_107 : decode cX11_nearestLevel 107 = .ok (.iload 4, 2) := by decide +kernel
theorem dX11_nearestLevel_109 : decode cX11_nearestLevel 109 = .ok (.ireturn, 1) := by decide +kernel
theorem dX11_apart_0 : decode cX11_apart 0 = .ok (.iload_n 0, 1) := by decide +kernel
theorem dX11_apart_1 : decode cX11_apart 1 = .ok (.iload_n 1, 1) := by decide +kernel
theorem dX11_apart_2 : decode cX11_apart 2 = .ok (.if_icmp .ge 9, 3) := by decide +kernel
theorem dX11_apart_5 : decode cX11_apart 5 = .ok (.iload_n 1, 1) := by decide +kernel
theorem dX11_apart_6 : decode cX11_apart 6 = .ok (.iload_n 0, 1) := by decide +kernel
theorem dX11_apart_7 : decode cX11_apart 7 = .ok (.isub, 1) := by decide +kernel
theorem dX11_apart_8 : decode cX11_apart 8 = .ok (.goto 6, 3) := by decide +kernel
theorem dX11_apart_11 : decode cX11_apart 11 = .ok (.iload_n 0, 1) := by decide +kernel
theorem dX11_apart_12 : decode cX11_apart 12 = .ok (.iload_n 1, 1) := by decide +kernel
theorem dX11_apart_13 : decode cX11_apart 13 = .ok (.isub, 1) := by decide +kernel
theorem dX11_apart_14 : decode cX11_apart 14 = .ok (.ireturn, 1) := by decide +kernel
theorem dX11_likeModel_0 : decode cX11_likeModel 0 = .ok (.iconst (-1), 1) := by decide +kernel
theorem dX11_likeModel_1 : decode cX11_likeModel 1 = .ok (.istore 4, 2) := by decide +kernel
theorem dX11_likeModel_3 : decode cX11_likeModel 3 = .ok (.aload_n 0, 1) := by decide +kernel
theorem dX11_likeModel_4 : decode cX11_likeModel 4 = .ok (.iload_n 1, 1) := by decide +kernel
theorem dX11_likeModel_5 : decode cX11_likeModel 5 = .ok (.iload_n 2, 1) := by decide +kernel
theorem dX11_likeModel_6 : decode cX11_likeModel 6 = .ok (.invokevirtual 322, 3) := by decide +kernel
theorem dX11_likeModel_9 : decode cX11_likeModel 9 = .ok (.istore 5, 2) := by decide +kernel
theorem dX11_likeModel_11 : decode cX11_likeModel 11 = .ok (.iconst 0, 1) := by decide +kernel
theorem dX11_likeModel_12 : decode cX11_likeModel 12 = .ok (.istore 6, 2) := by decide +kernel
theorem dX11_likeModel_14 : decode cX11_likeModel 14 = .ok (.iload 6, 2) := by decide +kernel
theorem dX11_likeModel_16 : decode cX11_likeModel 16 = .ok (.aload_n 0, 1) := by decide +kernel
theorem dX11_likeModel_17 : decode cX11_likeModel 17 = .ok (.getfield 288, 3) := by decide +kernel
theorem dX11_likeModel_20 : decode cX11_likeModel 20 = .ok (.if_icmp .ge 114, 3) := by decide +kernel
theorem dX11_likeModel_23 : decode cX11_likeModel 23 = .ok (.iload 6, 2) := by decide +kernel
theorem dX11_likeModel_25 : decode cX11_likeModel 25 = .ok (.iload_n 2, 1) := by decide +kernel
theorem dX11_likeModel_26 : decode cX11_likeModel 26 = .ok (.if_icmp .eq 102, 3) := by decide +kernel
theorem dX11_likeModel_29 : decode cX11_likeModel 29 = .ok (.iconst 5, 1) := by decide +kernel
theorem dX11_likeModel_30 : decode cX11_likeModel 30 = .ok (.iload 5, 2) := by decide +kernel
theorem dX11_likeModel_32 : decode cX11_likeModel 32 = .ok (.aload_n 0, 1) := by decide +kernel
theorem dX11_likeModel_33 : decode cX11_likeModel 33 = .ok (.iload_n 1, 1) := by decide +kernel
theorem dX11_likeModel_34 : decode cX11_likeModel 34 = .ok (.iload 6, 2) := by decide +kernel
theorem dX11_likeModel_36 : decode cX11_likeModel 36 = .ok (.invokevirtual 322, 3) := by decide +kernel
theorem dX11_likeModel_39 : decode cX11_likeModel 39 = .ok (.invokestatic 389, 3) := by decide +kernel
theorem dX11_likeModel_42 : decode cX11_likeModel 42 = .ok (.imul, 1) := by decide +kernel
theorem dX11_likeModel_43 : decode cX11_likeModel 43 = .ok (.iload 5, 2) := by decide +kernel
theorem dX11_likeModel_45 : decode cX11_likeModel 45 = .ok (.if_icmp .gt 83, 3) := by decide +kernel
theorem dX11_likeModel_48 : decode cX11_likeModel 48 = .ok (.aload_n 0, 1) := by decide +kernel
theorem dX11_likeModel_49 : decode cX11_likeModel 49 = .ok (.iload_n 1, 1) := by decide +kernel
theorem dX11_likeModel_50 : decode cX11_likeModel 50 = .ok (.iload 6, 2) := by decide +kernel
theorem dX11_likeModel_52 : decode cX11_likeModel 52 = .ok (.iload_n 3, 1) := by decide +kernel
theorem dX11_likeModel_53 : decode cX11_likeModel 53 = .ok (.invokevirtual 392, 3) := by decide +kernel
theorem dX11_likeModel_56 : decode cX11_likeModel 56 = .ok (.iconst (-1), 1) := by decide +kernel
theorem dX11_likeModel_57 : decode cX11_likeModel 57 = .ok (.if_icmp .ne 6, 3) := by decide +kernel
theorem dX11_likeModel_60 : decode cX11_likeModel 60 = .ok (.goto 68, 3) := by decide +kernel
theorem dX11_likeModel_63 : decode cX11_likeModel 63 = .ok (.aload_n 0, 1) := by decide +kernel
theorem dX11_likeModel_64 : decode cX11_likeModel 64 = .ok (.getfield 25, 3) := by decide +kernel
theorem dX11_likeModel_67 : decode cX11_likeModel 67 = .ok (.iconst 3, 1) := by decide +kernel
theorem dX11_likeModel_68 : decode cX11_likeModel 68 = .ok (.iload 6, 2) := by decide +kernel
theorem dX11_likeModel_70 : decode cX11_likeModel 70 = .ok (.imul, 1) := by decide +kernel
theorem dX11_likeModel_71 : decode cX11_likeModel 71 = .ok (.iconst 1, 1) := by decide +kernel
theorem dX11_likeModel_72 : decode cX11_likeModel 72 = .ok (.iadd, 1) := by decide +kernel
theorem dX11_likeModel_73 : decode cX11_likeModel 73 = .ok (.iaload, 1) := by decide +kernel
theorem dX11_likeModel_74 : decode cX11_likeModel 74 = .ok (.aload_n 0, 1) := by decide +kernel
theorem dX11_likeModel_75 : decode cX11_likeModel 75 = .ok (.getfield 25, 3) := by decide +kernel
theorem dX11_likeModel_78 : decode cX11_likeModel 78 = .ok (.iconst 3, 1) := by decide +kernel
theorem dX11_likeModel_79 : decode cX11_likeModel 79 = .ok (.iload_n 2, 1) := by decide +kernel
theorem dX11_likeModel_80 : decode cX11_likeModel 80 = .ok (.imul, 1) := by decide +kernel
theorem dX11_likeModel_81 : decode cX11_likeModel 81 = .ok (.iconst 1, 1) := by decide +kernel
theorem dX11_likeModel_82 : decode cX11_likeModel 82 = .ok (.iadd, 1) := by decide +kernel
theorem dX11_likeModel_83 : decode cX11_likeModel 83 = .ok (.iaload, 1) := by decide +kernel
theorem dX11_likeModel_84 : decode cX11_likeModel 84 = .ok (.invokestatic 389, 3) := by decide +kernel
theorem dX11_likeModel_87 : decode cX11_likeModel 87 = .ok (.istore 7, 2) := by decide +kernel
theorem dX11_likeModel_89 : decode cX11_likeModel 89 = .ok (.iload 4, 2) := by decide +kernel
theorem dX11_likeModel_91 : decode cX11_likeModel 91 = .ok (.iconst (-1), 1) := by decide +kernel
theorem dX11_likeModel_92 : decode cX11_likeModel 92 = .ok (.if_icmp .eq 32, 3) := by decide +kernel
theorem dX11_likeModel_95 : decode cX11_likeModel 95 = .ok (.iload 7, 2) := by decide +kernel
theorem dX11_likeModel_97 : decode cX11_likeModel 97 = .ok (.aload_n 0, 1) := by decide +kernel
theorem dX11_likeModel_98 : decode cX11_likeModel 98 = .ok (.getfield 25, 3) := by decide +kernel
theorem dX11_likeModel_101 : decode cX11_likeModel 101 = .ok (.iconst 3, 1) := by decide +kernel
theorem dX11_likeModel_102 : decode cX11_likeModel 102 = .ok (.iload 4, 2) := by decide +kernel
theorem dX11_likeModel_104 : decode cX11_likeModel 104 = .ok (.imul, 1) := by decide +kernel
theorem dX11_likeModel_105 : decode cX11_likeModel 105 = .ok (.iconst 1, 1) := by decide +kernel
theorem dX11_likeModel_106 : decode cX11_likeModel 106 = .ok (.iadd, 1) := by decide +kernel
theorem dX11_likeModel_107 : decode cX11_likeModel 107 = .ok (.iaload, 1) := by decide +kernel
theorem dX11_likeModel_108 : decode cX11_likeModel 108 = .ok (.aload_n 0, 1) := by decide +kernel
theorem dX11_likeModel_109 : decode cX11_likeModel 109 = .ok (.getfield 25, 3) := by decide +kernel
theorem dX11_likeModel_112 : decode cX11_likeModel 112 = .ok (.iconst 3, 1) := by decide +kernel
theorem dX11_likeModel_113 : decode cX11_likeModel 113 = .ok (.iload_n 2, 1) := by decide +kernel
theorem dX11_likeModel_114 : decode cX11_likeModel 114 = .ok (.imul, 1) := by decide +kernel
theorem dX11_likeModel_115 : decode cX11_likeModel 115 = .ok (.iconst 1, 1) := by decide +kernel
theorem dX11_likeModel_116 : decode cX11_likeModel 116 = .ok (.iadd, 1) := by decide +kernel
theorem dX11_likeModel_117 : decode cX11_likeModel 117 = .ok (.iaload, 1) := by decide +kernel
theorem dX11_likeModel_118 : decode cX11_likeModel 118 = .ok (.invokestatic 389, 3) := by decide +kernel
theorem dX11_likeModel_121 : decode cX11_likeModel 121 = .ok (.if_icmp .ge 7, 3) := by decide +kernel
theorem dX11_likeModel_124 : decode cX11_likeModel 124 = .ok (.iload 6, 2) := by decide +kernel
theorem dX11_likeModel_126 : decode cX11_likeModel 126 = .ok (.istore 4, 2) := by decide +kernel
theorem dX11_likeModel_128 : decode cX11_likeModel 128 = .ok (.iinc 6 1, 3) := by decide +kernel
theorem dX11_likeModel_131 : decode cX11_likeModel 131 = .ok (.goto (-117), 3) := by decide +kernel
theorem dX11_likeModel_134 : decode cX11_likeModel 134 = .ok (.iload 4, 2) := by decide +kernel
theorem dX11_likeModel_136 : decode cX11_likeModel 136 = .ok (.ireturn, 1) := by decide +kernel
theorem dX11_finds_0 : decode cX11_finds 0 = .ok (.aload_n 0, 1) := by decide +kernel
theorem dX11_finds_1 : decode cX11_finds 1 = .ok (.invokevirtual 367, 3) := by decide +kernel
theorem dX11_finds_4 : decode cX11_finds 4 = .ok (.aload_n 0, 1) := by decide +kernel
theorem dX11_finds_5 : decode cX11_finds 5 = .ok (.iconst 1, 1) := by decide +kernel
theorem dX11_finds_6 : decode cX11_finds 6 = .ok (.putfield 395, 3) := by decide +kernel
theorem dX11_finds_9 : decode cX11_finds 9 = .ok (.aload_n 0, 1) := by decide +kernel
theorem dX11_finds_10 : decode cX11_finds 10 = .ok (.iload_n 2, 1) := by decide +kernel
theorem dX11_finds_11 : decode cX11_finds 11 = .ok (.putfield 398, 3) := by decide +kernel
theorem dX11_finds_14 : decode cX11_finds 14 = .ok (.aload_n 0, 1) := by decide +kernel
theorem dX11_finds_15 : decode cX11_finds 15 = .ok (.aload_n 0, 1) := by decide +kernel
theorem dX11_finds_16 : decode cX11_finds 16 = .ok (.iload_n 1, 1) := by decide +kernel
theorem dX11_finds_17 : decode cX11_finds 17 = .ok (.iload_n 2, 1) := by decide +kernel
theorem dX11_finds_18 : decode cX11_finds 18 = .ok (.iload_n 3, 1) := by decide +kernel
theorem dX11_finds_19 : decode cX11_finds 19 = .ok (.invokevirtual 392, 3) := by decide +kernel
theorem dX11_finds_22 : decode cX11_finds 22 = .ok (.putfield 401, 3) := by decide +kernel
theorem dX11_finds_25 : decode cX11_finds 25 = .ok (.aload_n 0, 1) := by decide +kernel
theorem dX11_finds_26 : decode cX11_finds 26 = .ok (.getfield 401, 3) := by decide +kernel
theorem dX11_finds_29 : decode cX11_finds 29 = .ok (.iconst (-1), 1) := by decide +kernel
theorem dX11_finds_30 : decode cX11_finds 30 = .ok (.if_icmp .eq 4, 3) := by decide +kernel
theorem dX11_finds_33 : decode cX11_finds 33 = .ok (.return_, 1) := by decide +kernel
theorem dX11_finds_34 : decode cX11_finds 34 = .ok (.aload_n 0, 1) := by decide +kernel
theorem dX11_finds_35 : decode cX11_finds 35 = .ok (.iconst 2, 1) := by decide +kernel
theorem dX11_finds_36 : decode cX11_finds 36 = .ok (.putfield 395, 3) := by decide +kernel
theorem dX11_finds_39 : decode cX11_finds 39 = .ok (.aload_n 0, 1) := by decide +kernel
theorem dX11_finds_40 : decode cX11_finds 40 = .ok (.aload_n 0, 1) := by decide +kernel
theorem dX11_finds_41 : decode cX11_finds 41 = .ok (.iload_n 1, 1) := by decide +kernel
theorem dX11_finds_42 : decode cX11_finds 42 = .ok (.iload_n 2, 1) := by decide +kernel
theorem dX11_finds_43 : decode cX11_finds 43 = .ok (.iload_n 3, 1) := by decide +kernel
theorem dX11_finds_44 : decode cX11_finds 44 = .ok (.invokevirtual 404, 3) := by decide +kernel
theorem dX11_finds_47 : decode cX11_finds 47 = .ok (.putfield 398, 3) := by decide +kernel
theorem dX11_finds_50 : decode cX11_finds 50 = .ok (.aload_n 0, 1) := by decide +kernel
theorem dX11_finds_51 : decode cX11_finds 51 = .ok (.getfield 398, 3) := by decide +kernel
theorem dX11_finds_54 : decode cX11_finds 54 = .ok (.iconst (-1), 1) := by decide +kernel
theorem dX11_finds_55 : decode cX11_finds 55 = .ok (.if_icmp .eq 18, 3) := by decide +kernel
theorem dX11_finds_58 : decode cX11_finds 58 = .ok (.aload_n 0, 1) := by decide +kernel
theorem dX11_finds_59 : decode cX11_finds 59 = .ok (.aload_n 0, 1) := by decide +kernel
theorem dX11_finds_60 : decode cX11_finds 60 = .ok (.iload_n 1, 1) := by decide +kernel
theorem dX11_finds_61 : decode cX11_finds 61 = .ok (.aload_n 0, 1) := by decide +kernel
theorem dX11_finds_62 : decode cX11_finds 62 = .ok (.getfield 398, 3) := by decide +kernel
theorem dX11_finds_65 : decode cX11_finds 65 = .ok (.iload_n 3, 1) := by decide +kernel
theorem dX11_finds_66 : decode cX11_finds 66 = .ok (.invokevirtual 392, 3) := by decide +kernel
theorem dX11_finds_69 : decode cX11_finds 69 = .ok (.putfield 401, 3) := by decide +kernel
theorem dX11_finds_72 : decode cX11_finds 72 = .ok (.return_, 1) := by decide +kernel
theorem dX11_finds_73 : decode cX11_finds 73 = .ok (.aload_n 0, 1) := by decide +kernel
theorem dX11_finds_74 : decode cX11_finds 74 = .ok (.iconst 3, 1) := by decide +kernel
theorem dX11_finds_75 : decode cX11_finds 75 = .ok (.putfield 395, 3) := by decide +kernel
theorem dX11_finds_78 : decode cX11_finds 78 = .ok (.return_, 1) := by decide +kernel
theorem dX11_averageIn_0 : decode cX11_averageIn 0 = .ok (.lconst 0, 1) := by decide +kernel
theorem dX11_averageIn_1 : decode cX11_averageIn 1 = .ok (.lstore 5, 2) := by decide +kernel
theorem dX11_averageIn_3 : decode cX11_averageIn 3 = .ok (.lconst 0, 1) := by decide +kernel
theorem dX11_averageIn_4 : decode cX11_averageIn 4 = .ok (.lstore 7, 2) := by decide +kernel
theorem dX11_averageIn_6 : decode cX11_averageIn 6 = .ok (.iconst 0, 1) := by decide +kernel
theorem dX11_averageIn_7 : decode cX11_averageIn 7 = .ok (.istore 9, 2) := by decide +kernel
theorem dX11_averageIn_9 : decode cX11_averageIn 9 = .ok (.iload 9, 2) := by decide +kernel
theorem dX11_averageIn_11 : decode cX11_averageIn 11 = .ok (.aload_n 0, 1) := by decide +kernel
theorem dX11_averageIn_12 : decode cX11_averageIn 12 = .ok (.getfield 7, 3) := by decide +kernel
theorem dX11_averageIn_15 : decode cX11_averageIn 15 = .ok (.bipush 34, 2) := by decide +kernel
theorem dX11_averageIn_17 : decode cX11_averageIn 17 = .ok (.iaload, 1) := by decide +kernel
theorem dX11_averageIn_18 : decode cX11_averageIn 18 = .ok (.if_icmp .ge 88, 3) := by decide +kernel
theorem dX11_averageIn_21 : decode cX11_averageIn 21 = .ok (.aload_n 0, 1) := by decide +kernel
theorem dX11_averageIn_22 : decode cX11_averageIn 22 = .ok (.iload 9, 2) := by decide +kernel
theorem dX11_averageIn_24 : decode cX11_averageIn 24 = .ok (.iload_n 1, 1) := by decide +kernel
theorem dX11_averageIn_25 : decode cX11_averageIn 25 = .ok (.iload_n 2, 1) := by decide +kernel
theorem dX11_averageIn_26 : decode cX11_averageIn 26 = .ok (.invokevirtual 385, 3) := by decide +kernel
theorem dX11_averageIn_29 : decode cX11_averageIn 29 = .ok (.ifCond .eq 71, 3) := by decide +kernel
theorem dX11_averageIn_32 : decode cX11_averageIn 32 = .ok (.aload_n 0, 1) := by decide +kernel
theorem dX11_averageIn_33 : decode cX11_averageIn 33 = .ok (.iload 9, 2) := by decide +kernel
theorem dX11_averageIn_35 : decode cX11_averageIn 35 = .ok (.iconst 3, 1) := by decide +kernel
theorem dX11_averageIn_36 : decode cX11_averageIn 36 = .ok (.invokevirtual 305, 3) := by decide +kernel
theorem dX11_averageIn_39 : decode cX11_averageIn 39 = .ok (.iload_n 3, 1) := by decide +kernel
theorem dX11_averageIn_40 : decode cX11_averageIn 40 = .ok (.if_icmp .ne 60, 3) := by decide +kernel
theorem dX11_averageIn_43 : decode cX11_averageIn 43 = .ok (.iload 4, 2) := by decide +kernel
theorem dX11_averageIn_45 : decode cX11_averageIn 45 = .ok (.bipush (-2), 2) := by decide +kernel
theorem dX11_averageIn_47 : decode cX11_averageIn 47 = .ok (.if_icmp .eq 18, 3) := by decide +kernel
theorem dX11_averageIn_50 : decode cX11_averageIn 50 = .ok (.aload_n 0, 1) := by decide +kernel
theorem dX11_averageIn_51 : decode cX11_averageIn 51 = .ok (.iload 9, 2) := by decide +kernel
theorem dX11_averageIn_53 : decode cX11_averageIn 53 = .ok (.iconst 4, 1) := by decide +kernel
theorem dX11_averageIn_54 : decode cX11_averageIn 54 = .ok (.invokevirtual 305, 3) := by decide +kernel
theorem dX11_averageIn_57 : decode cX11_averageIn 57 = .ok (.iload 4, 2) := by decide +kernel
theorem dX11_averageIn_59 : decode cX11_averageIn 59 = .ok (.if_icmp .eq 6, 3) := by decide +kernel
theorem dX11_averageIn_62 : decode cX11_averageIn 62 = .ok (.goto 38, 3) := by decide +kernel
theorem dX11_averageIn_65 : decode cX11_averageIn 65 = .ok (.lload 5, 2) := by decide +kernel
theorem dX11_averageIn_67 : decode cX11_averageIn 67 = .ok (.aload_n 0, 1) := by decide +kernel
theorem dX11_averageIn_68 : decode cX11_averageIn 68 = .ok (.getfield 69, 3) := by decide +kernel
theorem dX11_averageIn_71 : decode cX11_averageIn 71 = .ok (.iload 9, 2) := by decide +kernel
theorem dX11_averageIn_73 : decode cX11_averageIn 73 = .ok (.iaload, 1) := by decide +kernel
theorem dX11_averageIn_74 : decode cX11_averageIn 74 = .ok (.i2l, 1) := by decide +kernel
theorem dX11_averageIn_75 : decode cX11_averageIn 75 = .ok (.aload_n 0, 1) := by decide +kernel
theorem dX11_averageIn_76 : decode cX11_averageIn 76 = .ok (.iload 9, 2) := by decide +kernel
theorem dX11_averageIn_78 : decode cX11_averageIn 78 = .ok (.iconst 5, 1) := by decide +kernel
theorem dX11_averageIn_79 : decode cX11_averageIn 79 = .ok (.invokevirtual 305, 3) := by decide +kernel
theorem dX11_averageIn_82 : decode cX11_averageIn 82 = .ok (.i2l, 1) := by decide +kernel
theorem dX11_averageIn_83 : decode cX11_averageIn 83 = .ok (.lmul, 1) := by decide +kernel
theorem dX11_averageIn_84 : decode cX11_averageIn 84 = .ok (.ladd, 1) := by decide +kernel
theorem dX11_averageIn_85 : decode cX11_averageIn 85 = .ok (.lstore 5, 2) := by decide +kernel
theorem dX11_averageIn_87 : decode cX11_averageIn 87 = .ok (.lload 7, 2) := by decide +kernel
theorem dX11_averageIn_89 : decode cX11_averageIn 89 = .ok (.aload_n 0, 1) := by decide +kernel
theorem dX11_averageIn_90 : decode cX11_averageIn 90 = .ok (.iload 9, 2) := by decide +kernel
theorem dX11_averageIn_92 : decode cX11_averageIn 92 = .ok (.iconst 5, 1) := by decide +kernel
theorem dX11_averageIn_93 : decode cX11_averageIn 93 = .ok (.invokevirtual 305, 3) := by decide +kernel
theorem dX11_averageIn_96 : decode cX11_averageIn 96 = .ok (.i2l, 1) := by decide +kernel
theorem dX11_averageIn_97 : decode cX11_averageIn 97 = .ok (.ladd, 1) := by decide +kernel
theorem dX11_averageIn_98 : decode cX11_averageIn 98 = .ok (.lstore 7, 2) := by decide +kernel
theorem dX11_averageIn_100 : decode cX11_averageIn 100 = .ok (.iinc 9 1, 3) := by decide +kernel
theorem dX11_averageIn_103 : decode cX11_averageIn 103 = .ok (.goto (-94), 3) := by decide +kernel
theorem dX11_averageIn_106 : decode cX11_averageIn 106 = .ok (.lload 7, 2) := by decide +kernel
theorem dX11_averageIn_108 : decode cX11_averageIn 108 = .ok (.lconst 0, 1) := by decide +kernel
theorem dX11_averageIn_109 : decode cX11_averageIn 109 = .ok (.lcmp, 1) := by decide +kernel
theorem dX11_averageIn_110 : decode cX11_averageIn 110 = .ok (.ifCond .ne 9, 3) := by decide +kernel
theorem dX11_averageIn_113 : decode cX11_averageIn 113 = .ok (.ldc2_w 407, 3) := by decide +kernel
theorem dX11_averageIn_116 : decode cX11_averageIn 116 = .ok (.goto 12, 3) := by decide +kernel
theorem dX11_averageIn_119 : decode cX11_averageIn 119 = .ok (.ldc2_w 409, 3) := by decide +kernel
theorem dX11_averageIn_122 : decode cX11_averageIn 122 = .ok (.lload 5, 2) := by decide +kernel
theorem dX11_averageIn_124 : decode cX11_averageIn 124 = .ok (.lmul, 1) := by decide +kernel
theorem dX11_averageIn_125 : decode cX11_averageIn 125 = .ok (.lload 7, 2) := by decide +kernel
theorem dX11_averageIn_127 : decode cX11_averageIn 127 = .ok (.ldiv, 1) := by decide +kernel
theorem dX11_averageIn_128 : decode cX11_averageIn 128 = .ok (.lreturn, 1) := by decide +kernel
theorem dX11_worthOf_0 : decode cX11_worthOf 0 = .ok (.aload_n 0, 1) := by decide +kernel
theorem dX11_worthOf_1 : decode cX11_worthOf 1 = .ok (.iload_n 1, 1) := by decide +kernel
theorem dX11_worthOf_2 : decode cX11_worthOf 2 = .ok (.iload_n 2, 1) := by decide +kernel
theorem dX11_worthOf_3 : decode cX11_worthOf 3 = .ok (.iload_n 3, 1) := by decide +kernel
theorem dX11_worthOf_4 : decode cX11_worthOf 4 = .ok (.invokevirtual 411, 3) := by decide +kernel
theorem dX11_worthOf_7 : decode cX11_worthOf 7 = .ok (.aload_n 0, 1) := by decide +kernel
theorem dX11_worthOf_8 : decode cX11_worthOf 8 = .ok (.iload_n 1, 1) := by decide +kernel
theorem dX11_worthOf_9 : decode cX11_worthOf 9 = .ok (.iload_n 2, 1) := by decide +kernel
theorem dX11_worthOf_10 : decode cX11_worthOf 10 = .ok (.invokevirtual 322, 3) := by decide +kernel
theorem dX11_worthOf_13 : decode cX11_worthOf 13 = .ok (.istore 5, 2) := by decide +kernel
theorem dX11_worthOf_15 : decode cX11_worthOf 15 = .ok (.aload_n 0, 1) := by decide +kernel
theorem dX11_worthOf_16 : decode cX11_worthOf 16 = .ok (.getfield 395, 3) := by decide +kernel
theorem dX11_worthOf_19 : decode cX11_worthOf 19 = .ok (.iconst 3, 1) := by decide +kernel
theorem dX11_worthOf_20 : decode cX11_worthOf 20 = .ok (.if_icmp .ne 25, 3) := by decide +kernel
theorem dX11_worthOf_23 : decode cX11_worthOf 23 = .ok (.ldc2_w 409, 3) := by decide +kernel
theorem dX11_worthOf_26 : decode cX11_worthOf 26 = .ok (.iload 5, 2) := by decide +kernel
theorem dX11_worthOf_28 : decode cX11_worthOf 28 = .ok (.iload 5, 2) := by decide +kernel
theorem dX11_worthOf_30 : decode cX11_worthOf 30 = .ok (.aload_n 0, 1) := by decide +kernel
theorem dX11_worthOf_31 : decode cX11_worthOf 31 = .ok (.getfield 7, 3) := by decide +kernel
theorem dX11_worthOf_34 : decode cX11_worthOf 34 = .ok (.bipush 32, 2) := by decide +kernel
theorem dX11_worthOf_36 : decode cX11_worthOf 36 = .ok (.iaload, 1) := by decide +kernel
theorem dX11_worthOf_37 : decode cX11_worthOf 37 = .ok (.imul, 1) := by decide +kernel
theorem dX11_worthOf_38 : decode cX11_worthOf 38 = .ok (.bipush 100, 2) := by decide +kernel
theorem dX11_worthOf_40 : decode cX11_worthOf 40 = .ok (.idiv, 1) := by decide +kernel
theorem dX11_worthOf_41 : decode cX11_worthOf 41 = .ok (.iadd, 1) := by decide +kernel
theorem dX11_worthOf_42 : decode cX11_worthOf 42 = .ok (.i2l, 1) := by decide +kernel
theorem dX11_worthOf_43 : decode cX11_worthOf 43 = .ok (.lmul, 1) := by decide +kernel
theorem dX11_worthOf_44 : decode cX11_worthOf 44 = .ok (.lreturn, 1) := by decide +kernel
theorem dX11_worthOf_45 : decode cX11_worthOf 45 = .ok (.iload 4, 2) := by decide +kernel
theorem dX11_worthOf_47 : decode cX11_worthOf 47 = .ok (.iconst (-1), 1) := by decide +kernel
theorem dX11_worthOf_48 : decode cX11_worthOf 48 = .ok (.if_icmp .ne 9, 3) := by decide +kernel
theorem dX11_worthOf_51 : decode cX11_worthOf 51 = .ok (.ldc2_w 407, 3) := by decide +kernel
theorem dX11_worthOf_54 : decode cX11_worthOf 54 = .ok (.goto 18, 3) := by decide +kernel
theorem dX11_worthOf_57 : decode cX11_worthOf 57 = .ok (.aload_n 0, 1) := by decide +kernel
theorem dX11_worthOf_58 : decode cX11_worthOf 58 = .ok (.iload_n 1, 1) := by decide +kernel
theorem dX11_worthOf_59 : decode cX11_worthOf 59 = .ok (.aload_n 0, 1) := by decide +kernel
theorem dX11_worthOf_60 : decode cX11_worthOf 60 = .ok (.getfield 398, 3) := by decide +kernel
theorem dX11_worthOf_63 : decode cX11_worthOf 63 = .ok (.aload_n 0, 1) := by decide +kernel
theorem dX11_worthOf_64 : decode cX11_worthOf 64 = .ok (.getfield 401, 3) := by decide +kernel
theorem dX11_worthOf_67 : decode cX11_worthOf 67 = .ok (.iload 4, 2) := by decide +kernel
theorem dX11_worthOf_69 : decode cX11_worthOf 69 = .ok (.invokevirtual 415, 3) := by decide +kernel
theorem dX11_worthOf_72 : decode cX11_worthOf 72 = .ok (.lstore 6, 2) := by decide +kernel
theorem dX11_worthOf_74 : decode cX11_worthOf 74 = .ok (.lload 6, 2) := by decide +kernel
theorem dX11_worthOf_76 : decode cX11_worthOf 76 = .ok (.ldc2_w 407, 3) := by decide +kernel
theorem dX11_worthOf_79 : decode cX11_worthOf 79 = .ok (.lcmp, 1) := by decide +kernel
theorem dX11_worthOf_80 : decode cX11_worthOf 80 = .ok (.ifCond .ne 20, 3) := by decide +kernel
theorem dX11_worthOf_83 : decode cX11_worthOf 83 = .ok (.aload_n 0, 1) := by decide +kernel
theorem dX11_worthOf_84 : decode cX11_worthOf 84 = .ok (.iload_n 1, 1) := by decide +kernel
theorem dX11_worthOf_85 : decode cX11_worthOf 85 = .ok (.aload_n 0, 1) := by decide +kernel
theorem dX11_worthOf_86 : decode cX11_worthOf 86 = .ok (.getfield 398, 3) := by decide +kernel
theorem dX11_worthOf_89 : decode cX11_worthOf 89 = .ok (.aload_n 0, 1) := by decide +kernel
theorem dX11_worthOf_90 : decode cX11_worthOf 90 = .ok (.getfield 401, 3) := by decide +kernel
theorem dX11_worthOf_93 : decode cX11_worthOf 93 = .ok (.bipush (-2), 2) := by decide +kernel
theorem dX11_worthOf_95 : decode cX11_worthOf 95 = .ok (.invokevirtual 415, 3) := by decide +kernel
theorem dX11_worthOf_98 : decode cX11_worthOf 98 = .ok (.lstore 6, 2) := by decide +kernel
theorem dX11_worthOf_100 : decode cX11_worthOf 100 = .ok (.lload 6, 2) := by decide +kernel
theorem dX11_worthOf_102 : decode cX11_worthOf 102 = .ok (.ldc2_w 409, 3) := by decide +kernel
theorem dX11_worthOf_105 : decode cX11_worthOf 105 = .ok (.aload_n 0, 1) := by decide +kernel
theorem dX11_worthOf_106 : decode cX11_worthOf 106 = .ok (.getfield 7, 3) := by decide +kernel
theorem dX11_worthOf_109 : decode cX11_worthOf 109 = .ok (.bipush 33, 2) := by decide +kernel
theorem dX11_worthOf_111 : decode cX11_worthOf 111 = .ok (.iaload, 1) := by decide +kernel
theorem dX11_worthOf_112 : decode cX11_worthOf 112 = .ok (.i2l, 1) := by decide +kernel
theorem dX11_worthOf_113 : decode cX11_worthOf 113 = .ok (.lmul, 1) := by decide +kernel
theorem dX11_worthOf_114 : decode cX11_worthOf 114 = .ok (.iload_n 3, 1) := by decide +kernel
theorem dX11_worthOf_115 : decode cX11_worthOf 115 = .ok (.aload_n 0, 1) := by decide +kernel
theorem dX11_worthOf_116 : decode cX11_worthOf 116 = .ok (.getfield 401, 3) := by decide +kernel
theorem dX11_worthOf_119 : decode cX11_worthOf 119 = .ok (.isub, 1) := by decide +kernel
theorem dX11_worthOf_120 : decode cX11_worthOf 120 = .ok (.i2l, 1) := by decide +kernel
theorem dX11_worthOf_121 : decode cX11_worthOf 121 = .ok (.lmul, 1) := by decide +kernel
theorem dX11_worthOf_122 : decode cX11_worthOf 122 = .ok (.ladd, 1) := by decide +kernel
theorem dX11_worthOf_123 : decode cX11_worthOf 123 = .ok (.lstore 6, 2) := by decide +kernel
theorem dX11_worthOf_125 : decode cX11_worthOf 125 = .ok (.lload 6, 2) := by decide +kernel
theorem dX11_worthOf_127 : decode cX11_worthOf 127 = .ok (.aload_n 0, 1) := by decide +kernel
theorem dX11_worthOf_128 : decode cX11_worthOf 128 = .ok (.getfield 395, 3) := by decide +kernel
theorem dX11_worthOf_131 : decode cX11_worthOf 131 = .ok (.iconst 2, 1) := by decide +kernel
theorem dX11_worthOf_132 : decode cX11_worthOf 132 = .ok (.if_icmp .ne 23, 3) := by decide +kernel
theorem dX11_worthOf_135 : decode cX11_worthOf 135 = .ok (.ldc2_w 409, 3) := by decide +kernel
theorem dX11_worthOf_138 : decode cX11_worthOf 138 = .ok (.iload 5, 2) := by decide +kernel
theorem dX11_worthOf_140 : decode cX11_worthOf 140 = .ok (.aload_n 0, 1) := by decide +kernel
theorem dX11_worthOf_141 : decode cX11_worthOf 141 = .ok (.iload_n 1, 1) := by decide +kernel
theorem dX11_worthOf_142 : decode cX11_worthOf 142 = .ok (.aload_n 0, 1) := by decide +kernel
theorem dX11_worthOf_143 : decode cX11_worthOf 143 = .ok (.getfield 398, 3) := by decide +kernel
theorem dX11_worthOf_146 : decode cX11_worthOf 146 = .ok (.invokevirtual 322, 3) := by decide +kernel
theorem dX11_worthOf_149 : decode cX11_worthOf 149 = .ok (.isub, 1) := by decide +kernel
theorem dX11_worthOf_150 : decode cX11_worthOf 150 = .ok (.i2l, 1) := by decide +kernel
theorem dX11_worthOf_151 : decode cX11_worthOf 151 = .ok (.lmul, 1) := by decide +kernel
theorem dX11_worthOf_152 : decode cX11_worthOf 152 = .ok (.goto 4, 3) := by decide +kernel
theorem dX11_worthOf_155 : decode cX11_worthOf 155 = .ok (.lconst 0, 1) := by decide +kernel
theorem dX11_worthOf_156 : decode cX11_worthOf 156 = .ok (.ladd, 1) := by decide +kernel
theorem dX11_worthOf_157 : decode cX11_worthOf 157 = .ok (.lstore 6, 2) := by decide +kernel
theorem dX11_worthOf_159 : decode cX11_worthOf 159 = .ok (.lload 6, 2) := by decide +kernel
theorem dX11_worthOf_161 : decode cX11_worthOf 161 = .ok (.lconst 0, 1) := by decide +kernel
theorem dX11_worthOf_162 : decode cX11_worthOf 162 = .ok (.lcmp, 1) := by decide +kernel
theorem dX11_worthOf_163 : decode cX11_worthOf 163 = .ok (.ifCond .ge 7, 3) := by decide +kernel
theorem dX11_worthOf_166 : decode cX11_worthOf 166 = .ok (.lconst 0, 1) := by decide +kernel
theorem dX11_worthOf_167 : decode cX11_worthOf 167 = .ok (.goto 5, 3) := by decide +kernel
theorem dX11_worthOf_170 : decode cX11_worthOf 170 = .ok (.lload 6, 2) := by decide +kernel
theorem dX11_worthOf_172 : decode cX11_worthOf 172 = .ok (.lreturn, 1) := by decide +kernel
theorem dX11_worth_0 : decode cX11_worth 0 = .ok (.aload_n 0, 1) := by decide +kernel
theorem dX11_worth_1 : decode cX11_worth 1 = .ok (.aload_n 0, 1) := by decide +kernel
theorem dX11_worth_2 : decode cX11_worth 2 = .ok (.iload_n 1, 1) := by decide +kernel
theorem dX11_worth_3 : decode cX11_worth 3 = .ok (.invokevirtual 311, 3) := by decide +kernel
theorem dX11_worth_6 : decode cX11_worth 6 = .ok (.ifCond .eq 11, 3) := by decide +kernel
theorem dX11_worth_9 : decode cX11_worth 9 = .ok (.aload_n 0, 1) := by decide +kernel
theorem dX11_worth_10 : decode cX11_worth 10 = .ok (.iload_n 2, 1) := by decide +kernel
theorem dX11_worth_11 : decode cX11_worth 11 = .ok (.invokevirtual 314, 3) := by decide +kernel
theorem dX11_worth_14 : decode cX11_worth 14 = .ok (.ifCond .ne 7, 3) := by decide +kernel
theorem dX11_worth_17 : decode cX11_worth 17 = .ok (.iconst 1, 1) := by decide +kernel
theorem dX11_worth_18 : decode cX11_worth 18 = .ok (.goto 35, 3) := by decide +kernel
theorem dX11_worth_21 : decode cX11_worth 21 = .ok (.iload_n 3, 1) := by decide +kernel
theorem dX11_worth_22 : decode cX11_worth 22 = .ok (.i2l, 1) := by decide +kernel
theorem dX11_worth_23 : decode cX11_worth 23 = .ok (.lconst 0, 1) := by decide +kernel
theorem dX11_worth_24 : decode cX11_worth 24 = .ok (.ldc2_w 370, 3) := by decide +kernel
theorem dX11_worth_27 : decode cX11_worth 27 = .ok (.invokestatic 301, 3) := by decide +kernel
theorem dX11_worth_30 : decode cX11_worth 30 = .ok (.ifCond .eq 22, 3) := by decide +kernel
theorem dX11_worth_33 : decode cX11_worth 33 = .ok (.iload 4, 2) := by decide +kernel
theorem dX11_worth_35 : decode cX11_worth 35 = .ok (.i2l, 1) := by decide +kernel
theorem dX11_worth_36 : decode cX11_worth 36 = .ok (.ldc2_w 407, 3) := by decide +kernel
theorem dX11_worth_39 : decode cX11_worth 39 = .ok (.ldc2_w 372, 3) := by decide +kernel
theorem dX11_worth_42 : decode cX11_worth 42 = .ok (.invokestatic 301, 3) := by decide +kernel
theorem dX11_worth_45 : decode cX11_worth 45 = .ok (.ifCond .eq 7, 3) := by decide +kernel
theorem dX11_worth_48 : decode cX11_worth 48 = .ok (.iconst 0, 1) := by decide +kernel
theorem dX11_worth_49 : decode cX11_worth 49 = .ok (.goto 4, 3) := by decide +kernel
theorem dX11_worth_52 : decode cX11_worth 52 = .ok (.iconst 2, 1) := by decide +kernel
theorem dX11_worth_53 : decode cX11_worth 53 = .ok (.putfield 104, 3) := by decide +kernel
theorem dX11_worth_56 : decode cX11_worth 56 = .ok (.aload_n 0, 1) := by decide +kernel
theorem dX11_worth_57 : decode cX11_worth 57 = .ok (.getfield 104, 3) := by decide +kernel
theorem dX11_worth_60 : decode cX11_worth 60 = .ok (.ifCond .le 7, 3) := by decide +kernel
theorem dX11_worth_63 : decode cX11_worth 63 = .ok (.lconst 0, 1) := by decide +kernel
theorem dX11_worth_64 : decode cX11_worth 64 = .ok (.goto 12, 3) := by decide +kernel
theorem dX11_worth_67 : decode cX11_worth 67 = .ok (.aload_n 0, 1) := by decide +kernel
theorem dX11_worth_68 : decode cX11_worth 68 = .ok (.iload_n 1, 1) := by decide +kernel
theorem dX11_worth_69 : decode cX11_worth 69 = .ok (.iload_n 2, 1) := by decide +kernel
theorem dX11_worth_70 : decode cX11_worth 70 = .ok (.iload_n 3, 1) := by decide +kernel
theorem dX11_worth_71 : decode cX11_worth 71 = .ok (.iload 4, 2) := by decide +kernel
theorem dX11_worth_73 : decode cX11_worth 73 = .ok (.invokevirtual 419, 3) := by decide +kernel
theorem dX11_worth_76 : decode cX11_worth 76 = .ok (.lreturn, 1) := by decide +kernel
theorem dX11_found_0 : decode cX11_found 0 = .ok (.aload_n 0, 1) := by decide +kernel
theorem dX11_found_1 : decode cX11_found 1 = .ok (.aload_n 0, 1) := by decide +kernel
theorem dX11_found_2 : decode cX11_found 2 = .ok (.iload_n 1, 1) := by decide +kernel
theorem dX11_found_3 : decode cX11_found 3 = .ok (.invokevirtual 311, 3) := by decide +kernel
theorem dX11_found_6 : decode cX11_found 6 = .ok (.ifCond .eq 11, 3) := by decide +kernel
theorem dX11_found_9 : decode cX11_found 9 = .ok (.aload_n 0, 1) := by decide +kernel
theorem dX11_found_10 : decode cX11_found 10 = .ok (.iload_n 2, 1) := by decide +kernel
theorem dX11_found_11 : decode cX11_found 11 = .ok (.invokevirtual 314, 3) := by decide +kernel
theorem dX11_found_14 : decode cX11_found 14 = .ok (.ifCond .ne 7, 3) := by decide +kernel
theorem dX11_found_17 : decode cX11_found 17 = .ok (.iconst 1, 1) := by decide +kernel
theorem dX11_found_18 : decode cX11_found 18 = .ok (.goto 37, 3) := by decide +kernel
theorem dX11_found_21 : decode cX11_found 21 = .ok (.iload_n 3, 1) := by decide +kernel
theorem dX11_found_22 : decode cX11_found 22 = .ok (.i2l, 1) := by decide +kernel
theorem dX11_found_23 : decode cX11_found 23 = .ok (.lconst 0, 1) := by decide +kernel
theorem dX11_found_24 : decode cX11_found 24 = .ok (.ldc2_w 370, 3) := by decide +kernel
theorem dX11_found_27 : decode cX11_found 27 = .ok (.invokestatic 301, 3) := by decide +kernel
theorem dX11_found_30 : decode cX11_found 30 = .ok (.ifCond .ne 7, 3) := by decide +kernel
theorem dX11_found_33 : decode cX11_found 33 = .ok (.iconst 2, 1) := by decide +kernel
theorem dX11_found_34 : decode cX11_found 34 = .ok (.goto 21, 3) := by decide +kernel
theorem dX11_found_37 : decode cX11_found 37 = .ok (.iload 4, 2) := by decide +kernel
theorem dX11_found_39 : decode cX11_found 39 = .ok (.i2l, 1) := by decide +kernel
theorem dX11_found_40 : decode cX11_found 40 = .ok (.lconst 0, 1) := by decide +kernel
theorem dX11_found_41 : decode cX11_found 41 = .ok (.ldc2_w 320, 3) := by decide +kernel
theorem dX11_found_44 : decode cX11_found 44 = .ok (.invokestatic 301, 3) := by decide +kernel
theorem dX11_found_47 : decode cX11_found 47 = .ok (.ifCond .eq 7, 3) := by decide +kernel
theorem dX11_found_50 : decode cX11_found 50 = .ok (.iconst 0, 1) := by decide +kernel
theorem dX11_found_51 : decode cX11_found 51 = .ok (.goto 4, 3) := by decide +kernel
theorem dX11_found_54 : decode cX11_found 54 = .ok (.iconst 3, 1) := by decide +kernel
theorem dX11_found_55 : decode cX11_found 55 = .ok (.putfield 104, 3) := by decide +kernel
theorem dX11_found_58 : decode cX11_found 58 = .ok (.aload_n 0, 1) := by decide +kernel
theorem dX11_found_59 : decode cX11_found 59 = .ok (.getfield 104, 3) := by decide +kernel
theorem dX11_found_62 : decode cX11_found 62 = .ok (.ifCond .le 5, 3) := by decide +kernel
theorem dX11_found_65 : decode cX11_found 65 = .ok (.iconst 0, 1) := by decide +kernel
theorem dX11_found_66 : decode cX11_found 66 = .ok (.ireturn, 1) := by decide +kernel
theorem dX11_found_67 : decode cX11_found 67 = .ok (.aload_n 0, 1) := by decide +kernel
theorem dX11_found_68 : decode cX11_found 68 = .ok (.iload_n 1, 1) := by decide +kernel
theorem dX11_found_69 : decode cX11_found 69 = .ok (.iload_n 2, 1) := by decide +kernel
theorem dX11_found_70 : decode cX11_found 70 = .ok (.iload_n 3, 1) := by decide +kernel
theorem dX11_found_71 : decode cX11_found 71 = .ok (.invokevirtual 411, 3) := by decide +kernel
theorem dX11_found_74 : decode cX11_found 74 = .ok (.iload 4, 2) := by decide +kernel
theorem dX11_found_76 : decode cX11_found 76 = .ok (.ifCond .ne 10, 3) := by decide +kernel
theorem dX11_found_79 : decode cX11_found 79 = .ok (.aload_n 0, 1) := by decide +kernel
theorem dX11_found_80 : decode cX11_found 80 = .ok (.getfield 395, 3) := by decide +kernel
theorem dX11_found_83 : decode cX11_found 83 = .ok (.goto 32, 3) := by decide +kernel
theorem dX11_found_86 : decode cX11_found 86 = .ok (.aload_n 0, 1) := by decide +kernel
theorem dX11_found_87 : decode cX11_found 87 = .ok (.getfield 395, 3) := by decide +kernel
theorem dX11_found_90 : decode cX11_found 90 = .ok (.iconst 3, 1) := by decide +kernel
theorem dX11_found_91 : decode cX11_found 91 = .ok (.if_icmp .ne 7, 3) := by decide +kernel
theorem dX11_found_94 : decode cX11_found 94 = .ok (.iconst (-1), 1) := by decide +kernel
theorem dX11_found_95 : decode cX11_found 95 = .ok (.goto 20, 3) := by decide +kernel
theorem dX11_found_98 : decode cX11_found 98 = .ok (.iload 4, 2) := by decide +kernel
theorem dX11_found_100 : decode cX11_found 100 = .ok (.iconst 1, 1) := by decide +kernel
theorem dX11_found_101 : decode cX11_found 101 = .ok (.if_icmp .ne 10, 3) := by decide +kernel
theorem dX11_found_104 : decode cX11_found 104 = .ok (.aload_n 0, 1) := by decide +kernel
theorem dX11_found_105 : decode cX11_found 105 = .ok (.getfield 398, 3) := by decide +kernel
theorem dX11_found_108 : decode cX11_found 108 = .ok (.goto 7, 3) := by decide +kernel
theorem dX11_found_111 : decode cX11_found 111 = .ok (.aload_n 0, 1) := by decide +kernel
theorem dX11_found_112 : decode cX11_found 112 = .ok (.getfield 401, 3) := by decide +kernel
theorem dX11_found_115 : decode cX11_found 115 = .ok (.ireturn, 1) := by decide +kernel
theorem dX11_isExport_0 : decode cX11_isExport 0 = .ok (.aload_n 0, 1) := by decide +kernel
theorem dX11_isExport_1 : decode cX11_isExport 1 = .ok (.iload_n 1, 1) := by decide +kernel
theorem dX11_isExport_2 : decode cX11_isExport 2 = .ok (.invokevirtual 341, 3) := by decide +kernel
theorem dX11_isExport_5 : decode cX11_isExport 5 = .ok (.ifCond .eq 17, 3) := by decide +kernel
theorem dX11_isExport_8 : decode cX11_isExport 8 = .ok (.aload_n 0, 1) := by decide +kernel
theorem dX11_isExport_9 : decode cX11_isExport 9 = .ok (.iload_n 1, 1) := by decide +kernel
theorem dX11_isExport_10 : decode cX11_isExport 10 = .ok (.iconst 0, 1) := by decide +kernel
theorem dX11_isExport_11 : decode cX11_isExport 11 = .ok (.invokevirtual 305, 3) := by decide +kernel
theorem dX11_isExport_14 : decode cX11_isExport 14 = .ok (.iconst 1, 1) := by decide +kernel
theorem dX11_isExport_15 : decode cX11_isExport 15 = .ok (.if_icmp .ne 7, 3) := by decide +kernel
theorem dX11_isExport_18 : decode cX11_isExport 18 = .ok (.iconst 1, 1) := by decide +kernel
theorem dX11_isExport_19 : decode cX11_isExport 19 = .ok (.goto 4, 3) := by decide +kernel
theorem dX11_isExport_22 : decode cX11_isExport 22 = .ok (.iconst 0, 1) := by decide +kernel
theorem dX11_isExport_23 : decode cX11_isExport 23 = .ok (.ireturn, 1) := by decide +kernel
theorem dX11_matchOf_0 : decode cX11_matchOf 0 = .ok (.aload_n 0, 1) := by decide +kernel
theorem dX11_matchOf_1 : decode cX11_matchOf 1 = .ok (.invokevirtual 367, 3) := by decide +kernel
theorem dX11_matchOf_4 : decode cX11_matchOf 4 = .ok (.iconst (-1), 1) := by decide +kernel
theorem dX11_matchOf_5 : decode cX11_matchOf 5 = .ok (.istore_n 2, 1) := by decide +kernel
theorem dX11_matchOf_6 : decode cX11_matchOf 6 = .ok (.iconst 0, 1) := by decide +kernel
theorem dX11_matchOf_7 : decode cX11_matchOf 7 = .ok (.istore_n 3, 1) := by decide +kernel
theorem dX11_matchOf_8 : decode cX11_matchOf 8 = .ok (.iload_n 3, 1) := by decide +kernel
theorem dX11_matchOf_9 : decode cX11_matchOf 9 = .ok (.aload_n 0, 1) := by decide +kernel
theorem dX11_matchOf_10 : decode cX11_matchOf 10 = .ok (.getfield 7, 3) := by decide +kernel
theorem dX11_matchOf_13 : decode cX11_matchOf 13 = .ok (.bipush 34, 2) := by decide +kernel
theorem dX11_matchOf_15 : decode cX11_matchOf 15 = .ok (.iaload, 1) := by decide +kernel
theorem dX11_matchOf_16 : decode cX11_matchOf 16 = .ok (.if_icmp .ge 49, 3) := by decide +kernel
theorem dX11_matchOf_19 : decode cX11_matchOf 19 = .ok (.aload_n 0, 1) := by decide +kernel
theorem dX11_matchOf_20 : decode cX11_matchOf 20 = .ok (.iload_n 3, 1) := by decide +kernel
theorem dX11_matchOf_21 : decode cX11_matchOf 21 = .ok (.aload_n 0, 1) := by decide +kernel
theorem dX11_matchOf_22 : decode cX11_matchOf 22 = .ok (.iload_n 1, 1) := by decide +kernel
theorem dX11_matchOf_23 : decode cX11_matchOf 23 = .ok (.iconst 1, 1) := by decide +kernel
theorem dX11_matchOf_24 : decode cX11_matchOf 24 = .ok (.invokevirtual 305, 3) := by decide +kernel
theorem dX11_matchOf_27 : decode cX11_matchOf 27 = .ok (.aload_n 0, 1) := by decide +kernel
theorem dX11_matchOf_28 : decode cX11_matchOf 28 = .ok (.iload_n 1, 1) := by decide +kernel
theorem dX11_matchOf_29 : decode cX11_matchOf 29 = .ok (.iconst 2, 1) := by decide +kernel
theorem dX11_matchOf_30 : decode cX11_matchOf 30 = .ok (.invokevirtual 305, 3) := by decide +kernel
theorem dX11_matchOf_33 : decode cX11_matchOf 33 = .ok (.invokevirtual 385, 3) := by decide +kernel
theorem dX11_matchOf_36 : decode cX11_matchOf 36 = .ok (.ifCond .ne 6, 3) := by decide +kernel
theorem dX11_matchOf_39 : decode cX11_matchOf 39 = .ok (.goto 20, 3) := by decide +kernel
theorem dX11_matchOf_42 : decode cX11_matchOf 42 = .ok (.iload_n 2, 1) := by decide +kernel
theorem dX11_matchOf_43 : decode cX11_matchOf 43 = .ok (.iconst (-1), 1) := by decide +kernel
theorem dX11_matchOf_44 : decode cX11_matchOf 44 = .ok (.if_icmp .eq 13, 3) := by decide +kernel
theorem dX11_matchOf_47 : decode cX11_matchOf 47 = .ok (.aload_n 0, 1) := by decide +kernel
theorem dX11_matchOf_48 : decode cX11_matchOf 48 = .ok (.iload_n 1, 1) := by decide +kernel
theorem dX11_matchOf_49 : decode cX11_matchOf 49 = .ok (.iload_n 3, 1) := by decide +kernel
theorem dX11_matchOf_50 : decode cX11_matchOf 50 = .ok (.iload_n 2, 1) := by decide +kernel
theorem dX11_matchOf_51 : decode cX11_matchOf 51 = .ok (.invokevirtual 422, 3) := by decide +kernel
theorem dX11_matchOf_54 : decode cX11_matchOf 54 = .ok (.ifCond .eq 5, 3) := by decide +kernel
theorem dX11_matchOf_57 : decode cX11_matchOf 57 = .ok (.iload_n 3, 1) := by decide +kernel
theorem dX11_matchOf_58 : decode cX11_matchOf 58 = .ok (.istore_n 2, 1) := by decide +kernel
theorem dX11_matchOf_59 : decode cX11_matchOf 59 = .ok (.iinc 3 1, 3) := by decide +kernel
theorem dX11_matchOf_62 : decode cX11_matchOf 62 = .ok (.goto (-54), 3) := by decide +kernel
theorem dX11_matchOf_65 : decode cX11_matchOf 65 = .ok (.iload_n 2, 1) := by decide +kernel
theorem dX11_matchOf_66 : decode cX11_matchOf 66 = .ok (.ireturn, 1) := by decide +kernel
theorem dX11_isNearer_0 : decode cX11_isNearer 0 = .ok (.iconst 3, 1) := by decide +kernel
theorem dX11_isNearer_1 : decode cX11_isNearer 1 = .ok (.istore 4, 2) := by decide +kernel
theorem dX11_isNearer_3 : decode cX11_isNearer 3 = .ok (.iload 4, 2) := by decide +kernel
theorem dX11_isNearer_5 : decode cX11_isNearer 5 = .ok (.iconst 5, 1) := by decide +kernel
theorem dX11_isNearer_6 : decode cX11_isNearer 6 = .ok (.if_icmp .gt 67, 3) := by decide +kernel
theorem dX11_isNearer_9 : decode cX11_isNearer 9 = .ok (.aload_n 0, 1) := by decide +kernel
theorem dX11_isNearer_10 : decode cX11_isNearer 10 = .ok (.iload_n 1, 1) := by decide +kernel
theorem dX11_isNearer_11 : decode cX11_isNearer 11 = .ok (.iload 4, 2) := by decide +kernel
theorem dX11_isNearer_13 : decode cX11_isNearer 13 = .ok (.invokevirtual 305, 3) := by decide +kernel
theorem dX11_isNearer_16 : decode cX11_isNearer 16 = .ok (.aload_n 0, 1) := by decide +kernel
theorem dX11_isNearer_17 : decode cX11_isNearer 17 = .ok (.iload_n 2, 1) := by decide +kernel
theorem dX11_isNearer_18 : decode cX11_isNearer 18 = .ok (.iload 4, 2) := by decide +kernel
theorem dX11_isNearer_20 : decode cX11_isNearer 20 = .ok (.invokevirtual 305, 3) := by decide +kernel
theorem dX11_isNearer_23 : decode cX11_isNearer 23 = .ok (.invokestatic 389, 3) := by decide +kernel
theorem dX11_isNearer_26 : decode cX11_isNearer 26 = .ok (.istore 5, 2) := by decide +kernel
theorem dX11_isNearer_28 : decode cX11_isNearer 28 = .ok (.aload_n 0, 1) := by decide +kernel
theorem dX11_isNearer_29 : decode cX11_isNearer 29 = .ok (.iload_n 1, 1) := by decide +kernel
theorem dX11_isNearer_30 : decode cX11_isNearer 30 = .ok (.iload 4, 2) := by decide +kernel
theorem dX11_isNearer_32 : decode cX11_isNearer 32 = .ok (.invokevirtual 305, 3) := by decide +kernel
theorem dX11_isNearer_35 : decode cX11_isNearer 35 = .ok (.aload_n 0, 1) := by decide +kernel
theorem dX11_isNearer_36 : decode cX11_isNearer 36 = .ok (.iload_n 3, 1) := by decide +kernel
theorem dX11_isNearer_37 : decode cX11_isNearer 37 = .ok (.iload 4, 2) := by decide +kernel
theorem dX11_isNearer_39 : decode cX11_isNearer 39 = .ok (.invokevirtual 305, 3) := by decide +kernel
theorem dX11_isNearer_42 : decode cX11_isNearer 42 = .ok (.invokestatic 389, 3) := by decide +kernel
theorem dX11_isNearer_45 : decode cX11_isNearer 45 = .ok (.istore 6, 2) := by decide +kernel
theorem dX11_isNearer_47 : decode cX11_isNearer 47 = .ok (.iload 5, 2) := by decide +kernel
theorem dX11_isNearer_49 : decode cX11_isNearer 49 = .ok (.iload 6, 2) := by decide +kernel
theorem dX11_isNearer_51 : decode cX11_isNearer 51 = .ok (.if_icmp .eq 16, 3) := by decide +kernel
theorem dX11_isNearer_54 : decode cX11_isNearer 54 = .ok (.iload 5, 2) := by decide +kernel
theorem dX11_isNearer_56 : decode cX11_isNearer 56 = .ok (.iload 6, 2) := by decide +kernel
theorem dX11_isNearer_58 : decode cX11_isNearer 58 = .ok (.if_icmp .ge 7, 3) := by decide +kernel
theorem dX11_isNearer_61 : decode cX11_isNearer 61 = .ok (.iconst 1, 1) := by decide +kernel
theorem dX11_isNearer_62 : decode cX11_isNearer 62 = .ok (.goto 4, 3) := by decide +kernel
theorem dX11_isNearer_65 : decode cX11_isNearer 65 = .ok (.iconst 0, 1) := by decide +kernel
theorem dX11_isNearer_66 : decode cX11_isNearer 66 = .ok (.ireturn, 1) := by decide +kernel
theorem dX11_isNearer_67 : decode cX11_isNearer 67 = .ok (.iinc 4 1, 3) := by decide +kernel
theorem dX11_isNearer_70 : decode cX11_isNearer 70 = .ok (.goto (-67), 3) := by decide +kernel
theorem dX11_isNearer_73 : decode cX11_isNearer 73 = .ok (.iconst 0, 1) := by decide +kernel
theorem dX11_isNearer_74 : decode cX11_isNearer 74 = .ok (.ireturn, 1) := by decide +kernel
theorem dX11_match_0 : decode cX11_match 0 = .ok (.aload_n 0, 1) := by decide +kernel
theorem dX11_match_1 : decode cX11_match 1 = .ok (.aload_n 0, 1) := by decide +kernel
theorem dX11_match_2 : decode cX11_match 2 = .ok (.iload_n 1, 1) := by decide +kernel
theorem dX11_match_3 : decode cX11_match 3 = .ok (.invokevirtual 341, 3) := by decide +kernel
theorem dX11_match_6 : decode cX11_match 6 = .ok (.ifCond .ne 7, 3) := by decide +kernel
theorem dX11_match_9 : decode cX11_match 9 = .ok (.iconst 1, 1) := by decide +kernel
theorem dX11_match_10 : decode cX11_match 10 = .ok (.goto 16, 3) := by decide +kernel
theorem dX11_match_13 : decode cX11_match 13 = .ok (.aload_n 0, 1) := by decide +kernel
theorem dX11_match_14 : decode cX11_match 14 = .ok (.iload_n 1, 1) := by decide +kernel
theorem dX11_match_15 : decode cX11_match 15 = .ok (.invokevirtual 425, 3) := by decide +kernel
theorem dX11_match_18 : decode cX11_match 18 = .ok (.ifCond .eq 7, 3) := by decide +kernel
theorem dX11_match_21 : decode cX11_match 21 = .ok (.iconst 0, 1) := by decide +kernel
theorem dX11_match_22 : decode cX11_match 22 = .ok (.goto 4, 3) := by decide +kernel
theorem dX11_match_25 : decode cX11_match 25 = .ok (.iconst 2, 1) := by decide +kernel
theorem dX11_match_26 : decode cX11_match 26 = .ok (.putfield 104, 3) := by decide +kernel
theorem dX11_match_29 : decode cX11_match 29 = .ok (.aload_n 0, 1) := by decide +kernel
theorem dX11_match_30 : decode cX11_match 30 = .ok (.getfield 104, 3) := by decide +kernel
theorem dX11_match_33 : decode cX11_match 33 = .ok (.ifCond .le 7, 3) := by decide +kernel
theorem dX11_match_36 : decode cX11_match 36 = .ok (.iconst 0, 1) := by decide +kernel
theorem dX11_match_37 : decode cX11_match 37 = .ok (.goto 8, 3) := by decide +kernel
theorem dX11_match_40 : decode cX11_match 40 = .ok (.aload_n 0, 1) := by decide +kernel
theorem dX11_match_41 : decode cX11_match 41 = .ok (.iload_n 1, 1) := by decide +kernel
theorem dX11_match_42 : decode cX11_match 42 = .ok (.invokevirtual 428, 3) := by decide +kernel
theorem dX11_match_45 : decode cX11_match 45 = .ok (.ireturn, 1) := by decide +kernel
theorem dX11_monthFor_0 : decode cX11_monthFor 0 = .ok (.aload_n 0, 1) := by decide +kernel
theorem dX11_monthFor_1 : decode cX11_monthFor 1 = .ok (.getfield 7, 3) := by decide +kernel
theorem dX11_monthFor_4 : decode cX11_monthFor 4 = .ok (.bipush 31, 2) := by decide +kernel
theorem dX11_monthFor_6 : decode cX11_monthFor 6 = .ok (.iaload, 1) := by decide +kernel
theorem dX11_monthFor_7 : decode cX11_monthFor 7 = .ok (.iconst 1, 1) := by decide +kernel
theorem dX11_monthFor_8 : decode cX11_monthFor 8 = .ok (.if_icmp .ne 12, 3) := by decide +kernel
theorem dX11_monthFor_11 : decode cX11_monthFor 11 = .ok (.aload_n 0, 1) := by decide +kernel
theorem dX11_monthFor_12 : decode cX11_monthFor 12 = .ok (.iload_n 1, 1) := by decide +kernel
theorem dX11_monthFor_13 : decode cX11_monthFor 13 = .ok (.iconst 4, 1) := by decide +kernel
theorem dX11_monthFor_14 : decode cX11_monthFor 14 = .ok (.invokevirtual 305, 3) := by decide +kernel
theorem dX11_monthFor_17 : decode cX11_monthFor 17 = .ok (.goto 4, 3) := by decide +kernel
theorem dX11_monthFor_20 : decode cX11_monthFor 20 = .ok (.iconst (-1), 1) := by decide +kernel
theorem dX11_monthFor_21 : decode cX11_monthFor 21 = .ok (.ireturn, 1) := by decide +kernel
theorem dX11_differenceOf_0 : decode cX11_differenceOf 0 = .ok (.aload_n 0, 1) := by decide +kernel
theorem dX11_differenceOf_1 : decode cX11_differenceOf 1 = .ok (.invokevirtual 367, 3) := by decide +kernel
theorem dX11_differenceOf_4 : decode cX11_differenceOf 4 = .ok (.iload_n 2, 1) := by decide +kernel
theorem dX11_differenceOf_5 : decode cX11_differenceOf 5 = .ok (.iconst 2, 1) := by decide +kernel
theorem dX11_differenceOf_6 : decode cX11_differenceOf 6 = .ok (.if_icmp .ne 11, 3) := by decide +kernel
theorem dX11_differenceOf_9 : decode cX11_differenceOf 9 = .ok (.aload_n 0, 1) := by decide +kernel
theorem dX11_differenceOf_10 : decode cX11_differenceOf 10 = .ok (.iload_n 1, 1) := by decide +kernel
theorem dX11_differenceOf_11 : decode cX11_differenceOf 11 = .ok (.invokevirtual 428, 3) := by decide +kernel
theorem dX11_differenceOf_14 : decode cX11_differenceOf 14 = .ok (.goto 4, 3) := by decide +kernel
theorem dX11_differenceOf_17 : decode cX11_differenceOf 17 = .ok (.iconst (-1), 1) := by decide +kernel
theorem dX11_differenceOf_18 : decode cX11_differenceOf 18 = .ok (.istore_n 3, 1) := by decide +kernel
theorem dX11_differenceOf_19 : decode cX11_differenceOf 19 = .ok (.iload_n 3, 1) := by decide +kernel
theorem dX11_differenceOf_20 : decode cX11_differenceOf 20 = .ok (.iconst (-1), 1) := by decide +kernel
theorem dX11_differenceOf_21 : decode cX11_differenceOf 21 = .ok (.if_icmp .ne 35, 3) := by decide +kernel
theorem dX11_differenceOf_24 : decode cX11_differenceOf 24 = .ok (.aload_n 0, 1) := by decide +kernel
theorem dX11_differenceOf_25 : decode cX11_differenceOf 25 = .ok (.aload_n 0, 1) := by decide +kernel
theorem dX11_differenceOf_26 : decode cX11_differenceOf 26 = .ok (.iload_n 1, 1) := by decide +kernel
theorem dX11_differenceOf_27 : decode cX11_differenceOf 27 = .ok (.iconst 1, 1) := by decide +kernel
theorem dX11_differenceOf_28 : decode cX11_differenceOf 28 = .ok (.invokevirtual 305, 3) := by decide +kernel
theorem dX11_differenceOf_31 : decode cX11_differenceOf 31 = .ok (.aload_n 0, 1) := by decide +kernel
theorem dX11_differenceOf_32 : decode cX11_differenceOf 32 = .ok (.iload_n 1, 1) := by decide +kernel
theorem dX11_differenceOf_33 : decode cX11_differenceOf 33 = .ok (.iconst 2, 1) := by decide +kernel
theorem dX11_differenceOf_34 : decode cX11_differenceOf 34 = .ok (.invokevirtual 305, 3) := by decide +kernel
theorem dX11_differenceOf_37 : decode cX11_differenceOf 37 = .ok (.aload_n 0, 1) := by decide +kernel
theorem dX11_differenceOf_38 : decode cX11_differenceOf 38 = .ok (.iload_n 1, 1) := by decide +kernel
theorem dX11_differenceOf_39 : decode cX11_differenceOf 39 = .ok (.iconst 3, 1) := by decide +kernel
theorem dX11_differenceOf_40 : decode cX11_differenceOf 40 = .ok (.invokevirtual 305, 3) := by decide +kernel
theorem dX11_differenceOf_43 : decode cX11_differenceOf 43 = .ok (.aload_n 0, 1) := by decide +kernel
theorem dX11_differenceOf_44 : decode cX11_differenceOf 44 = .ok (.iload_n 1, 1) := by decide +kernel
theorem dX11_differenceOf_45 : decode cX11_differenceOf 45 = .ok (.invokevirtual 431, 3) := by decide +kernel
theorem dX11_differenceOf_48 : decode cX11_differenceOf 48 = .ok (.invokevirtual 419, 3) := by decide +kernel
theorem dX11_differenceOf_51 : decode cX11_differenceOf 51 = .ok (.lstore 4, 2) := by decide +kernel
theorem dX11_differenceOf_53 : decode cX11_differenceOf 53 = .ok (.goto 55, 3) := by decide +kernel
theorem dX11_differenceOf_56 : decode cX11_differenceOf 56 = .ok (.aload_n 0, 1) := by decide +kernel
theorem dX11_differenceOf_57 : decode cX11_differenceOf 57 = .ok (.getfield 69, 3) := by decide +kernel
theorem dX11_differenceOf_60 : decode cX11_differenceOf 60 = .ok (.iload_n 3, 1) := by decide +kernel
theorem dX11_differenceOf_61 : decode cX11_differenceOf 61 = .ok (.iaload, 1) := by decide +kernel
theorem dX11_differenceOf_62 : decode cX11_differenceOf 62 = .ok (.i2l, 1) := by decide +kernel
theorem dX11_differenceOf_63 : decode cX11_differenceOf 63 = .ok (.aload_n 0, 1) := by decide +kernel
theorem dX11_differenceOf_64 : decode cX11_differenceOf 64 = .ok (.getfield 7, 3) := by decide +kernel
theorem dX11_differenceOf_67 : decode cX11_differenceOf 67 = .ok (.bipush 33, 2) := by decide +kernel
theorem dX11_differenceOf_69 : decode cX11_differenceOf 69 = .ok (.iaload, 1) := by decide +kernel
theorem dX11_differenceOf_70 : decode cX11_differenceOf 70 = .ok (.i2l, 1) := by decide +kernel
theorem dX11_differenceOf_71 : decode cX11_differenceOf 71 = .ok (.aload_n 0, 1) := by decide +kernel
theorem dX11_differenceOf_72 : decode cX11_differenceOf 72 = .ok (.iload_n 1, 1) := by decide +kernel
theorem dX11_differenceOf_73 : decode cX11_differenceOf 73 = .ok (.iconst 3, 1) := by decide +kernel
theorem dX11_differenceOf_74 : decode cX11_differenceOf 74 = .ok (.invokevirtual 305, 3) := by decide +kernel
theorem dX11_differenceOf_77 : decode cX11_differenceOf 77 = .ok (.aload_n 0, 1) := by decide +kernel
theorem dX11_differenceOf_78 : decode cX11_differenceOf 78 = .ok (.iload_n 3, 1) := by decide +kernel
theorem dX11_differenceOf_79 : decode cX11_differenceOf 79 = .ok (.iconst 3, 1) := by decide +kernel
theorem dX11_differenceOf_80 : decode cX11_differenceOf 80 = .ok (.invokevirtual 305, 3) := by decide +kernel
theorem dX11_differenceOf_83 : decode cX11_differenceOf 83 = .ok (.isub, 1) := by decide +kernel
theorem dX11_differenceOf_84 : decode cX11_differenceOf 84 = .ok (.i2l, 1) := by decide +kernel
theorem dX11_differenceOf_85 : decode cX11_differenceOf 85 = .ok (.lmul, 1) := by decide +kernel
theorem dX11_differenceOf_86 : decode cX11_differenceOf 86 = .ok (.ladd, 1) := by decide +kernel
theorem dX11_differenceOf_87 : decode cX11_differenceOf 87 = .ok (.lstore 6, 2) := by decide +kernel
theorem dX11_differenceOf_89 : decode cX11_differenceOf 89 = .ok (.ldc2_w 409, 3) := by decide +kernel
theorem dX11_differenceOf_92 : decode cX11_differenceOf 92 = .ok (.lload 6, 2) := by decide +kernel
theorem dX11_differenceOf_94 : decode cX11_differenceOf 94 = .ok (.lconst 0, 1) := by decide +kernel
theorem dX11_differenceOf_95 : decode cX11_differenceOf 95 = .ok (.lcmp, 1) := by decide +kernel
theorem dX11_differenceOf_96 : decode cX11_differenceOf 96 = .ok (.ifCond .ge 7, 3) := by decide +kernel
theorem dX11_differenceOf_99 : decode cX11_differenceOf 99 = .ok (.lconst 0, 1) := by decide +kernel
theorem dX11_differenceOf_100 : decode cX11_differenceOf 100 = .ok (.goto 5, 3) := by decide +kernel
theorem dX11_differenceOf_103 : decode cX11_differenceOf 103 = .ok (.lload 6, 2) := by decide +kernel
theorem dX11_differenceOf_105 : decode cX11_differenceOf 105 = .ok (.lmul, 1) := by decide +kernel
theorem dX11_differenceOf_106 : decode cX11_differenceOf 106 = .ok (.lstore 4, 2) := by decide +kernel
theorem dX11_differenceOf_108 : decode cX11_differenceOf 108 = .ok (.lload 4, 2) := by decide +kernel
theorem dX11_differenceOf_110 : decode cX11_differenceOf 110 = .ok (.ldc2_w 409, 3) := by decide +kernel
theorem dX11_differenceOf_113 : decode cX11_differenceOf 113 = .ok (.aload_n 0, 1) := by decide +kernel
theorem dX11_differenceOf_114 : decode cX11_differenceOf 114 = .ok (.getfield 69, 3) := by decide +kernel
theorem dX11_differenceOf_117 : decode cX11_differenceOf 117 = .ok (.iload_n 1, 1) := by decide +kernel
theorem dX11_differenceOf_118 : decode cX11_differenceOf 118 = .ok (.iaload, 1) := by decide +kernel
theorem dX11_differenceOf_119 : decode cX11_differenceOf 119 = .ok (.i2l, 1) := by decide +kernel
theorem dX11_differenceOf_120 : decode cX11_differenceOf 120 = .ok (.lmul, 1) := by decide +kernel
theorem dX11_differenceOf_121 : decode cX11_differenceOf 121 = .ok (.lsub, 1) := by decide +kernel
theorem dX11_differenceOf_122 : decode cX11_differenceOf 122 = .ok (.aload_n 0, 1) := by decide +kernel
theorem dX11_differenceOf_123 : decode cX11_differenceOf 123 = .ok (.iload_n 1, 1) := by decide +kernel
theorem dX11_differenceOf_124 : decode cX11_differenceOf 124 = .ok (.iconst 5, 1) := by decide +kernel
theorem dX11_differenceOf_125 : decode cX11_differenceOf 125 = .ok (.invokevirtual 305, 3) := by decide +kernel
theorem dX11_differenceOf_128 : decode cX11_differenceOf 128 = .ok (.i2l, 1) := by decide +kernel
theorem dX11_differenceOf_129 : decode cX11_differenceOf 129 = .ok (.lmul, 1) := by decide +kernel
theorem dX11_differenceOf_130 : decode cX11_differenceOf 130 = .ok (.lreturn, 1) := by decide +kernel
theorem dX11_difference_0 : decode cX11_difference 0 = .ok (.aload_n 0, 1) := by decide +kernel
theorem dX11_difference_1 : decode cX11_difference 1 = .ok (.aload_n 0, 1) := by decide +kernel
theorem dX11_difference_2 : decode cX11_difference 2 = .ok (.iload_n 1, 1) := by decide +kernel
theorem dX11_difference_3 : decode cX11_difference 3 = .ok (.invokevirtual 341, 3) := by decide +kernel
theorem dX11_difference_6 : decode cX11_difference 6 = .ok (.ifCond .ne 7, 3) := by decide +kernel
theorem dX11_difference_9 : decode cX11_difference 9 = .ok (.iconst 1, 1) := by decide +kernel
theorem dX11_difference_10 : decode cX11_difference 10 = .ok (.goto 28, 3) := by decide +kernel
theorem dX11_difference_13 : decode cX11_difference 13 = .ok (.aload_n 0, 1) := by decide +kernel
theorem dX11_difference_14 : decode cX11_difference 14 = .ok (.iload_n 1, 1) := by decide +kernel
theorem dX11_difference_15 : decode cX11_difference 15 = .ok (.invokevirtual 425, 3) := by decide +kernel
theorem dX11_difference_18 : decode cX11_difference 18 = .ok (.ifCond .eq 19, 3) := by decide +kernel
theorem dX11_difference_21 : decode cX11_difference 21 = .ok (.iload_n 2, 1) := by decide +kernel
theorem dX11_difference_22 : decode cX11_difference 22 = .ok (.i2l, 1) := by decide +kernel
theorem dX11_difference_23 : decode cX11_difference 23 = .ok (.lconst 1, 1) := by decide +kernel
theorem dX11_difference_24 : decode cX11_difference 24 = .ok (.ldc2_w 320, 3) := by decide +kernel
theorem dX11_difference_27 : decode cX11_difference 27 = .ok (.invokestatic 301, 3) := by decide +kernel
theorem dX11_difference_30 : decode cX11_difference 30 = .ok (.ifCond .eq 7, 3) := by decide +kernel
theorem dX11_difference_33 : decode cX11_difference 33 = .ok (.iconst 0, 1) := by decide +kernel
theorem dX11_difference_34 : decode cX11_difference 34 = .ok (.goto 4, 3) := by decide +kernel
theorem dX11_difference_37 : decode cX11_difference 37 = .ok (.iconst 2, 1) := by decide +kernel
theorem dX11_difference_38 : decode cX11_difference 38 = .ok (.putfield 104, 3) := by decide +kernel
theorem dX11_difference_41 : decode cX11_difference 41 = .ok (.aload_n 0, 1) := by decide +kernel
theorem dX11_difference_42 : decode cX11_difference 42 = .ok (.getfield 104, 3) := by decide +kernel
theorem dX11_difference_45 : decode cX11_difference 45 = .ok (.ifCond .le 7, 3) := by decide +kernel
theorem dX11_difference_48 : decode cX11_difference 48 = .ok (.lconst 0, 1) := by decide +kernel
theorem dX11_difference_49 : decode cX11_difference 49 = .ok (.goto 9, 3) := by decide +kernel
theorem dX11_difference_52 : decode cX11_difference 52 = .ok (.aload_n 0, 1) := by decide +kernel
theorem dX11_difference_53 : decode cX11_difference 53 = .ok (.iload_n 1, 1) := by decide +kernel
theorem dX11_difference_54 : decode cX11_difference 54 = .ok (.iload_n 2, 1) := by decide +kernel
theorem dX11_difference_55 : decode cX11_difference 55 = .ok (.invokevirtual 434, 3) := by decide +kernel
theorem dX11_difference_58 : decode cX11_difference 58 = .ok (.lreturn, 1) := by decide +kernel
theorem dX11_isSameGroup_0 : decode cX11_isSameGroup 0 = .ok (.aload_n 0, 1) := by decide +kernel
theorem dX11_isSameGroup_1 : decode cX11_isSameGroup 1 = .ok (.iload_n 1, 1) := by decide +kernel
theorem dX11_isSameGroup_2 : decode cX11_isSameGroup 2 = .ok (.iconst 2, 1) := by decide +kernel
theorem dX11_isSameGroup_3 : decode cX11_isSameGroup 3 = .ok (.invokevirtual 305, 3) := by decide +kernel
theorem dX11_isSameGroup_6 : decode cX11_isSameGroup 6 = .ok (.aload_n 0, 1) := by decide +kernel
theorem dX11_isSameGroup_7 : decode cX11_isSameGroup 7 = .ok (.iload_n 2, 1) := by decide +kernel
theorem dX11_isSameGroup_8 : decode cX11_isSameGroup 8 = .ok (.iconst 2, 1) := by decide +kernel
theorem dX11_isSameGroup_9 : decode cX11_isSameGroup 9 = .ok (.invokevirtual 305, 3) := by decide +kernel
theorem dX11_isSameGroup_12 : decode cX11_isSameGroup 12 = .ok (.if_icmp .ne 35, 3) := by decide +kernel
theorem dX11_isSameGroup_15 : decode cX11_isSameGroup 15 = .ok (.aload_n 0, 1) := by decide +kernel
theorem dX11_isSameGroup_16 : decode cX11_isSameGroup 16 = .ok (.iload_n 1, 1) := by decide +kernel
theorem dX11_isSameGroup_17 : decode cX11_isSameGroup 17 = .ok (.iconst 3, 1) := by decide +kernel
theorem dX11_isSameGroup_18 : decode cX11_isSameGroup 18 = .ok (.invokevirtual 305, 3) := by decide +kernel
theorem dX11_isSameGroup_21 : decode cX11_isSameGroup 21 = .ok (.aload_n 0, 1) := by decide +kernel
theorem dX11_isSameGroup_22 : decode cX11_isSameGroup 22 = .ok (.iload_n 2, 1) := by decide +kernel
theorem dX11_isSameGroup_23 : decode cX11_isSameGroup 23 = .ok (.iconst 3, 1) := by decide +kernel
theorem dX11_isSameGroup_24 : decode cX11_isSameGroup 24 = .ok (.invokevirtual 305, 3) := by decide +kernel
theorem dX11_isSameGroup_27 : decode cX11_isSameGroup 27 = .ok (.if_icmp .ne 20, 3) := by decide +kernel
theorem dX11_isSameGroup_30 : decode cX11_isSameGroup 30 = .ok (.aload_n 0, 1) := by decide +kernel
theorem dX11_isSameGroup_31 : decode cX11_isSameGroup 31 = .ok (.iload_n 1, 1) := by decide +kernel
theorem dX11_isSameGroup_32 : decode cX11_isSameGroup 32 = .ok (.invokevirtual 431, 3) := by decide +kernel
theorem dX11_isSameGroup_35 : decode cX11_isSameGroup 35 = .ok (.aload_n 0, 1) := by decide +kernel
theorem dX11_isSameGroup_36 : decode cX11_isSameGroup 36 = .ok (.iload_n 2, 1) := by decide +kernel
theorem dX11_isSameGroup_37 : decode cX11_isSameGroup 37 = .ok (.invokevirtual 431, 3) := by decide +kernel
theorem dX11_isSameGroup_40 : decode cX11_isSameGroup 40 = .ok (.if_icmp .ne 7, 3) := by decide +kernel
theorem dX11_isSameGroup_43 : decode cX11_isSameGroup 43 = .ok (.iconst 1, 1) := by decide +kernel
theorem dX11_isSameGroup_44 : decode cX11_isSameGroup 44 = .ok (.goto 4, 3) := by decide +kernel
theorem dX11_isSameGroup_47 : decode cX11_isSameGroup 47 = .ok (.iconst 0, 1) := by decide +kernel
theorem dX11_isSameGroup_48 : decode cX11_isSameGroup 48 = .ok (.ireturn, 1) := by decide +kernel
theorem dX11_laysGroups_0 : decode cX11_laysGroups 0 = .ok (.aload_n 0, 1) := by decide +kernel
theorem dX11_laysGroups_1 : decode cX11_laysGroups 1 = .ok (.invokevirtual 367, 3) := by decide +kernel
theorem dX11_laysGroups_4 : decode cX11_laysGroups 4 = .ok (.aload_n 0, 1) := by decide +kernel
theorem dX11_laysGroups_5 : decode cX11_laysGroups 5 = .ok (.iconst 0, 1) := by decide +kernel
theorem dX11_laysGroups_6 : decode cX11_laysGroups 6 = .ok (.putfield 437, 3) := by decide +kernel
theorem dX11_laysGroups_9 : decode cX11_laysGroups 9 = .ok (.iconst 0, 1) := by decide +kernel
theorem dX11_laysGroups_10 : decode cX11_laysGroups 10 = .ok (.istore_n 2, 1) := by decide +kernel
theorem dX11_laysGroups_11 : decode cX11_laysGroups 11 = .ok (.iload_n 2, 1) := by decide +kernel
theorem dX11_laysGroups_12 : decode cX11_laysGroups 12 = .ok (.aload_n 0, 1) := by decide +kernel
theorem dX11_laysGroups_13 : decode cX11_laysGroups 13 = .ok (.getfield 7, 3) := by decide +kernel
theorem dX11_laysGroups_16 : decode cX11_laysGroups 16 = .ok (.bipush 34, 2) := by decide +kernel
theorem dX11_laysGroups_18 : decode cX11_laysGroups 18 = .ok (.iaload, 1) := by decide +kernel
theorem dX11_laysGroups_19 : decode cX11_laysGroups 19 = .ok (.if_icmp .ge 100, 3) := by decide +kernel
theorem dX11_laysGroups_22 : decode cX11_laysGroups 22 = .ok (.aload_n 0, 1) := by decide +kernel
theorem dX11_laysGroups_23 : decode cX11_laysGroups 23 = .ok (.iload_n 2, 1) := by decide +kernel
theorem dX11_laysGroups_24 : decode cX11_laysGroups 24 = .ok (.invokevirtual 425, 3) := by decide +kernel
theorem dX11_laysGroups_27 : decode cX11_laysGroups 27 = .ok (.ifCond .eq 17, 3) := by decide +kernel
theorem dX11_laysGroups_30 : decode cX11_laysGroups 30 = .ok (.aload_n 0, 1) := by decide +kernel
theorem dX11_laysGroups_31 : decode cX11_laysGroups 31 = .ok (.iload_n 2, 1) := by decide +kernel
theorem dX11_laysGroups_32 : decode cX11_laysGroups 32 = .ok (.iconst 1, 1) := by decide +kernel
theorem dX11_laysGroups_33 : decode cX11_laysGroups 33 = .ok (.invokevirtual 305, 3) := by decide +kernel
theorem dX11_laysGroups_36 : decode cX11_laysGroups 36 = .ok (.iload_n 1, 1) := by decide +kernel
theorem dX11_laysGroups_37 : decode cX11_laysGroups 37 = .ok (.if_icmp .ne 7, 3) := by decide +kernel
theorem dX11_laysGroups_40 : decode cX11_laysGroups 40 = .ok (.iconst 1, 1) := by decide +kernel
theorem dX11_laysGroups_41 : decode cX11_laysGroups 41 = .ok (.goto 4, 3) := by decide +kernel
theorem dX11_laysGroups_44 : decode cX11_laysGroups 44 = .ok (.iconst 0, 1) := by decide +kernel
theorem dX11_laysGroups_45 : decode cX11_laysGroups 45 = .ok (.istore_n 3, 1) := by decide +kernel
theorem dX11_laysGroups_46 : decode cX11_laysGroups 46 = .ok (.iconst 0, 1) := by decide +kernel
theorem dX11_laysGroups_47 : decode cX11_laysGroups 47 = .ok (.istore 4, 2) := by decide +kernel
theorem dX11_laysGroups_49 : decode cX11_laysGroups 49 = .ok (.iload 4, 2) := by decide +kernel
theorem dX11_laysGroups_51 : decode cX11_laysGroups 51 = .ok (.aload_n 0, 1) := by decide +kernel
theorem dX11_laysGroups_52 : decode cX11_laysGroups 52 = .ok (.getfield 437, 3) := by decide +kernel
theorem dX11_laysGroups_55 : decode cX11_laysGroups 55 = .ok (.if_icmp .ge 34, 3) := by decide +kernel
theorem dX11_laysGroups_58 : decode cX11_laysGroups 58 = .ok (.iload_n 3, 1) := by decide +kernel
theorem dX11_laysGroups_59 : decode cX11_laysGroups 59 = .ok (.ifCond .eq 30, 3) := by decide +kernel
theorem dX11_laysGroups_62 : decode cX11_laysGroups 62 = .ok (.aload_n 0, 1) := by decide +kernel
theorem dX11_laysGroups_63 : decode cX11_laysGroups 63 = .ok (.aload_n 0, 1) := by decide +kernel
theorem dX11_laysGroups_64 : decode cX11_laysGroups 64 = .ok (.getfield 92, 3) := by decide +kernel
theorem dX11_laysGroups_67 : decode cX11_laysGroups 67 = .ok (.iload 4, 2) := by decide +kernel
theorem dX11_laysGroups_69 : decode cX11_laysGroups 69 = .ok (.iaload, 1) := by decide +kernel
theorem dX11_laysGroups_70 : decode cX11_laysGroups 70 = .ok (.iload_n 2, 1) := by decide +kernel
theorem dX11_laysGroups_71 : decode cX11_laysGroups 71 = .ok (.invokevirtual 440, 3) := by decide +kernel
theorem dX11_laysGroups_74 : decode cX11_laysGroups 74 = .ok (.ifCond .ne 7, 3) := by decide +kernel
theorem dX11_laysGroups_77 : decode cX11_laysGroups 77 = .ok (.iconst 1, 1) := by decide +kernel
theorem dX11_laysGroups_78 : decode cX11_laysGroups 78 = .ok (.goto 4, 3) := by decide +kernel
theorem dX11_laysGroups_81 : decode cX11_laysGroups 81 = .ok (.iconst 0, 1) := by decide +kernel
theorem dX11_laysGroups_82 : decode cX11_laysGroups 82 = .ok (.istore_n 3, 1) := by decide +kernel
theorem dX11_laysGroups_83 : decode cX11_laysGroups 83 = .ok (.iinc 4 1, 3) := by decide +kernel
theorem dX11_laysGroups_86 : decode cX11_laysGroups 86 = .ok (.goto (-37), 3) := by decide +kernel
theorem dX11_laysGroups_89 : decode cX11_laysGroups 89 = .ok (.iload_n 3, 1) := by decide +kernel
theorem dX11_laysGroups_90 : decode cX11_laysGroups 90 = .ok (.ifCond .eq 23, 3) := by decide +kernel
theorem dX11_laysGroups_93 : decode cX11_laysGroups 93 = .ok (.aload_n 0, 1) := by decide +kernel
theorem dX11_laysGroups_94 : decode cX11_laysGroups 94 = .ok (.getfield 92, 3) := by decide +kernel
theorem dX11_laysGroups_97 : decode cX11_laysGroups 97 = .ok (.aload_n 0, 1) := by decide +kernel
theorem dX11_laysGroups_98 : decode cX11_laysGroups 98 = .ok (.getfield 437, 3) := by decide +kernel
theorem dX11_laysGroups_101 : decode cX11_laysGroups 101 = .ok (.iload_n 2, 1) := by decide +kernel
theorem dX11_laysGroups_102 : decode cX11_laysGroups 102 = .ok (.iastore, 1) := by decide +kernel
theorem dX11_laysGroups_103 : decode cX11_laysGroups 103 = .ok (.aload_n 0, 1) := by decide +kernel
theorem dX11_laysGroups_104 : decode cX11_laysGroups 104 = .ok (.dup, 1) := by decide +kernel
theorem dX11_laysGroups_105 : decode cX11_laysGroups 105 = .ok (.getfield 437, 3) := by decide +kernel
theorem dX11_laysGroups_108 : decode cX11_laysGroups 108 = .ok (.iconst 1, 1) := by decide +kernel
theorem dX11_laysGroups_109 : decode cX11_laysGroups 109 = .ok (.iadd, 1) := by decide +kernel
theorem dX11_laysGroups_110 : decode cX11_laysGroups 110 = .ok (.putfield 437, 3) := by decide +kernel
theorem dX11_laysGroups_113 : decode cX11_laysGroups 113 = .ok (.iinc 2 1, 3) := by decide +kernel
theorem dX11_laysGroups_116 : decode cX11_laysGroups 116 = .ok (.goto (-105), 3) := by decide +kernel
theorem dX11_laysGroups_119 : decode cX11_laysGroups 119 = .ok (.iconst 0, 1) := by decide +kernel
theorem dX11_laysGroups_120 : decode cX11_laysGroups 120 = .ok (.istore_n 2, 1) := by decide +kernel
theorem dX11_laysGroups_121 : decode cX11_laysGroups 121 = .ok (.iload_n 2, 1) := by decide +kernel
theorem dX11_laysGroups_122 : decode cX11_laysGroups 122 = .ok (.aload_n 0, 1) := by decide +kernel
theorem dX11_laysGroups_123 : decode cX11_laysGroups 123 = .ok (.getfield 437, 3) := by decide +kernel
theorem dX11_laysGroups_126 : decode cX11_laysGroups 126 = .ok (.if_icmp .ge 15, 3) := by decide +kernel
theorem dX11_laysGroups_129 : decode cX11_laysGroups 129 = .ok (.aload_n 0, 1) := by decide +kernel
theorem dX11_laysGroups_130 : decode cX11_laysGroups 130 = .ok (.iload_n 1, 1) := by decide +kernel
theorem dX11_laysGroups_131 : decode cX11_laysGroups 131 = .ok (.iload_n 2, 1) := by decide +kernel
theorem dX11_laysGroups_132 : decode cX11_laysGroups 132 = .ok (.invokevirtual 443, 3) := by decide +kernel
theorem dX11_laysGroups_135 : decode cX11_laysGroups 135 = .ok (.iinc 2 1, 3) := by decide +kernel
theorem dX11_laysGroups_138 : decode cX11_laysGroups 138 = .ok (.goto (-17), 3) := by decide +kernel
theorem dX11_laysGroups_141 : decode cX11_laysGroups 141 = .ok (.return_, 1) := by decide +kernel
theorem dX11_laysGroup_0 : decode cX11_laysGroup 0 = .ok (.aload_n 0, 1) := by decide +kernel
theorem dX11_laysGroup_1 : decode cX11_laysGroup 1 = .ok (.getfield 92, 3) := by decide +kernel
theorem dX11_laysGroup_4 : decode cX11_laysGroup 4 = .ok (.iload_n 2, 1) := by decide +kernel
theorem dX11_laysGroup_5 : decode cX11_laysGroup 5 = .ok (.iaload, 1) := by decide +kernel
theorem dX11_laysGroup_6 : decode cX11_laysGroup 6 = .ok (.istore_n 3, 1) := by decide +kernel
theorem dX11_laysGroup_7 : decode cX11_laysGroup 7 = .ok (.lconst 0, 1) := by decide +kernel
theorem dX11_laysGroup_8 : decode cX11_laysGroup 8 = .ok (.lstore 4, 2) := by decide +kernel
theorem dX11_laysGroup_10 : decode cX11_laysGroup 10 = .ok (.iconst 0, 1) := by decide +kernel
theorem dX11_laysGroup_11 : decode cX11_laysGroup 11 = .ok (.istore 6, 2) := by decide +kernel
theorem dX11_laysGroup_13 : decode cX11_laysGroup 13 = .ok (.iload_n 3, 1) := by decide +kernel
theorem dX11_laysGroup_14 : decode cX11_laysGroup 14 = .ok (.istore 7, 2) := by decide +kernel
theorem dX11_laysGroup_16 : decode cX11_laysGroup 16 = .ok (.iload 7, 2) := by decide +kernel
theorem dX11_laysGroup_18 : decode cX11_laysGroup 18 = .ok (.aload_n 0, 1) := by decide +kernel
theorem dX11_laysGroup_19 : decode cX11_laysGroup 19 = .ok (.getfield 7, 3) := by decide +kernel
theorem dX11_laysGroup_22 : decode cX11_laysGroup 22 = .ok (.bipush 34, 2) := by decide +kernel
theorem dX11_laysGroup_24 : decode cX11_laysGroup 24 = .ok (.iaload, 1) := by decide +kernel
theorem dX11_laysGroup_25 : decode cX11_laysGroup 25 = .ok (.if_icmp .ge 76, 3) := by decide +kernel
theorem dX11_laysGroup_28 : decode cX11_laysGroup 28 = .ok (.aload_n 0, 1) := by decide +kernel
theorem dX11_laysGroup_29 : decode cX11_laysGroup 29 = .ok (.iload 7, 2) := by decide +kernel
theorem dX11_laysGroup_31 : decode cX11_laysGroup 31 = .ok (.invokevirtual 425, 3) := by decide +kernel
theorem dX11_laysGroup_34 : decode cX11_laysGroup 34 = .ok (.ifCond .eq 61, 3) := by decide +kernel
theorem dX11_laysGroup_37 : decode cX11_laysGroup 37 = .ok (.aload_n 0, 1) := by decide +kernel
theorem dX11_laysGroup_38 : decode cX11_laysGroup 38 = .ok (.iload 7, 2) := by decide +kernel
theorem dX11_laysGroup_40 : decode cX11_laysGroup 40 = .ok (.iconst 1, 1) := by decide +kernel
theorem dX11_laysGroup_41 : decode cX11_laysGroup 41 = .ok (.invokevirtual 305, 3) := by decide +kernel
theorem dX11_laysGroup_44 : decode cX11_laysGroup 44 = .ok (.iload_n 1, 1) := by decide +kernel
theorem dX11_laysGroup_45 : decode cX11_laysGroup 45 = .ok (.if_icmp .ne 50, 3) := by decide +kernel
theorem dX11_laysGroup_48 : decode cX11_laysGroup 48 = .ok (.aload_n 0, 1) := by decide +kernel
theorem dX11_laysGroup_49 : decode cX11_laysGroup 49 = .ok (.iload_n 3, 1) := by decide +kernel
theorem dX11_laysGroup_50 : decode cX11_laysGroup 50 = .ok (.iload 7, 2) := by decide +kernel
theorem dX11_laysGroup_52 : decode cX11_laysGroup 52 = .ok (.invokevirtual 440, 3) := by decide +kernel
theorem dX11_laysGroup_55 : decode cX11_laysGroup 55 = .ok (.ifCond .ne 6, 3) := by decide +kernel
theorem dX11_laysGroup_58 : decode cX11_laysGroup 58 = .ok (.goto 37, 3) := by decide +kernel
theorem dX11_laysGroup_61 : decode cX11_laysGroup 61 = .ok (.lload 4, 2) := by decide +kernel
theorem dX11_laysGroup_63 : decode cX11_laysGroup 63 = .ok (.aload_n 0, 1) := by decide +kernel
theorem dX11_laysGroup_64 : decode cX11_laysGroup 64 = .ok (.getfield 69, 3) := by decide +kernel
theorem dX11_laysGroup_67 : decode cX11_laysGroup 67 = .ok (.iload 7, 2) := by decide +kernel
theorem dX11_laysGroup_69 : decode cX11_laysGroup 69 = .ok (.iaload, 1) := by decide +kernel
theorem dX11_laysGroup_70 : decode cX11_laysGroup 70 = .ok (.i2l, 1) := by decide +kernel
theorem dX11_laysGroup_71 : decode cX11_laysGroup 71 = .ok (.aload_n 0, 1) := by decide +kernel
theorem dX11_laysGroup_72 : decode cX11_laysGroup 72 = .ok (.iload 7, 2) := by decide +kernel
theorem dX11_laysGroup_74 : decode cX11_laysGroup 74 = .ok (.iconst 5, 1) := by decide +kernel
theorem dX11_laysGroup_75 : decode cX11_laysGroup 75 = .ok (.invokevirtual 305, 3) := by decide +kernel
theorem dX11_laysGroup_78 : decode cX11_laysGroup 78 = .ok (.i2l, 1) := by decide +kernel
theorem dX11_laysGroup_79 : decode cX11_laysGroup 79 = .ok (.lmul, 1) := by decide +kernel
theorem dX11_laysGroup_80 : decode cX11_laysGroup 80 = .ok (.ladd, 1) := by decide +kernel
theorem dX11_laysGroup_81 : decode cX11_laysGroup 81 = .ok (.lstore 4, 2) := by decide +kernel
theorem dX11_laysGroup_83 : decode cX11_laysGroup 83 = .ok (.iload 6, 2) := by decide +kernel
theorem dX11_laysGroup_85 : decode cX11_laysGroup 85 = .ok (.aload_n 0, 1) := by decide +kernel
theorem dX11_laysGroup_86 : decode cX11_laysGroup 86 = .ok (.iload 7, 2) := by decide +kernel
theorem dX11_laysGroup_88 : decode cX11_laysGroup 88 = .ok (.iconst 5, 1) := by decide +kernel
theorem dX11_laysGroup_89 : decode cX11_laysGroup 89 = .ok (.invokevirtual 305, 3) := by decide +kernel
theorem dX11_laysGroup_92 : decode cX11_laysGroup 92 = .ok (.iadd, 1) := by decide +kernel
theorem dX11_laysGroup_93 : decode cX11_laysGroup 93 = .ok (.istore 6, 2) := by decide +kernel
theorem dX11_laysGroup_95 : decode cX11_laysGroup 95 = .ok (.iinc 7 1, 3) := by decide +kernel
theorem dX11_laysGroup_98 : decode cX11_laysGroup 98 = .ok (.goto (-82), 3) := by decide +kernel
theorem dX11_laysGroup_101 : decode cX11_laysGroup 101 = .ok (.aload_n 0, 1) := by decide +kernel
theorem dX11_laysGroup_102 : decode cX11_laysGroup 102 = .ok (.getfield 89, 3) := by decide +kernel
theorem dX11_laysGroup_105 : decode cX11_laysGroup 105 = .ok (.iload_n 2, 1) := by decide +kernel
theorem dX11_laysGroup_106 : decode cX11_laysGroup 106 = .ok (.iload 6, 2) := by decide +kernel
theorem dX11_laysGroup_108 : decode cX11_laysGroup 108 = .ok (.iastore, 1) := by decide +kernel
theorem dX11_laysGroup_109 : decode cX11_laysGroup 109 = .ok (.aload_n 0, 1) := by decide +kernel
theorem dX11_laysGroup_110 : decode cX11_laysGroup 110 = .ok (.getfield 95, 3) := by decide +kernel
theorem dX11_laysGroup_113 : decode cX11_laysGroup 113 = .ok (.iload_n 2, 1) := by decide +kernel
theorem dX11_laysGroup_114 : decode cX11_laysGroup 114 = .ok (.ldc2_w 409, 3) := by decide +kernel
theorem dX11_laysGroup_117 : decode cX11_laysGroup 117 = .ok (.lload 4, 2) := by decide +kernel
theorem dX11_laysGroup_119 : decode cX11_laysGroup 119 = .ok (.lmul, 1) := by decide +kernel
theorem dX11_laysGroup_120 : decode cX11_laysGroup 120 = .ok (.iload 6, 2) := by decide +kernel
theorem dX11_laysGroup_122 : decode cX11_laysGroup 122 = .ok (.i2l, 1) := by decide +kernel
theorem dX11_laysGroup_123 : decode cX11_laysGroup 123 = .ok (.ldiv, 1) := by decide +kernel
theorem dX11_laysGroup_124 : decode cX11_laysGroup 124 = .ok (.lastore, 1) := by decide +kernel
theorem dX11_laysGroup_125 : decode cX11_laysGroup 125 = .ok (.aload_n 0, 1) := by decide +kernel
theorem dX11_laysGroup_126 : decode cX11_laysGroup 126 = .ok (.getfield 98, 3) := by decide +kernel
theorem dX11_laysGroup_129 : decode cX11_laysGroup 129 = .ok (.iload_n 2, 1) := by decide +kernel
theorem dX11_laysGroup_130 : decode cX11_laysGroup 130 = .ok (.aload_n 0, 1) := by decide +kernel
theorem dX11_laysGroup_131 : decode cX11_laysGroup 131 = .ok (.iload_n 1, 1) := by decide +kernel
theorem dX11_laysGroup_132 : decode cX11_laysGroup 132 = .ok (.aload_n 0, 1) := by decide +kernel
theorem dX11_laysGroup_133 : decode cX11_laysGroup 133 = .ok (.iload_n 3, 1) := by decide +kernel
theorem dX11_laysGroup_134 : decode cX11_laysGroup 134 = .ok (.iconst 2, 1) := by decide +kernel
theorem dX11_laysGroup_135 : decode cX11_laysGroup 135 = .ok (.invokevirtual 305, 3) := by decide +kernel
theorem dX11_laysGroup_138 : decode cX11_laysGroup 138 = .ok (.aload_n 0, 1) := by decide +kernel
theorem dX11_laysGroup_139 : decode cX11_laysGroup 139 = .ok (.iload_n 3, 1) := by decide +kernel
theorem dX11_laysGroup_140 : decode cX11_laysGroup 140 = .ok (.iconst 3, 1) := by decide +kernel
theorem dX11_laysGroup_141 : decode cX11_laysGroup 141 = .ok (.invokevirtual 305, 3) := by decide +kernel
theorem dX11_laysGroup_144 : decode cX11_laysGroup 144 = .ok (.aload_n 0, 1) := by decide +kernel
theorem dX11_laysGroup_145 : decode cX11_laysGroup 145 = .ok (.iload_n 3, 1) := by decide +kernel
theorem dX11_laysGroup_146 : decode cX11_laysGroup 146 = .ok (.invokevirtual 431, 3) := by decide +kernel
theorem dX11_laysGroup_149 : decode cX11_laysGroup 149 = .ok (.invokevirtual 419, 3) := by decide +kernel
theorem dX11_laysGroup_152 : decode cX11_laysGroup 152 = .ok (.lastore, 1) := by decide +kernel
theorem dX11_laysGroup_153 : decode cX11_laysGroup 153 = .ok (.aload_n 0, 1) := by decide +kernel
theorem dX11_laysGroup_154 : decode cX11_laysGroup 154 = .ok (.getfield 86, 3) := by decide +kernel
theorem dX11_laysGroup_157 : decode cX11_laysGroup 157 = .ok (.iload_n 2, 1) := by decide +kernel
theorem dX11_laysGroup_158 : decode cX11_laysGroup 158 = .ok (.aload_n 0, 1) := by decide +kernel
theorem dX11_laysGroup_159 : decode cX11_laysGroup 159 = .ok (.getfield 98, 3) := by decide +kernel
theorem dX11_laysGroup_162 : decode cX11_laysGroup 162 = .ok (.iload_n 2, 1) := by decide +kernel
theorem dX11_laysGroup_163 : decode cX11_laysGroup 163 = .ok (.laload, 1) := by decide +kernel
theorem dX11_laysGroup_164 : decode cX11_laysGroup 164 = .ok (.aload_n 0, 1) := by decide +kernel
theorem dX11_laysGroup_165 : decode cX11_laysGroup 165 = .ok (.getfield 95, 3) := by decide +kernel
theorem dX11_laysGroup_168 : decode cX11_laysGroup 168 = .ok (.iload_n 2, 1) := by decide +kernel
theorem dX11_laysGroup_169 : decode cX11_laysGroup 169 = .ok (.laload, 1) := by decide +kernel
theorem dX11_laysGroup_170 : decode cX11_laysGroup 170 = .ok (.lsub, 1) := by decide +kernel
theorem dX11_laysGroup_171 : decode cX11_laysGroup 171 = .ok (.iload 6, 2) := by decide +kernel
theorem dX11_laysGroup_173 : decode cX11_laysGroup 173 = .ok (.i2l, 1) := by decide +kernel
theorem dX11_laysGroup_174 : decode cX11_laysGroup 174 = .ok (.lmul, 1) := by decide +kernel
theorem dX11_laysGroup_175 : decode cX11_laysGroup 175 = .ok (.lastore, 1) := by decide +kernel
theorem dX11_laysGroup_176 : decode cX11_laysGroup 176 = .ok (.return_, 1) := by decide +kernel
theorem dX11_laysParts_0 : decode cX11_laysParts 0 = .ok (.iload_n 2, 1) := by decide +kernel
theorem dX11_laysParts_1 : decode cX11_laysParts 1 = .ok (.ifCond .ne 9, 3) := by decide +kernel
theorem dX11_laysParts_4 : decode cX11_laysParts 4 = .ok (.aload_n 0, 1) := by decide +kernel
theorem dX11_laysParts_5 : decode cX11_laysParts 5 = .ok (.iload_n 1, 1) := by decide +kernel
theorem dX11_laysParts_6 : decode cX11_laysParts 6 = .ok (.invokevirtual 446, 3) := by decide +kernel
theorem dX11_laysParts_9 : decode cX11_laysParts 9 = .ok (.return_, 1) := by decide +kernel
theorem dX11_laysParts_10 : decode cX11_laysParts 10 = .ok (.aload_n 0, 1) := by decide +kernel
theorem dX11_laysParts_11 : decode cX11_laysParts 11 = .ok (.invokevirtual 367, 3) := by decide +kernel
theorem dX11_laysParts_14 : decode cX11_laysParts 14 = .ok (.aload_n 0, 1) := by decide +kernel
theorem dX11_laysParts_15 : decode cX11_laysParts 15 = .ok (.iconst 0, 1) := by decide +kernel
theorem dX11_laysParts_16 : decode cX11_laysParts 16 = .ok (.putfield 437, 3) := by decide +kernel
theorem dX11_laysParts_19 : decode cX11_laysParts 19 = .ok (.iconst 0, 1) := by decide +kernel
theorem dX11_laysParts_20 : decode cX11_laysParts 20 = .ok (.istore_n 3, 1) := by decide +kernel
theorem dX11_laysParts_21 : decode cX11_laysParts 21 = .ok (.iload_n 3, 1) := by decide +kernel
theorem dX11_laysParts_22 : decode cX11_laysParts 22 = .ok (.aload_n 0, 1) := by decide +kernel
theorem dX11_laysParts_23 : decode cX11_laysParts 23 = .ok (.getfield 7, 3) := by decide +kernel
theorem dX11_laysParts_26 : decode cX11_laysParts 26 = .ok (.bipush 34, 2) := by decide +kernel
theorem dX11_laysParts_28 : decode cX11_laysParts 28 = .ok (.iaload, 1) := by decide +kernel
theorem dX11_laysParts_29 : decode cX11_laysParts 29 = .ok (.if_icmp .ge 70, 3) := by decide +kernel
theorem dX11_laysParts_32 : decode cX11_laysParts 32 = .ok (.aload_n 0, 1) := by decide +kernel
theorem dX11_laysParts_33 : decode cX11_laysParts 33 = .ok (.iload_n 3, 1) := by decide +kernel
theorem dX11_laysParts_34 : decode cX11_laysParts 34 = .ok (.invokevirtual 425, 3) := by decide +kernel
theorem dX11_laysParts_37 : decode cX11_laysParts 37 = .ok (.ifCond .eq 56, 3) := by decide +kernel
theorem dX11_laysParts_40 : decode cX11_laysParts 40 = .ok (.aload_n 0, 1) := by decide +kernel
theorem dX11_laysParts_41 : decode cX11_laysParts 41 = .ok (.iload_n 3, 1) := by decide +kernel
theorem dX11_laysParts_42 : decode cX11_laysParts 42 = .ok (.iconst 1, 1) := by decide +kernel
theorem dX11_laysParts_43 : decode cX11_laysParts 43 = .ok (.invokevirtual 305, 3) := by decide +kernel
theorem dX11_laysParts_46 : decode cX11_laysParts 46 = .ok (.iload_n 1, 1) := by decide +kernel
theorem dX11_laysParts_47 : decode cX11_laysParts 47 = .ok (.if_icmp .eq 6, 3) := by decide +kernel
theorem dX11_laysParts_50 : decode cX11_laysParts 50 = .ok (.goto 43, 3) := by decide +kernel
theorem dX11_laysParts_53 : decode cX11_laysParts 53 = .ok (.aload_n 0, 1) := by decide +kernel
theorem dX11_laysParts_54 : decode cX11_laysParts 54 = .ok (.getfield 86, 3) := by decide +kernel
theorem dX11_laysParts_57 : decode cX11_laysParts 57 = .ok (.aload_n 0, 1) := by decide +kernel
theorem dX11_laysParts_58 : decode cX11_laysParts 58 = .ok (.getfield 437, 3) := by decide +kernel
theorem dX11_laysParts_61 : decode cX11_laysParts 61 = .ok (.aload_n 0, 1) := by decide +kernel
theorem dX11_laysParts_62 : decode cX11_laysParts 62 = .ok (.iload_n 3, 1) := by decide +kernel
theorem dX11_laysParts_63 : decode cX11_laysParts 63 = .ok (.iload_n 2, 1) := by decide +kernel
theorem dX11_laysParts_64 : decode cX11_laysParts 64 = .ok (.invokevirtual 434, 3) := by decide +kernel
theorem dX11_laysParts_67 : decode cX11_laysParts 67 = .ok (.lastore, 1) := by decide +kernel
theorem dX11_laysParts_68 : decode cX11_laysParts 68 = .ok (.aload_n 0, 1) := by decide +kernel
theorem dX11_laysParts_69 : decode cX11_laysParts 69 = .ok (.getfield 89, 3) := by decide +kernel
theorem dX11_laysParts_72 : decode cX11_laysParts 72 = .ok (.aload_n 0, 1) := by decide +kernel
theorem dX11_laysParts_73 : decode cX11_laysParts 73 = .ok (.getfield 437, 3) := by decide +kernel
theorem dX11_laysParts_76 : decode cX11_laysParts 76 = .ok (.aload_n 0, 1) := by decide +kernel
theorem dX11_laysParts_77 : decode cX11_laysParts 77 = .ok (.iload_n 3, 1) := by decide +kernel
theorem dX11_laysParts_78 : decode cX11_laysParts 78 = .ok (.iconst 5, 1) := by decide +kernel
theorem dX11_laysParts_79 : decode cX11_laysParts 79 = .ok (.invokevirtual 305, 3) := by decide +kernel
theorem dX11_laysParts_82 : decode cX11_laysParts 82 = .ok (.iastore, 1) := by decide +kernel
theorem dX11_laysParts_83 : decode cX11_laysParts 83 = .ok (.aload_n 0, 1) := by decide +kernel
theorem dX11_laysParts_84 : decode cX11_laysParts 84 = .ok (.dup, 1) := by decide +kernel
theorem dX11_laysParts_85 : decode cX11_laysParts 85 = .ok (.getfield 437, 3) := by decide +kernel
theorem dX11_laysParts_88 : decode cX11_laysParts 88 = .ok (.iconst 1, 1) := by decide +kernel
theorem dX11_laysParts_89 : decode cX11_laysParts 89 = .ok (.iadd, 1) := by decide +kernel
theorem dX11_laysParts_90 : decode cX11_laysParts 90 = .ok (.putfield 437, 3) := by decide +kernel
theorem dX11_laysParts_93 : decode cX11_laysParts 93 = .ok (.iinc 3 1, 3) := by decide +kernel
theorem dX11_laysParts_96 : decode cX11_laysParts 96 = .ok (.goto (-75), 3) := by decide +kernel
theorem dX11_laysParts_99 : decode cX11_laysParts 99 = .ok (.return_, 1) := by decide +kernel
theorem dX11_groups_0 : decode cX11_groups 0 = .ok (.aload_n 0, 1) := by decide +kernel
theorem dX11_groups_1 : decode cX11_groups 1 = .ok (.aload_n 0, 1) := by decide +kernel
theorem dX11_groups_2 : decode cX11_groups 2 = .ok (.iload_n 1, 1) := by decide +kernel
theorem dX11_groups_3 : decode cX11_groups 3 = .ok (.invokevirtual 311, 3) := by decide +kernel
theorem dX11_groups_6 : decode cX11_groups 6 = .ok (.ifCond .eq 7, 3) := by decide +kernel
theorem dX11_groups_9 : decode cX11_groups 9 = .ok (.iconst 0, 1) := by decide +kernel
theorem dX11_groups_10 : decode cX11_groups 10 = .ok (.goto 4, 3) := by decide +kernel
theorem dX11_groups_13 : decode cX11_groups 13 = .ok (.iconst 1, 1) := by decide +kernel
theorem dX11_groups_14 : decode cX11_groups 14 = .ok (.putfield 104, 3) := by decide +kernel
theorem dX11_groups_17 : decode cX11_groups 17 = .ok (.aload_n 0, 1) := by decide +kernel
theorem dX11_groups_18 : decode cX11_groups 18 = .ok (.getfield 104, 3) := by decide +kernel
theorem dX11_groups_21 : decode cX11_groups 21 = .ok (.ifCond .le 5, 3) := by decide +kernel
theorem dX11_groups_24 : decode cX11_groups 24 = .ok (.iconst 0, 1) := by decide +kernel
theorem dX11_groups_25 : decode cX11_groups 25 = .ok (.ireturn, 1) := by decide +kernel
theorem dX11_groups_26 : decode cX11_groups 26 = .ok (.aload_n 0, 1) := by decide +kernel
theorem dX11_groups_27 : decode cX11_groups 27 = .ok (.iload_n 1, 1) := by decide +kernel
theorem dX11_groups_28 : decode cX11_groups 28 = .ok (.invokevirtual 446, 3) := by decide +kernel
theorem dX11_groups_31 : decode cX11_groups 31 = .ok (.aload_n 0, 1) := by decide +kernel
theorem dX11_groups_32 : decode cX11_groups 32 = .ok (.getfield 437, 3) := by decide +kernel
theorem dX11_groups_35 : decode cX11_groups 35 = .ok (.ireturn, 1) := by decide +kernel
theorem dX11_group_0 : decode cX11_group 0 = .ok (.aload_n 0, 1) := by decide +kernel
theorem dX11_group_1 : decode cX11_group 1 = .ok (.aload_n 0, 1) := by decide +kernel
theorem dX11_group_2 : decode cX11_group 2 = .ok (.iload_n 1, 1) := by decide +kernel
theorem dX11_group_3 : decode cX11_group 3 = .ok (.invokevirtual 311, 3) := by decide +kernel
theorem dX11_group_6 : decode cX11_group 6 = .ok (.ifCond .eq 7, 3) := by decide +kernel
theorem dX11_group_9 : decode cX11_group 9 = .ok (.iconst 0, 1) := by decide +kernel
theorem dX11_group_10 : decode cX11_group 10 = .ok (.goto 4, 3) := by decide +kernel
theorem dX11_group_13 : decode cX11_group 13 = .ok (.iconst 1, 1) := by decide +kernel
theorem dX11_group_14 : decode cX11_group 14 = .ok (.putfield 104, 3) := by decide +kernel
theorem dX11_group_17 : decode cX11_group 17 = .ok (.aload_n 0, 1) := by decide +kernel
theorem dX11_group_18 : decode cX11_group 18 = .ok (.getfield 104, 3) := by decide +kernel
theorem dX11_group_21 : decode cX11_group 21 = .ok (.ifCond .le 5, 3) := by decide +kernel
theorem dX11_group_24 : decode cX11_group 24 = .ok (.lconst 0, 1) := by decide +kernel
theorem dX11_group_25 : decode cX11_group 25 = .ok (.lreturn, 1) := by decide +kernel
theorem dX11_group_26 : decode cX11_group 26 = .ok (.aload_n 0, 1) := by decide +kernel
theorem dX11_group_27 : decode cX11_group 27 = .ok (.iload_n 1, 1) := by decide +kernel
theorem dX11_group_28 : decode cX11_group 28 = .ok (.invokevirtual 446, 3) := by decide +kernel
theorem dX11_group_31 : decode cX11_group 31 = .ok (.aload_n 0, 1) := by decide +kernel
theorem dX11_group_32 : decode cX11_group 32 = .ok (.iload_n 2, 1) := by decide +kernel
theorem dX11_group_33 : decode cX11_group 33 = .ok (.i2l, 1) := by decide +kernel
theorem dX11_group_34 : decode cX11_group 34 = .ok (.lconst 0, 1) := by decide +kernel
theorem dX11_group_35 : decode cX11_group 35 = .ok (.aload_n 0, 1) := by decide +kernel
theorem dX11_group_36 : decode cX11_group 36 = .ok (.getfield 437, 3) := by decide +kernel
theorem dX11_group_39 : decode cX11_group 39 = .ok (.iconst 1, 1) := by decide +kernel
theorem dX11_group_40 : decode cX11_group 40 = .ok (.isub, 1) := by decide +kernel
theorem dX11_group_41 : decode cX11_group 41 = .ok (.i2l, 1) := by decide +kernel
theorem dX11_group_42 : decode cX11_group 42 = .ok (.invokestatic 301, 3) := by decide +kernel
theorem dX11_group_45 : decode cX11_group 45 = .ok (.ifCond .eq 19, 3) := by decide +kernel
theorem dX11_group_48 : decode cX11_group 48 = .ok (.iload_n 3, 1) := by decide +kernel
theorem dX11_group_49 : decode cX11_group 49 = .ok (.i2l, 1) := by decide +kernel
theorem dX11_group_50 : decode cX11_group 50 = .ok (.lconst 0, 1) := by decide +kernel
theorem dX11_group_51 : decode cX11_group 51 = .ok (.ldc2_w 449, 3) := by decide +kernel
theorem dX11_group_54 : decode cX11_group 54 = .ok (.invokestatic 301, 3) := by decide +kernel
theorem dX11_group_57 : decode cX11_group 57 = .ok (.ifCond .eq 7, 3) := by decide +kernel
theorem dX11_group_60 : decode cX11_group 60 = .ok (.iconst 0, 1) := by decide +kernel
theorem dX11_group_61 : decode cX11_group 61 = .ok (.goto 4, 3) := by decide +kernel
theorem dX11_group_64 : decode cX11_group 64 = .ok (.iconst 2, 1) := by decide +kernel
theorem dX11_group_65 : decode cX11_group 65 = .ok (.putfield 104, 3) := by decide +kernel
theorem dX11_group_68 : decode cX11_group 68 = .ok (.aload_n 0, 1) := by decide +kernel
theorem dX11_group_69 : decode cX11_group 69 = .ok (.getfield 104, 3) := by decide +kernel
theorem dX11_group_72 : decode cX11_group 72 = .ok (.ifCond .le 5, 3) := by decide +kernel
theorem dX11_group_75 : decode cX11_group 75 = .ok (.lconst 0, 1) := by decide +kernel
theorem dX11_group_76 : decode cX11_group 76 = .ok (.lreturn, 1) := by decide +kernel
theorem dX11_group_77 : decode cX11_group 77 = .ok (.iload_n 3, 1) := by decide +kernel
theorem dX11_group_78 : decode cX11_group 78 = .ok (.tableswitch 98 0 5 #[38, 51, 64, 76, 84, 91], 38) := by decide +kernel
theorem dX11_group_116 : decode cX11_group 116 = .ok (.aload_n 0, 1) := by decide +kernel
theorem dX11_group_117 : decode cX11_group 117 = .ok (.aload_n 0, 1) := by decide +kernel
theorem dX11_group_118 : decode cX11_group 118 = .ok (.getfield 92, 3) := by decide +kernel
theorem dX11_group_121 : decode cX11_group 121 = .ok (.iload_n 2, 1) := by decide +kernel
theorem dX11_group_122 : decode cX11_group 122 = .ok (.iaload, 1) := by decide +kernel
theorem dX11_group_123 : decode cX11_group 123 = .ok (.iconst 2, 1) := by decide +kernel
theorem dX11_group_124 : decode cX11_group 124 = .ok (.invokevirtual 305, 3) := by decide +kernel
theorem dX11_group_127 : decode cX11_group 127 = .ok (.i2l, 1) := by decide +kernel
theorem dX11_group_128 : decode cX11_group 128 = .ok (.lreturn, 1) := by decide +kernel
theorem dX11_group_129 : decode cX11_group 129 = .ok (.aload_n 0, 1) := by decide +kernel
theorem dX11_group_130 : decode cX11_group 130 = .ok (.aload_n 0, 1) := by decide +kernel
theorem dX11_group_131 : decode cX11_group 131 = .ok (.getfield 92, 3) := by decide +kernel
theorem dX11_group_134 : decode cX11_group 134 = .ok (.iload_n 2, 1) := by decide +kernel
theorem dX11_group_135 : decode cX11_group 135 = .ok (.iaload, 1) := by decide +kernel
theorem dX11_group_136 : decode cX11_group 136 = .ok (.iconst 3, 1) := by decide +kernel
theorem dX11_group_137 : decode cX11_group 137 = .ok (.invokevirtual 305, 3) := by decide +kernel
theorem dX11_group_140 : decode cX11_group 140 = .ok (.i2l, 1) := by decide +kernel
theorem dX11_group_141 : decode cX11_group 141 = .ok (.lreturn, 1) := by decide +kernel
theorem dX11_group_142 : decode cX11_group 142 = .ok (.aload_n 0, 1) := by decide +kernel
theorem dX11_group_143 : decode cX11_group 143 = .ok (.aload_n 0, 1) := by decide +kernel
theorem dX11_group_144 : decode cX11_group 144 = .ok (.getfield 92, 3) := by decide +kernel
theorem dX11_group_147 : decode cX11_group 147 = .ok (.iload_n 2, 1) := by decide +kernel
theorem dX11_group_148 : decode cX11_group 148 = .ok (.iaload, 1) := by decide +kernel
theorem dX11_group_149 : decode cX11_group 149 = .ok (.invokevirtual 431, 3) := by decide +kernel
theorem dX11_group_152 : decode cX11_group 152 = .ok (.i2l, 1) := by decide +kernel
theorem dX11_group_153 : decode cX11_group 153 = .ok (.lreturn, 1) := by decide +kernel
theorem dX11_group_154 : decode cX11_group 154 = .ok (.aload_n 0, 1) := by decide +kernel
theorem dX11_group_155 : decode cX11_group 155 = .ok (.getfield 89, 3) := by decide +kernel
theorem dX11_group_158 : decode cX11_group 158 = .ok (.iload_n 2, 1) := by decide +kernel
theorem dX11_group_159 : decode cX11_group 159 = .ok (.iaload, 1) := by decide +kernel
theorem dX11_group_160 : decode cX11_group 160 = .ok (.i2l, 1) := by decide +kernel
theorem dX11_group_161 : decode cX11_group 161 = .ok (.lreturn, 1) := by decide +kernel
theorem dX11_group_162 : decode cX11_group 162 = .ok (.aload_n 0, 1) := by decide +kernel
theorem dX11_group_163 : decode cX11_group 163 = .ok (.getfield 95, 3) := by decide +kernel
theorem dX11_group_166 : decode cX11_group 166 = .ok (.iload_n 2, 1) := by decide +kernel
theorem dX11_group_167 : decode cX11_group 167 = .ok (.laload, 1) := by decide +kernel
theorem dX11_group_168 : decode cX11_group 168 = .ok (.lreturn, 1) := by decide +kernel
theorem dX11_group_169 : decode cX11_group 169 = .ok (.aload_n 0, 1) := by decide +kernel
theorem dX11_group_170 : decode cX11_group 170 = .ok (.getfield 98, 3) := by decide +kernel
theorem dX11_group_173 : decode cX11_group 173 = .ok (.iload_n 2, 1) := by decide +kernel
theorem dX11_group_174 : decode cX11_group 174 = .ok (.laload, 1) := by decide +kernel
theorem dX11_group_175 : decode cX11_group 175 = .ok (.lreturn, 1) := by decide +kernel
theorem dX11_group_176 : decode cX11_group 176 = .ok (.aload_n 0, 1) := by decide +kernel
theorem dX11_group_177 : decode cX11_group 177 = .ok (.getfield 86, 3) := by decide +kernel
theorem dX11_group_180 : decode cX11_group 180 = .ok (.iload_n 2, 1) := by decide +kernel
theorem dX11_group_181 : decode cX11_group 181 = .ok (.laload, 1) := by decide +kernel
theorem dX11_group_182 : decode cX11_group 182 = .ok (.lreturn, 1) := by decide +kernel
theorem dX11_sumBy_0 : decode cX11_sumBy 0 = .ok (.lconst 0, 1) := by decide +kernel
theorem dX11_sumBy_1 : decode cX11_sumBy 1 = .ok (.lstore 4, 2) := by decide +kernel
theorem dX11_sumBy_3 : decode cX11_sumBy 3 = .ok (.iconst 0, 1) := by decide +kernel
theorem dX11_sumBy_4 : decode cX11_sumBy 4 = .ok (.istore 6, 2) := by decide +kernel
theorem dX11_sumBy_6 : decode cX11_sumBy 6 = .ok (.iload 6, 2) := by decide +kernel
theorem dX11_sumBy_8 : decode cX11_sumBy 8 = .ok (.aload_n 0, 1) := by decide +kernel
theorem dX11_sumBy_9 : decode cX11_sumBy 9 = .ok (.getfield 437, 3) := by decide +kernel
theorem dX11_sumBy_12 : decode cX11_sumBy 12 = .ok (.if_icmp .ge 55, 3) := by decide +kernel
theorem dX11_sumBy_15 : decode cX11_sumBy 15 = .ok (.aload_n 0, 1) := by decide +kernel
theorem dX11_sumBy_16 : decode cX11_sumBy 16 = .ok (.getfield 86, 3) := by decide +kernel
theorem dX11_sumBy_19 : decode cX11_sumBy 19 = .ok (.iload 6, 2) := by decide +kernel
theorem dX11_sumBy_21 : decode cX11_sumBy 21 = .ok (.laload, 1) := by decide +kernel
theorem dX11_sumBy_22 : decode cX11_sumBy 22 = .ok (.ldc2_w 409, 3) := by decide +kernel
theorem dX11_sumBy_25 : decode cX11_sumBy 25 = .ok (.lload_n 2, 1) := by decide +kernel
theorem dX11_sumBy_26 : decode cX11_sumBy 26 = .ok (.lmul, 1) := by decide +kernel
theorem dX11_sumBy_27 : decode cX11_sumBy 27 = .ok (.aload_n 0, 1) := by decide +kernel
theorem dX11_sumBy_28 : decode cX11_sumBy 28 = .ok (.getfield 89, 3) := by decide +kernel
theorem dX11_sumBy_31 : decode cX11_sumBy 31 = .ok (.iload 6, 2) := by decide +kernel
theorem dX11_sumBy_33 : decode cX11_sumBy 33 = .ok (.iaload, 1) := by decide +kernel
theorem dX11_sumBy_34 : decode cX11_sumBy 34 = .ok (.i2l, 1) := by decide +kernel
theorem dX11_sumBy_35 : decode cX11_sumBy 35 = .ok (.lmul, 1) := by decide +kernel
theorem dX11_sumBy_36 : decode cX11_sumBy 36 = .ok (.lsub, 1) := by decide +kernel
theorem dX11_sumBy_37 : decode cX11_sumBy 37 = .ok (.lstore 7, 2) := by decide +kernel
theorem dX11_sumBy_39 : decode cX11_sumBy 39 = .ok (.lload 4, 2) := by decide +kernel
theorem dX11_sumBy_41 : decode cX11_sumBy 41 = .ok (.iload_n 1, 1) := by decide +kernel
theorem dX11_sumBy_42 : decode cX11_sumBy 42 = .ok (.ifCond .eq 14, 3) := by decide +kernel
theorem dX11_sumBy_45 : decode cX11_sumBy 45 = .ok (.lload 7, 2) := by decide +kernel
theorem dX11_sumBy_47 : decode cX11_sumBy 47 = .ok (.lconst 0, 1) := by decide +kernel
theorem dX11_sumBy_48 : decode cX11_sumBy 48 = .ok (.lcmp, 1) := by decide +kernel
theorem dX11_sumBy_49 : decode cX11_sumBy 49 = .ok (.ifCond .ge 7, 3) := by decide +kernel
theorem dX11_sumBy_52 : decode cX11_sumBy 52 = .ok (.lconst 0, 1) := by decide +kernel
theorem dX11_sumBy_53 : decode cX11_sumBy 53 = .ok (.goto 5, 3) := by decide +kernel
theorem dX11_sumBy_56 : decode cX11_sumBy 56 = .ok (.lload 7, 2) := by decide +kernel
theorem dX11_sumBy_58 : decode cX11_sumBy 58 = .ok (.ladd, 1) := by decide +kernel
theorem dX11_sumBy_59 : decode cX11_sumBy 59 = .ok (.lstore 4, 2) := by decide +kernel
theorem dX11_sumBy_61 : decode cX11_sumBy 61 = .ok (.iinc 6 1, 3) := by decide +kernel
theorem dX11_sumBy_64 : decode cX11_sumBy 64 = .ok (.goto (-58), 3) := by decide +kernel
theorem dX11_sumBy_67 : decode cX11_sumBy 67 = .ok (.lload 4, 2) := by decide +kernel
theorem dX11_sumBy_69 : decode cX11_sumBy 69 = .ok (.lreturn, 1) := by decide +kernel
theorem dX11_isMethod_0 : decode cX11_isMethod 0 = .ok (.iload_n 0, 1) := by decide +kernel
theorem dX11_isMethod_1 : decode cX11_isMethod 1 = .ok (.i2l, 1) := by decide +kernel
theorem dX11_isMethod_2 : decode cX11_isMethod 2 = .ok (.lconst 0, 1) := by decide +kernel
theorem dX11_isMethod_3 : decode cX11_isMethod 3 = .ok (.ldc2_w 320, 3) := by decide +kernel
theorem dX11_isMethod_6 : decode cX11_isMethod 6 = .ok (.invokestatic 301, 3) := by decide +kernel
theorem dX11_isMethod_9 : decode cX11_isMethod 9 = .ok (.ireturn, 1) := by decide +kernel
theorem dX11_sum_0 : decode cX11_sum 0 = .ok (.aload_n 0, 1) := by decide +kernel
theorem dX11_sum_1 : decode cX11_sum 1 = .ok (.aload_n 0, 1) := by decide +kernel
theorem dX11_sum_2 : decode cX11_sum 2 = .ok (.iload_n 1, 1) := by decide +kernel
theorem dX11_sum_3 : decode cX11_sum 3 = .ok (.invokevirtual 311, 3) := by decide +kernel
theorem dX11_sum_6 : decode cX11_sum 6 = .ok (.ifCond .ne 7, 3) := by decide +kernel
theorem dX11_sum_9 : decode cX11_sum 9 = .ok (.iconst 1, 1) := by decide +kernel
theorem dX11_sum_10 : decode cX11_sum 10 = .ok (.goto 15, 3) := by decide +kernel
theorem dX11_sum_13 : decode cX11_sum 13 = .ok (.iload_n 2, 1) := by decide +kernel
theorem dX11_sum_14 : decode cX11_sum 14 = .ok (.invokestatic 451, 3) := by decide +kernel
theorem dX11_sum_17 : decode cX11_sum 17 = .ok (.ifCond .eq 7, 3) := by decide +kernel
theorem dX11_sum_20 : decode cX11_sum 20 = .ok (.iconst 0, 1) := by decide +kernel
theorem dX11_sum_21 : decode cX11_sum 21 = .ok (.goto 4, 3) := by decide +kernel
theorem dX11_sum_24 : decode cX11_sum 24 = .ok (.iconst 2, 1) := by decide +kernel
theorem dX11_sum_25 : decode cX11_sum 25 = .ok (.putfield 104, 3) := by decide +kernel
theorem dX11_sum_28 : decode cX11_sum 28 = .ok (.aload_n 0, 1) := by decide +kernel
theorem dX11_sum_29 : decode cX11_sum 29 = .ok (.getfield 104, 3) := by decide +kernel
theorem dX11_sum_32 : decode cX11_sum 32 = .ok (.ifCond .le 5, 3) := by decide +kernel
theorem dX11_sum_35 : decode cX11_sum 35 = .ok (.lconst 0, 1) := by decide +kernel
theorem dX11_sum_36 : decode cX11_sum 36 = .ok (.lreturn, 1) := by decide +kernel
theorem dX11_sum_37 : decode cX11_sum 37 = .ok (.aload_n 0, 1) := by decide +kernel
theorem dX11_sum_38 : decode cX11_sum 38 = .ok (.iload_n 1, 1) := by decide +kernel
theorem dX11_sum_39 : decode cX11_sum 39 = .ok (.iload_n 2, 1) := by decide +kernel
theorem dX11_sum_40 : decode cX11_sum 40 = .ok (.invokevirtual 454, 3) := by decide +kernel
theorem dX11_sum_43 : decode cX11_sum 43 = .ok (.aload_n 0, 1) := by decide +kernel
theorem dX11_sum_44 : decode cX11_sum 44 = .ok (.iload_n 3, 1) := by decide +kernel
theorem dX11_sum_45 : decode cX11_sum 45 = .ok (.lconst 0, 1) := by decide +kernel
theorem dX11_sum_46 : decode cX11_sum 46 = .ok (.invokevirtual 457, 3) := by decide +kernel
theorem dX11_sum_49 : decode cX11_sum 49 = .ok (.lreturn, 1) := by decide +kernel
theorem dX11_valueBy_0 : decode cX11_valueBy 0 = .ok (.aload_n 0, 1) := by decide +kernel
theorem dX11_valueBy_1 : decode cX11_valueBy 1 = .ok (.invokevirtual 367, 3) := by decide +kernel
theorem dX11_valueBy_4 : decode cX11_valueBy 4 = .ok (.lconst 0, 1) := by decide +kernel
theorem dX11_valueBy_5 : decode cX11_valueBy 5 = .ok (.lstore 4, 2) := by decide +kernel
theorem dX11_valueBy_7 : decode cX11_valueBy 7 = .ok (.iconst 0, 1) := by decide +kernel
theorem dX11_valueBy_8 : decode cX11_valueBy 8 = .ok (.istore 6, 2) := by decide +kernel
theorem dX11_valueBy_10 : decode cX11_valueBy 10 = .ok (.iload 6, 2) := by decide +kernel
theorem dX11_valueBy_12 : decode cX11_valueBy 12 = .ok (.aload_n 0, 1) := by decide +kernel
theorem dX11_valueBy_13 : decode cX11_valueBy 13 = .ok (.getfield 7, 3) := by decide +kernel
theorem dX11_valueBy_16 : decode cX11_valueBy 16 = .ok (.bipush 34, 2) := by decide +kernel
theorem dX11_valueBy_18 : decode cX11_valueBy 18 = .ok (.iaload, 1) := by decide +kernel
theorem dX11_valueBy_19 : decode cX11_valueBy 19 = .ok (.if_icmp .ge 61, 3) := by decide +kernel
theorem dX11_valueBy_22 : decode cX11_valueBy 22 = .ok (.lload 4, 2) := by decide +kernel
theorem dX11_valueBy_24 : decode cX11_valueBy 24 = .ok (.aload_n 0, 1) := by decide +kernel
theorem dX11_valueBy_25 : decode cX11_valueBy 25 = .ok (.iload 6, 2) := by decide +kernel
theorem dX11_valueBy_27 : decode cX11_valueBy 27 = .ok (.invokevirtual 425, 3) := by decide +kernel
theorem dX11_valueBy_30 : decode cX11_valueBy 30 = .ok (.ifCond .eq 40, 3) := by decide +kernel
theorem dX11_valueBy_33 : decode cX11_valueBy 33 = .ok (.aload_n 0, 1) := by decide +kernel
theorem dX11_valueBy_34 : decode cX11_valueBy 34 = .ok (.iload 6, 2) := by decide +kernel
theorem dX11_valueBy_36 : decode cX11_valueBy 36 = .ok (.iconst 1, 1) := by decide +kernel
theorem dX11_valueBy_37 : decode cX11_valueBy 37 = .ok (.invokevirtual 305, 3) := by decide +kernel
theorem dX11_valueBy_40 : decode cX11_valueBy 40 = .ok (.iload_n 1, 1) := by decide +kernel
theorem dX11_valueBy_41 : decode cX11_valueBy 41 = .ok (.if_icmp .ne 29, 3) := by decide +kernel
theorem dX11_valueBy_44 : decode cX11_valueBy 44 = .ok (.ldc2_w 409, 3) := by decide +kernel
theorem dX11_valueBy_47 : decode cX11_valueBy 47 = .ok (.aload_n 0, 1) := by decide +kernel
theorem dX11_valueBy_48 : decode cX11_valueBy 48 = .ok (.getfield 69, 3) := by decide +kernel
theorem dX11_valueBy_51 : decode cX11_valueBy 51 = .ok (.iload 6, 2) := by decide +kernel
theorem dX11_valueBy_53 : decode cX11_valueBy 53 = .ok (.iaload, 1) := by decide +kernel
theorem dX11_valueBy_54 : decode cX11_valueBy 54 = .ok (.i2l, 1) := by decide +kernel
theorem dX11_valueBy_55 : decode cX11_valueBy 55 = .ok (.lload_n 2, 1) := by decide +kernel
theorem dX11_valueBy_56 : decode cX11_valueBy 56 = .ok (.ladd, 1) := by decide +kernel
theorem dX11_valueBy_57 : decode cX11_valueBy 57 = .ok (.lmul, 1) := by decide +kernel
theorem dX11_valueBy_58 : decode cX11_valueBy 58 = .ok (.aload_n 0, 1) := by decide +kernel
theorem dX11_valueBy_59 : decode cX11_valueBy 59 = .ok (.iload 6, 2) := by decide +kernel
theorem dX11_valueBy_61 : decode cX11_valueBy 61 = .ok (.iconst 5, 1) := by decide +kernel
theorem dX11_valueBy_62 : decode cX11_valueBy 62 = .ok (.invokevirtual 305, 3) := by decide +kernel
theorem dX11_valueBy_65 : decode cX11_valueBy 65 = .ok (.i2l, 1) := by decide +kernel
theorem dX11_valueBy_66 : decode cX11_valueBy 66 = .ok (.lmul, 1) := by decide +kernel
theorem dX11_valueBy_67 : decode cX11_valueBy 67 = .ok (.goto 4, 3) := by decide +kernel
theorem dX11_valueBy_70 : decode cX11_valueBy 70 = .ok (.lconst 0, 1) := by decide +kernel
theorem dX11_valueBy_71 : decode cX11_valueBy 71 = .ok (.ladd, 1) := by decide +kernel
theorem dX11_valueBy_72 : decode cX11_valueBy 72 = .ok (.lstore 4, 2) := by decide +kernel
theorem dX11_valueBy_74 : decode cX11_valueBy 74 = .ok (.iinc 6 1, 3) := by decide +kernel
theorem dX11_valueBy_77 : decode cX11_valueBy 77 = .ok (.goto (-67), 3) := by decide +kernel
theorem dX11_valueBy_80 : decode cX11_valueBy 80 = .ok (.lload 4, 2) := by decide +kernel
theorem dX11_valueBy_82 : decode cX11_valueBy 82 = .ok (.lreturn, 1) := by decide +kernel
theorem dX11_value_0 : decode cX11_value 0 = .ok (.aload_n 0, 1) := by decide +kernel
theorem dX11_value_1 : decode cX11_value 1 = .ok (.aload_n 0, 1) := by decide +kernel
theorem dX11_value_2 : decode cX11_value 2 = .ok (.iload_n 1, 1) := by decide +kernel
theorem dX11_value_3 : decode cX11_value 3 = .ok (.invokevirtual 311, 3) := by decide +kernel
theorem dX11_value_6 : decode cX11_value 6 = .ok (.ifCond .eq 7, 3) := by decide +kernel
theorem dX11_value_9 : decode cX11_value 9 = .ok (.iconst 0, 1) := by decide +kernel
theorem dX11_value_10 : decode cX11_value 10 = .ok (.goto 4, 3) := by decide +kernel
theorem dX11_value_13 : decode cX11_value 13 = .ok (.iconst 1, 1) := by decide +kernel
theorem dX11_value_14 : decode cX11_value 14 = .ok (.putfield 104, 3) := by decide +kernel
theorem dX11_value_17 : decode cX11_value 17 = .ok (.aload_n 0, 1) := by decide +kernel
theorem dX11_value_18 : decode cX11_value 18 = .ok (.getfield 104, 3) := by decide +kernel
theorem dX11_value_21 : decode cX11_value 21 = .ok (.ifCond .le 7, 3) := by decide +kernel
theorem dX11_value_24 : decode cX11_value 24 = .ok (.lconst 0, 1) := by decide +kernel
theorem dX11_value_25 : decode cX11_value 25 = .ok (.goto 9, 3) := by decide +kernel
theorem dX11_value_28 : decode cX11_value 28 = .ok (.aload_n 0, 1) := by decide +kernel
theorem dX11_value_29 : decode cX11_value 29 = .ok (.iload_n 1, 1) := by decide +kernel
theorem dX11_value_30 : decode cX11_value 30 = .ok (.lconst 0, 1) := by decide +kernel
theorem dX11_value_31 : decode cX11_value 31 = .ok (.invokevirtual 461, 3) := by decide +kernel
theorem dX11_value_34 : decode cX11_value 34 = .ok (.lreturn, 1) := by decide +kernel
theorem dX11_shareOf_0 : decode cX11_shareOf 0 = .ok (.lload_n 2, 1) := by decide +kernel
theorem dX11_shareOf_1 : decode cX11_shareOf 1 = .ok (.lconst 0, 1) := by decide +kernel
theorem dX11_shareOf_2 : decode cX11_shareOf 2 = .ok (.lcmp, 1) := by decide +kernel
theorem dX11_shareOf_3 : decode cX11_shareOf 3 = .ok (.ifCond .ne 17, 3) := by decide +kernel
theorem dX11_shareOf_6 : decode cX11_shareOf 6 = .ok (.lload_n 0, 1) := by decide +kernel
theorem dX11_shareOf_7 : decode cX11_shareOf 7 = .ok (.lconst 0, 1) := by decide +kernel
theorem dX11_shareOf_8 : decode cX11_shareOf 8 = .ok (.lcmp, 1) := by decide +kernel
theorem dX11_shareOf_9 : decode cX11_shareOf 9 = .ok (.ifCond .ne 7, 3) := by decide +kernel
theorem dX11_shareOf_12 : decode cX11_shareOf 12 = .ok (.iconst 0, 1) := by decide +kernel
theorem dX11_shareOf_13 : decode cX11_shareOf 13 = .ok (.goto 6, 3) := by decide +kernel
theorem dX11_shareOf_16 : decode cX11_shareOf 16 = .ok (.ldc_w 360, 3) := by decide +kernel
theorem dX11_shareOf_19 : decode cX11_shareOf 19 = .ok (.ireturn, 1) := by decide +kernel
theorem dX11_shareOf_20 : decode cX11_shareOf 20 = .ok (.lload_n 0, 1) := by decide +kernel
theorem dX11_shareOf_21 : decode cX11_shareOf 21 = .ok (.lconst 0, 1) := by decide +kernel
theorem dX11_shareOf_22 : decode cX11_shareOf 22 = .ok (.lcmp, 1) := by decide +kernel
theorem dX11_shareOf_23 : decode cX11_shareOf 23 = .ok (.ifCond .ge 7, 3) := by decide +kernel
theorem dX11_shareOf_26 : decode cX11_shareOf 26 = .ok (.lconst 0, 1) := by decide +kernel
theorem dX11_shareOf_27 : decode cX11_shareOf 27 = .ok (.goto 10, 3) := by decide +kernel
theorem dX11_shareOf_30 : decode cX11_shareOf 30 = .ok (.ldc2_w 465, 3) := by decide +kernel
theorem dX11_shareOf_33 : decode cX11_shareOf 33 = .ok (.lload_n 0, 1) := by decide +kernel
theorem dX11_shareOf_34 : decode cX11_shareOf 34 = .ok (.lmul, 1) := by decide +kernel
theorem dX11_shareOf_35 : decode cX11_shareOf 35 = .ok (.lload_n 2, 1) := by decide +kernel
theorem dX11_shareOf_36 : decode cX11_shareOf 36 = .ok (.ldiv, 1) := by decide +kernel
theorem dX11_shareOf_37 : decode cX11_shareOf 37 = .ok (.lstore 4, 2) := by decide +kernel
theorem dX11_shareOf_39 : decode cX11_shareOf 39 = .ok (.lload 4, 2) := by decide +kernel
theorem dX11_shareOf_41 : decode cX11_shareOf 41 = .ok (.ldc2_w 467, 3) := by decide +kernel
theorem dX11_shareOf_44 : decode cX11_shareOf 44 = .ok (.lcmp, 1) := by decide +kernel
theorem dX11_shareOf_45 : decode cX11_shareOf 45 = .ok (.ifCond .le 9, 3) := by decide +kernel
theorem dX11_shareOf_48 : decode cX11_shareOf 48 = .ok (.ldc_w 360, 3) := by decide +kernel
theorem dX11_shareOf_51 : decode cX11_shareOf 51 = .ok (.goto 6, 3) := by decide +kernel
theorem dX11_shareOf_54 : decode cX11_shareOf 54 = .ok (.lload 4, 2) := by decide +kernel
theorem dX11_shareOf_56 : decode cX11_shareOf 56 = .ok (.l2i, 1) := by decide +kernel
theorem dX11_shareOf_57 : decode cX11_shareOf 57 = .ok (.ireturn, 1) := by decide +kernel
theorem dX11_ownMargin_0 : decode cX11_ownMargin 0 = .ok (.aload_n 0, 1) := by decide +kernel
theorem dX11_ownMargin_1 : decode cX11_ownMargin 1 = .ok (.iload_n 1, 1) := by decide +kernel
theorem dX11_ownMargin_2 : decode cX11_ownMargin 2 = .ok (.iload_n 2, 1) := by decide +kernel
theorem dX11_ownMargin_3 : decode cX11_ownMargin 3 = .ok (.invokevirtual 454, 3) := by decide +kernel
theorem dX11_ownMargin_6 : decode cX11_ownMargin 6 = .ok (.aload_n 0, 1) := by decide +kernel
theorem dX11_ownMargin_7 : decode cX11_ownMargin 7 = .ok (.iload_n 3, 1) := by decide +kernel
theorem dX11_ownMargin_8 : decode cX11_ownMargin 8 = .ok (.lconst 0, 1) := by decide +kernel
theorem dX11_ownMargin_9 : decode cX11_ownMargin 9 = .ok (.invokevirtual 457, 3) := by decide +kernel
theorem dX11_ownMargin_12 : decode cX11_ownMargin 12 = .ok (.aload_n 0, 1) := by decide +kernel
theorem dX11_ownMargin_13 : decode cX11_ownMargin 13 = .ok (.iload_n 1, 1) := by decide +kernel
theorem dX11_ownMargin_14 : decode cX11_ownMargin 14 = .ok (.lconst 0, 1) := by decide +kernel
theorem dX11_ownMargin_15 : decode cX11_ownMargin 15 = .ok (.invokevirtual 461, 3) := by decide +kernel
theorem dX11_ownMargin_18 : decode cX11_ownMargin 18 = .ok (.invokestatic 469, 3) := by decide +kernel
theorem dX11_ownMargin_21 : decode cX11_ownMargin 21 = .ok (.ireturn, 1) := by decide +kernel
theorem dX11_isSilent_0 : decode cX11_isSilent 0 = .ok (.aload_n 0, 1) := by decide +kernel
theorem dX11_isSilent_1 : decode cX11_isSilent 1 = .ok (.getfield 7, 3) := by decide +kernel
theorem dX11_isSilent_4 : decode cX11_isSilent 4 = .ok (.bipush 24, 2) := by decide +kernel
theorem dX11_isSilent_6 : decode cX11_isSilent 6 = .ok (.iload_n 1, 1) := by decide +kernel
theorem dX11_isSilent_7 : decode cX11_isSilent 7 = .ok (.iadd, 1) := by decide +kernel
theorem dX11_isSilent_8 : decode cX11_isSilent 8 = .ok (.iaload, 1) := by decide +kernel
theorem dX11_isSilent_9 : decode cX11_isSilent 9 = .ok (.iconst 1, 1) := by decide +kernel
theorem dX11_isSilent_10 : decode cX11_isSilent 10 = .ok (.if_icmp .ne 7, 3) := by decide +kernel
theorem dX11_isSilent_13 : decode cX11_isSilent 13 = .ok (.iconst 1, 1) := by decide +kernel
theorem dX11_isSilent_14 : decode cX11_isSilent 14 = .ok (.goto 4, 3) := by decide +kernel
theorem dX11_isSilent_17 : decode cX11_isSilent 17 = .ok (.iconst 0, 1) := by decide +kernel
theorem dX11_isSilent_18 : decode cX11_isSilent 18 = .ok (.ireturn, 1) := by decide +kernel
theorem dX11_marginOf_0 : decode cX11_marginOf 0 = .ok (.aload_n 0, 1) := by decide +kernel
theorem dX11_marginOf_1 : decode cX11_marginOf 1 = .ok (.iload_n 1, 1) := by decide +kernel
theorem dX11_marginOf_2 : decode cX11_marginOf 2 = .ok (.invokevirtual 473, 3) := by decide +kernel
theorem dX11_marginOf_5 : decode cX11_marginOf 5 = .ok (.ifCond .ne 11, 3) := by decide +kernel
theorem dX11_marginOf_8 : decode cX11_marginOf 8 = .ok (.aload_n 0, 1) := by decide +kernel
theorem dX11_marginOf_9 : decode cX11_marginOf 9 = .ok (.iload_n 1, 1) := by decide +kernel
theorem dX11_marginOf_10 : decode cX11_marginOf 10 = .ok (.iload_n 2, 1) := by decide +kernel
theorem dX11_marginOf_11 : decode cX11_marginOf 11 = .ok (.iload_n 3, 1) := by decide +kernel
theorem dX11_marginOf_12 : decode cX11_marginOf 12 = .ok (.invokevirtual 476, 3) := by decide +kernel
theorem dX11_marginOf_15 : decode cX11_marginOf 15 = .ok (.ireturn, 1) := by decide +kernel
theorem dX11_marginOf_16 : decode cX11_marginOf 16 = .ok (.iconst 0, 1) := by decide +kernel
theorem dX11_marginOf_17 : decode cX11_marginOf 17 = .ok (.istore 4, 2) := by decide +kernel
theorem dX11_marginOf_19 : decode cX11_marginOf 19 = .ok (.iconst 0, 1) := by decide +kernel
theorem dX11_marginOf_20 : decode cX11_marginOf 20 = .ok (.istore 5, 2) := by decide +kernel
theorem dX11_marginOf_22 : decode cX11_marginOf 22 = .ok (.iload 5, 2) := by decide +kernel
theorem dX11_marginOf_24 : decode cX11_marginOf 24 = .ok (.aload_n 0, 1) := by decide +kernel
theorem dX11_marginOf_25 : decode cX11_marginOf 25 = .ok (.getfield 291, 3) := by decide +kernel
theorem dX11_marginOf_28 : decode cX11_marginOf 28 = .ok (.if_icmp .ge 48, 3) := by decide +kernel
theorem dX11_marginOf_31 : decode cX11_marginOf 31 = .ok (.aload_n 0, 1) := by decide +kernel
theorem dX11_marginOf_32 : decode cX11_marginOf 32 = .ok (.iload 5, 2) := by decide +kernel
theorem dX11_marginOf_34 : decode cX11_marginOf 34 = .ok (.invokevirtual 473, 3) := by decide +kernel
theorem dX11_marginOf_37 : decode cX11_marginOf 37 = .ok (.ifCond .eq 7, 3) := by decide +kernel
theorem dX11_marginOf_40 : decode cX11_marginOf 40 = .ok (.iconst 0, 1) := by decide +kernel
theorem dX11_marginOf_41 : decode cX11_marginOf 41 = .ok (.goto 11, 3) := by decide +kernel
theorem dX11_marginOf_44 : decode cX11_marginOf 44 = .ok (.aload_n 0, 1) := by decide +kernel
theorem dX11_marginOf_45 : decode cX11_marginOf 45 = .ok (.iload 5, 2) := by decide +kernel
theorem dX11_marginOf_47 : decode cX11_marginOf 47 = .ok (.iload_n 2, 1) := by decide +kernel
theorem dX11_marginOf_48 : decode cX11_marginOf 48 = .ok (.iload_n 3, 1) := by decide +kernel
theorem dX11_marginOf_49 : decode cX11_marginOf 49 = .ok (.invokevirtual 476, 3) := by decide +kernel
theorem dX11_marginOf_52 : decode cX11_marginOf 52 = .ok (.istore 6, 2) := by decide +kernel
theorem dX11_marginOf_54 : decode cX11_marginOf 54 = .ok (.iload 6, 2) := by decide +kernel
theorem dX11_marginOf_56 : decode cX11_marginOf 56 = .ok (.iload 4, 2) := by decide +kernel
theorem dX11_marginOf_58 : decode cX11_marginOf 58 = .ok (.if_icmp .le 8, 3) := by decide +kernel
theorem dX11_marginOf_61 : decode cX11_marginOf 61 = .ok (.iload 6, 2) := by decide +kernel
theorem dX11_marginOf_63 : decode cX11_marginOf 63 = .ok (.goto 5, 3) := by decide +kernel
theorem dX11_marginOf_66 : decode cX11_marginOf 66 = .ok (.iload 4, 2) := by decide +kernel
theorem dX11_marginOf_68 : decode cX11_marginOf 68 = .ok (.istore 4, 2) := by decide +kernel
theorem dX11_marginOf_70 : decode cX11_marginOf 70 = .ok (.iinc 5 1, 3) := by decide +kernel
theorem dX11_marginOf_73 : decode cX11_marginOf 73 = .ok (.goto (-51), 3) := by decide +kernel
theorem dX11_marginOf_76 : decode cX11_marginOf 76 = .ok (.iload 4, 2) := by decide +kernel
theorem dX11_marginOf_78 : decode cX11_marginOf 78 = .ok (.ireturn, 1) := by decide +kernel
theorem dX11_margin_0 : decode cX11_margin 0 = .ok (.aload_n 0, 1) := by decide +kernel
theorem dX11_margin_1 : decode cX11_margin 1 = .ok (.aload_n 0, 1) := by decide +kernel
theorem dX11_margin_2 : decode cX11_margin 2 = .ok (.iload_n 1, 1) := by decide +kernel
theorem dX11_margin_3 : decode cX11_margin 3 = .ok (.invokevirtual 311, 3) := by decide +kernel
theorem dX11_margin_6 : decode cX11_margin 6 = .ok (.ifCond .ne 7, 3) := by decide +kernel
theorem dX11_margin_9 : decode cX11_margin 9 = .ok (.iconst 1, 1) := by decide +kernel
theorem dX11_margin_10 : decode cX11_margin 10 = .ok (.goto 15, 3) := by decide +kernel
theorem dX11_margin_13 : decode cX11_margin 13 = .ok (.iload_n 2, 1) := by decide +kernel
theorem dX11_margin_14 : decode cX11_margin 14 = .ok (.invokestatic 451, 3) := by decide +kernel
theorem dX11_margin_17 : decode cX11_margin 17 = .ok (.ifCond .eq 7, 3) := by decide +kernel
theorem dX11_margin_20 : decode cX11_margin 20 = .ok (.iconst 0, 1) := by decide +kernel
theorem dX11_margin_21 : decode cX11_margin 21 = .ok (.goto 4, 3) := by decide +kernel
theorem dX11_margin_24 : decode cX11_margin 24 = .ok (.iconst 2, 1) := by decide +kernel
theorem dX11_margin_25 : decode cX11_margin 25 = .ok (.putfield 104, 3) := by decide +kernel
theorem dX11_margin_28 : decode cX11_margin 28 = .ok (.aload_n 0, 1) := by decide +kernel
theorem dX11_margin_29 : decode cX11_margin 29 = .ok (.getfield 104, 3) := by decide +kernel
theorem dX11_margin_32 : decode cX11_margin 32 = .ok (.ifCond .le 7, 3) := by decide +kernel
theorem dX11_margin_35 : decode cX11_margin 35 = .ok (.iconst 0, 1) := by decide +kernel
theorem dX11_margin_36 : decode cX11_margin 36 = .ok (.goto 10, 3) := by decide +kernel
theorem dX11_margin_39 : decode cX11_margin 39 = .ok (.aload_n 0, 1) := by decide +kernel
theorem dX11_margin_40 : decode cX11_margin 40 = .ok (.iload_n 1, 1) := by decide +kernel
theorem dX11_margin_41 : decode cX11_margin 41 = .ok (.iload_n 2, 1) := by decide +kernel
theorem dX11_margin_42 : decode cX11_margin 42 = .ok (.iload_n 3, 1) := by decide +kernel
theorem dX11_margin_43 : decode cX11_margin 43 = .ok (.invokevirtual 479, 3) := by decide +kernel
theorem dX11_margin_46 : decode cX11_margin 46 = .ok (.ireturn, 1) := by decide +kernel
theorem dX11_isZeroing_0 : decode cX11_isZeroing 0 = .ok (.aload_n 0, 1) := by decide +kernel
theorem dX11_isZeroing_1 : decode cX11_isZeroing 1 = .ok (.getfield 7, 3) := by decide +kernel
theorem dX11_isZeroing_4 : decode cX11_isZeroing 4 = .ok (.bipush 29, 2) := by decide +kernel
theorem dX11_isZeroing_6 : decode cX11_isZeroing 6 = .ok (.iaload, 1) := by decide +kernel
theorem dX11_isZeroing_7 : decode cX11_isZeroing 7 = .ok (.iconst 1, 1) := by decide +kernel
theorem dX11_isZeroing_8 : decode cX11_isZeroing 8 = .ok (.if_icmp .ne 7, 3) := by decide +kernel
theorem dX11_isZeroing_11 : decode cX11_isZeroing 11 = .ok (.iconst 1, 1) := by decide +kernel
theorem dX11_isZeroing_12 : decode cX11_isZeroing 12 = .ok (.goto 4, 3) := by decide +kernel
theorem dX11_isZeroing_15 : decode cX11_isZeroing 15 = .ok (.iconst 0, 1) := by decide +kernel
theorem dX11_isZeroing_16 : decode cX11_isZeroing 16 = .ok (.ireturn, 1) := by decide +kernel
theorem dX11_isSmall_0 : decode cX11_isSmall 0 = .ok (.aload_n 0, 1) := by decide +kernel
theorem dX11_isSmall_1 : decode cX11_isSmall 1 = .ok (.iload_n 1, 1) := by decide +kernel
theorem dX11_isSmall_2 : decode cX11_isSmall 2 = .ok (.iconst 1, 1) := by decide +kernel
theorem dX11_isSmall_3 : decode cX11_isSmall 3 = .ok (.invokevirtual 344, 3) := by decide +kernel
theorem dX11_isSmall_6 : decode cX11_isSmall 6 = .ok (.istore_n 3, 1) := by decide +kernel
theorem dX11_isSmall_7 : decode cX11_isSmall 7 = .ok (.iload_n 3, 1) := by decide +kernel
theorem dX11_isSmall_8 : decode cX11_isSmall 8 = .ok (.ifCond .le 17, 3) := by decide +kernel
theorem dX11_isSmall_11 : decode cX11_isSmall 11 = .ok (.bipush 100, 2) := by decide +kernel
theorem dX11_isSmall_13 : decode cX11_isSmall 13 = .ok (.iload_n 3, 1) := by decide +kernel
theorem dX11_isSmall_14 : decode cX11_isSmall 14 = .ok (.imul, 1) := by decide +kernel
theorem dX11_isSmall_15 : decode cX11_isSmall 15 = .ok (.iconst 3, 1) := by decide +kernel
theorem dX11_isSmall_16 : decode cX11_isSmall 16 = .ok (.iload_n 2, 1) := by decide +kernel
theorem dX11_isSmall_17 : decode cX11_isSmall 17 = .ok (.imul, 1) := by decide +kernel
theorem dX11_isSmall_18 : decode cX11_isSmall 18 = .ok (.if_icmp .ge 7, 3) := by decide +kernel
theorem dX11_isSmall_21 : decode cX11_isSmall 21 = .ok (.iconst 1, 1) := by decide +kernel
theorem dX11_isSmall_22 : decode cX11_isSmall 22 = .ok (.goto 4, 3) := by decide +kernel
theorem dX11_isSmall_25 : decode cX11_isSmall 25 = .ok (.iconst 0, 1) := by decide +kernel
theorem dX11_isSmall_26 : decode cX11_isSmall 26 = .ok (.ireturn, 1) := by decide +kernel
theorem dX11_isNegligible_0 : decode cX11_isNegligible 0 = .ok (.iconst 0, 1) := by decide +kernel
theorem dX11_isNegligible_1 : decode cX11_isNegligible 1 = .ok (.istore_n 2, 1) := by decide +kernel
theorem dX11_isNegligible_2 : decode cX11_isNegligible 2 = .ok (.iconst 0, 1) := by decide +kernel
theorem dX11_isNegligible_3 : decode cX11_isNegligible 3 = .ok (.istore_n 3, 1) := by decide +kernel
theorem dX11_isNegligible_4 : decode cX11_isNegligible 4 = .ok (.iload_n 3, 1) := by decide +kernel
theorem dX11_isNegligible_5 : decode cX11_isNegligible 5 = .ok (.aload_n 0, 1) := by decide +kernel
theorem dX11_isNegligible_6 : decode cX11_isNegligible 6 = .ok (.getfield 291, 3) := by decide +kernel
theorem dX11_isNegligible_9 : decode cX11_isNegligible 9 = .ok (.if_icmp .ge 18, 3) := by decide +kernel
theorem dX11_isNegligible_12 : decode cX11_isNegligible 12 = .ok (.iload_n 2, 1) := by decide +kernel
theorem dX11_isNegligible_13 : decode cX11_isNegligible 13 = .ok (.aload_n 0, 1) := by decide +kernel
theorem dX11_isNegligible_14 : decode cX11_isNegligible 14 = .ok (.iload_n 3, 1) := by decide +kernel
theorem dX11_isNegligible_15 : decode cX11_isNegligible 15 = .ok (.iconst 1, 1) := by decide +kernel
theorem dX11_isNegligible_16 : decode cX11_isNegligible 16 = .ok (.invokevirtual 344, 3) := by decide +kernel
theorem dX11_isNegligible_19 : decode cX11_isNegligible 19 = .ok (.iadd, 1) := by decide +kernel
theorem dX11_isNegligible_20 : decode cX11_isNegligible 20 = .ok (.istore_n 2, 1) := by decide +kernel
theorem dX11_isNegligible_21 : decode cX11_isNegligible 21 = .ok (.iinc 3 1, 3) := by decide +kernel
theorem dX11_isNegligible_24 : decode cX11_isNegligible 24 = .ok (.goto (-20), 3) := by decide +kernel
theorem dX11_isNegligible_27 : decode cX11_isNegligible 27 = .ok (.iconst 0, 1) := by decide +kernel
theorem dX11_isNegligible_28 : decode cX11_isNegligible 28 = .ok (.istore_n 3, 1) := by decide +kernel
theorem dX11_isNegligible_29 : decode cX11_isNegligible 29 = .ok (.iconst 0, 1) := by decide +kernel
theorem dX11_isNegligible_30 : decode cX11_isNegligible 30 = .ok (.istore 4, 2) := by decide +kernel
theorem dX11_isNegligible_32 : decode cX11_isNegligible 32 = .ok (.iload 4, 2) := by decide +kernel
theorem dX11_isNegligible_34 : decode cX11_isNegligible 34 = .ok (.aload_n 0, 1) := by decide +kernel
theorem dX11_isNegligible_35 : decode cX11_isNegligible 35 = .ok (.getfield 291, 3) := by decide +kernel
theorem dX11_isNegligible_38 : decode cX11_isNegligible 38 = .ok (.if_icmp .ge 33, 3) := by decide +kernel
theorem dX11_isNegligible_41 : decode cX11_isNegligible 41 = .ok (.iload_n 3, 1) := by decide +kernel
theorem dX11_isNegligible_42 : decode cX11_isNegligible 42 = .ok (.aload_n 0, 1) := by decide +kernel
theorem dX11_isNegligible_43 : decode cX11_isNegligible 43 = .ok (.iload 4, 2) := by decide +kernel
theorem dX11_isNegligible_45 : decode cX11_isNegligible 45 = .ok (.iload_n 2, 1) := by decide +kernel
theorem dX11_isNegligible_46 : decode cX11_isNegligible 46 = .ok (.invokevirtual 482, 3) := by decide +kernel
theorem dX11_isNegligible_49 : decode cX11_isNegligible 49 = .ok (.ifCond .eq 13, 3) := by decide +kernel
theorem dX11_isNegligible_52 : decode cX11_isNegligible 52 = .ok (.aload_n 0, 1) := by decide +kernel
theorem dX11_isNegligible_53 : decode cX11_isNegligible 53 = .ok (.iload 4, 2) := by decide +kernel
theorem dX11_isNegligible_55 : decode cX11_isNegligible 55 = .ok (.iconst 1, 1) := by decide +kernel
theorem dX11_isNegligible_56 : decode cX11_isNegligible 56 = .ok (.invokevirtual 344, 3) := by decide +kernel
theorem dX11_isNegligible_59 : decode cX11_isNegligible 59 = .ok (.goto 4, 3) := by decide +kernel
theorem dX11_isNegligible_62 : decode cX11_isNegligible 62 = .ok (.iconst 0, 1) := by decide +kernel
theorem dX11_isNegligible_63 : decode cX11_isNegligible 63 = .ok (.iadd, 1) := by decide +kernel
theorem dX11_isNegligible_64 : decode cX11_isNegligible 64 = .ok (.istore_n 3, 1) := by decide +kernel
theorem dX11_isNegligible_65 : decode cX11_isNegligible 65 = .ok (.iinc 4 1, 3) := by decide +kernel
theorem dX11_isNegligible_68 : decode cX11_isNegligible 68 = .ok (.goto (-36), 3) := by decide +kernel
theorem dX11_isNegligible_71 : decode cX11_isNegligible 71 = .ok (.aload_n 0, 1) := by decide +kernel
theorem dX11_isNegligible_72 : decode cX11_isNegligible 72 = .ok (.iload_n 1, 1) := by decide +kernel
theorem dX11_isNegligible_73 : decode cX11_isNegligible 73 = .ok (.iload_n 2, 1) := by decide +kernel
theorem dX11_isNegligible_74 : decode cX11_isNegligible 74 = .ok (.invokevirtual 482, 3) := by decide +kernel
theorem dX11_isNegligible_77 : decode cX11_isNegligible 77 = .ok (.ifCond .eq 18, 3) := by decide +kernel
theorem dX11_isNegligible_80 : decode cX11_isNegligible 80 = .ok (.bipush 100, 2) := by decide +kernel
theorem dX11_isNegligible_82 : decode cX11_isNegligible 82 = .ok (.iload_n 3, 1) := by decide +kernel
theorem dX11_isNegligible_83 : decode cX11_isNegligible 83 = .ok (.imul, 1) := by decide +kernel
theorem dX11_isNegligible_84 : decode cX11_isNegligible 84 = .ok (.bipush 7, 2) := by decide +kernel
theorem dX11_isNegligible_86 : decode cX11_isNegligible 86 = .ok (.iload_n 2, 1) := by decide +kernel
theorem dX11_isNegligible_87 : decode cX11_isNegligible 87 = .ok (.imul, 1) := by decide +kernel
theorem dX11_isNegligible_88 : decode cX11_isNegligible 88 = .ok (.if_icmp .gt 7, 3) := by decide +kernel
theorem dX11_isNegligible_91 : decode cX11_isNegligible 91 = .ok (.iconst 1, 1) := by decide +kernel
theorem dX11_isNegligible_92 : decode cX11_isNegligible 92 = .ok (.goto 4, 3) := by decide +kernel
theorem dX11_isNegligible_95 : decode cX11_isNegligible 95 = .ok (.iconst 0, 1) := by decide +kernel
theorem dX11_isNegligible_96 : decode cX11_isNegligible 96 = .ok (.ireturn, 1) := by decide +kernel
theorem dX11_negligible_0 : decode cX11_negligible 0 = .ok (.aload_n 0, 1) := by decide +kernel
theorem dX11_negligible_1 : decode cX11_negligible 1 = .ok (.aload_n 0, 1) := by decide +kernel
theorem dX11_negligible_2 : decode cX11_negligible 2 = .ok (.iload_n 1, 1) := by decide +kernel
theorem dX11_negligible_3 : decode cX11_negligible 3 = .ok (.invokevirtual 311, 3) := by decide +kernel
theorem dX11_negligible_6 : decode cX11_negligible 6 = .ok (.ifCond .eq 7, 3) := by decide +kernel
theorem dX11_negligible_9 : decode cX11_negligible 9 = .ok (.iconst 0, 1) := by decide +kernel
theorem dX11_negligible_10 : decode cX11_negligible 10 = .ok (.goto 4, 3) := by decide +kernel
theorem dX11_negligible_13 : decode cX11_negligible 13 = .ok (.iconst 1, 1) := by decide +kernel
theorem dX11_negligible_14 : decode cX11_negligible 14 = .ok (.putfield 104, 3) := by decide +kernel
theorem dX11_negligible_17 : decode cX11_negligible 17 = .ok (.aload_n 0, 1) := by decide +kernel
theorem dX11_negligible_18 : decode cX11_negligible 18 = .ok (.getfield 104, 3) := by decide +kernel
theorem dX11_negligible_21 : decode cX11_negligible 21 = .ok (.ifCond .ne 15, 3) := by decide +kernel
theorem dX11_negligible_24 : decode cX11_negligible 24 = .ok (.aload_n 0, 1) := by decide +kernel
theorem dX11_negligible_25 : decode cX11_negligible 25 = .ok (.iload_n 1, 1) := by decide +kernel
theorem dX11_negligible_26 : decode cX11_negligible 26 = .ok (.invokevirtual 485, 3) := by decide +kernel
theorem dX11_negligible_29 : decode cX11_negligible 29 = .ok (.ifCond .eq 7, 3) := by decide +kernel
theorem dX11_negligible_32 : decode cX11_negligible 32 = .ok (.iconst 1, 1) := by decide +kernel
theorem dX11_negligible_33 : decode cX11_negligible 33 = .ok (.goto 4, 3) := by decide +kernel
theorem dX11_negligible_36 : decode cX11_negligible 36 = .ok (.iconst 0, 1) := by decide +kernel
theorem dX11_negligible_37 : decode cX11_negligible 37 = .ok (.ireturn, 1) := by decide +kernel
theorem dX11_toldMargin_0 : decode cX11_toldMargin 0 = .ok (.aload_n 0, 1) := by decide +kernel
theorem dX11_toldMargin_1 : decode cX11_toldMargin 1 = .ok (.iload_n 1, 1) := by decide +kernel
theorem dX11_toldMargin_2 : decode cX11_toldMargin 2 = .ok (.aload_n 0, 1) := by decide +kernel
theorem dX11_toldMargin_3 : decode cX11_toldMargin 3 = .ok (.getfield 7, 3) := by decide +kernel
theorem dX11_toldMargin_6 : decode cX11_toldMargin 6 = .ok (.bipush 28, 2) := by decide +kernel
theorem dX11_toldMargin_8 : decode cX11_toldMargin 8 = .ok (.iaload, 1) := by decide +kernel
theorem dX11_toldMargin_9 : decode cX11_toldMargin 9 = .ok (.aload_n 0, 1) := by decide +kernel
theorem dX11_toldMargin_10 : decode cX11_toldMargin 10 = .ok (.invokevirtual 488, 3) := by decide +kernel
theorem dX11_toldMargin_13 : decode cX11_toldMargin 13 = .ok (.invokevirtual 479, 3) := by decide +kernel
theorem dX11_toldMargin_16 : decode cX11_toldMargin 16 = .ok (.ireturn, 1) := by decide +kernel
theorem dX11_rateOf_0 : decode cX11_rateOf 0 = .ok (.aload_n 0, 1) := by decide +kernel
theorem dX11_rateOf_1 : decode cX11_rateOf 1 = .ok (.iload_n 1, 1) := by decide +kernel
theorem dX11_rateOf_2 : decode cX11_rateOf 2 = .ok (.invokevirtual 485, 3) := by decide +kernel
theorem dX11_rateOf_5 : decode cX11_rateOf 5 = .ok (.ifCond .ne 12, 3) := by decide +kernel
theorem dX11_rateOf_8 : decode cX11_rateOf 8 = .ok (.aload_n 0, 1) := by decide +kernel
theorem dX11_rateOf_9 : decode cX11_rateOf 9 = .ok (.iload_n 1, 1) := by decide +kernel
theorem dX11_rateOf_10 : decode cX11_rateOf 10 = .ok (.iconst 1, 1) := by decide +kernel
theorem dX11_rateOf_11 : decode cX11_rateOf 11 = .ok (.invokevirtual 344, 3) := by decide +kernel
theorem dX11_rateOf_14 : decode cX11_rateOf 14 = .ok (.ifCond .ne 5, 3) := by decide +kernel
theorem dX11_rateOf_17 : decode cX11_rateOf 17 = .ok (.iconst 0, 1) := by decide +kernel
theorem dX11_rateOf_18 : decode cX11_rateOf 18 = .ok (.ireturn, 1) := by decide +kernel
theorem dX11_rateOf_19 : decode cX11_rateOf 19 = .ok (.aload_n 0, 1) := by decide +kernel
theorem dX11_rateOf_20 : decode cX11_rateOf 20 = .ok (.iload_n 1, 1) := by decide +kernel
theorem dX11_rateOf_21 : decode cX11_rateOf 21 = .ok (.invokevirtual 491, 3) := by decide +kernel
theorem dX11_rateOf_24 : decode cX11_rateOf 24 = .ok (.istore_n 2, 1) := by decide +kernel
theorem dX11_rateOf_25 : decode cX11_rateOf 25 = .ok (.iload_n 2, 1) := by decide +kernel
theorem dX11_rateOf_26 : decode cX11_rateOf 26 = .ok (.sipush 200, 3) := by decide +kernel
theorem dX11_rateOf_29 : decode cX11_rateOf 29 = .ok (.if_icmp .ge 7, 3) := by decide +kernel
theorem dX11_rateOf_32 : decode cX11_rateOf 32 = .ok (.iconst 0, 1) := by decide +kernel
theorem dX11_rateOf_33 : decode cX11_rateOf 33 = .ok (.goto 4, 3) := by decide +kernel
theorem dX11_rateOf_36 : decode cX11_rateOf 36 = .ok (.iload_n 2, 1) := by decide +kernel
theorem dX11_rateOf_37 : decode cX11_rateOf 37 = .ok (.ireturn, 1) := by decide +kernel
theorem dX11_isTargeted_0 : decode cX11_isTargeted 0 = .ok (.aload_n 0, 1) := by decide +kernel
theorem dX11_isTargeted_1 : decode cX11_isTargeted 1 = .ok (.iload_n 1, 1) := by decide +kernel
theorem dX11_isTargeted_2 : decode cX11_isTargeted 2 = .ok (.invokevirtual 425, 3) := by decide +kernel
theorem dX11_isTargeted_5 : decode cX11_isTargeted 5 = .ok (.ifCond .eq 35, 3) := by decide +kernel
theorem dX11_isTargeted_8 : decode cX11_isTargeted 8 = .ok (.aload_n 0, 1) := by decide +kernel
theorem dX11_isTargeted_9 : decode cX11_isTargeted 9 = .ok (.iload_n 1, 1) := by decide +kernel
theorem dX11_isTargeted_10 : decode cX11_isTargeted 10 = .ok (.iconst 1, 1) := by decide +kernel
theorem dX11_isTargeted_11 : decode cX11_isTargeted 11 = .ok (.invokevirtual 305, 3) := by decide +kernel
theorem dX11_isTargeted_14 : decode cX11_isTargeted 14 = .ok (.iload_n 2, 1) := by decide +kernel
theorem dX11_isTargeted_15 : decode cX11_isTargeted 15 = .ok (.if_icmp .ne 25, 3) := by decide +kernel
theorem dX11_isTargeted_18 : decode cX11_isTargeted 18 = .ok (.aload_n 0, 1) := by decide +kernel
theorem dX11_isTargeted_19 : decode cX11_isTargeted 19 = .ok (.getfield 25, 3) := by decide +kernel
theorem dX11_isTargeted_22 : decode cX11_isTargeted 22 = .ok (.iconst 3, 1) := by decide +kernel
theorem dX11_isTargeted_23 : decode cX11_isTargeted 23 = .ok (.aload_n 0, 1) := by decide +kernel
theorem dX11_isTargeted_24 : decode cX11_isTargeted 24 = .ok (.iload_n 1, 1) := by decide +kernel
theorem dX11_isTargeted_25 : decode cX11_isTargeted 25 = .ok (.iconst 2, 1) := by decide +kernel
theorem dX11_isTargeted_26 : decode cX11_isTargeted 26 = .ok (.invokevirtual 305, 3) := by decide +kernel
theorem dX11_isTargeted_29 : decode cX11_isTargeted 29 = .ok (.imul, 1) := by decide +kernel
theorem dX11_isTargeted_30 : decode cX11_isTargeted 30 = .ok (.iconst 2, 1) := by decide +kernel
theorem dX11_isTargeted_31 : decode cX11_isTargeted 31 = .ok (.iadd, 1) := by decide +kernel
theorem dX11_isTargeted_32 : decode cX11_isTargeted 32 = .ok (.iaload, 1) := by decide +kernel
theorem dX11_isTargeted_33 : decode cX11_isTargeted 33 = .ok (.ifCond .le 7, 3) := by decide +kernel
theorem dX11_isTargeted_36 : decode cX11_isTargeted 36 = .ok (.iconst 1, 1) := by decide +kernel
theorem dX11_isTargeted_37 : decode cX11_isTargeted 37 = .ok (.goto 4, 3) := by decide +kernel
theorem dX11_isTargeted_40 : decode cX11_isTargeted 40 = .ok (.iconst 0, 1) := by decide +kernel
theorem dX11_isTargeted_41 : decode cX11_isTargeted 41 = .ok (.ireturn, 1) := by decide +kernel
theorem dX11_injuryOf_0 : decode cX11_injuryOf 0 = .ok (.aload_n 0, 1) := by decide +kernel
theorem dX11_injuryOf_1 : decode cX11_injuryOf 1 = .ok (.invokevirtual 367, 3) := by decide +kernel
theorem dX11_injuryOf_4 : decode cX11_injuryOf 4 = .ok (.lconst 0, 1) := by decide +kernel
theorem dX11_injuryOf_5 : decode cX11_injuryOf 5 = .ok (.lstore_n 2, 1) := by decide +kernel
theorem dX11_injuryOf_6 : decode cX11_injuryOf 6 = .ok (.lconst 0, 1) := by decide +kernel
theorem dX11_injuryOf_7 : decode cX11_injuryOf 7 = .ok (.lstore 4, 2) := by decide +kernel
theorem dX11_injuryOf_9 : decode cX11_injuryOf 9 = .ok (.iconst 0, 1) := by decide +kernel
theorem dX11_injuryOf_10 : decode cX11_injuryOf 10 = .ok (.istore 6, 2) := by decide +kernel
theorem dX11_injuryOf_12 : decode cX11_injuryOf 12 = .ok (.iload 6, 2) := by decide +kernel
theorem dX11_injuryOf_14 : decode cX11_injuryOf 14 = .ok (.aload_n 0, 1) := by decide +kernel
theorem dX11_injuryOf_15 : decode cX11_injuryOf 15 = .ok (.getfield 7, 3) := by decide +kernel
theorem dX11_injuryOf_18 : decode cX11_injuryOf 18 = .ok (.bipush 34, 2) := by decide +kernel
theorem dX11_injuryOf_20 : decode cX11_injuryOf 20 = .ok (.iaload, 1) := by decide +kernel
theorem dX11_injuryOf_21 : decode cX11_injuryOf 21 = .ok (.if_icmp .ge 89, 3) := by decide +kernel
theorem dX11_injuryOf_24 : decode cX11_injuryOf 24 = .ok (.aload_n 0, 1) := by decide +kernel
theorem dX11_injuryOf_25 : decode cX11_injuryOf 25 = .ok (.iload 6, 2) := by decide +kernel
theorem dX11_injuryOf_27 : decode cX11_injuryOf 27 = .ok (.iload_n 1, 1) := by decide +kernel
theorem dX11_injuryOf_28 : decode cX11_injuryOf 28 = .ok (.invokevirtual 494, 3) := by decide +kernel
theorem dX11_injuryOf_31 : decode cX11_injuryOf 31 = .ok (.ifCond .ne 6, 3) := by decide +kernel
theorem dX11_injuryOf_34 : decode cX11_injuryOf 34 = .ok (.goto 70, 3) := by decide +kernel
theorem dX11_injuryOf_37 : decode cX11_injuryOf 37 = .ok (.lload_n 2, 1) := by decide +kernel
theorem dX11_injuryOf_38 : decode cX11_injuryOf 38 = .ok (.ldc2_w 409, 3) := by decide +kernel
theorem dX11_injuryOf_41 : decode cX11_injuryOf 41 = .ok (.aload_n 0, 1) := by decide +kernel
theorem dX11_injuryOf_42 : decode cX11_injuryOf 42 = .ok (.getfield 25, 3) := by decide +kernel
theorem dX11_injuryOf_45 : decode cX11_injuryOf 45 = .ok (.iconst 3, 1) := by decide +kernel
theorem dX11_injuryOf_46 : decode cX11_injuryOf 46 = .ok (.aload_n 0, 1) := by decide +kernel
theorem dX11_injuryOf_47 : decode cX11_injuryOf 47 = .ok (.iload 6, 2) := by decide +kernel
theorem dX11_injuryOf_49 : decode cX11_injuryOf 49 = .ok (.iconst 2, 1) := by decide +kernel
theorem dX11_injuryOf_50 : decode cX11_injuryOf 50 = .ok (.invokevirtual 305, 3) := by decide +kernel
theorem dX11_injuryOf_53 : decode cX11_injuryOf 53 = .ok (.imul, 1) := by decide +kernel
theorem dX11_injuryOf_54 : decode cX11_injuryOf 54 = .ok (.iconst 2, 1) := by decide +kernel
theorem dX11_injuryOf_55 : decode cX11_injuryOf 55 = .ok (.iadd, 1) := by decide +kernel
theorem dX11_injuryOf_56 : decode cX11_injuryOf 56 = .ok (.iaload, 1) := by decide +kernel
theorem dX11_injuryOf_57 : decode cX11_injuryOf 57 = .ok (.aload_n 0, 1) := by decide +kernel
theorem dX11_injuryOf_58 : decode cX11_injuryOf 58 = .ok (.getfield 69, 3) := by decide +kernel
theorem dX11_injuryOf_61 : decode cX11_injuryOf 61 = .ok (.iload 6, 2) := by decide +kernel
theorem dX11_injuryOf_63 : decode cX11_injuryOf 63 = .ok (.iaload, 1) := by decide +kernel
theorem dX11_injuryOf_64 : decode cX11_injuryOf 64 = .ok (.isub, 1) := by decide +kernel
theorem dX11_injuryOf_65 : decode cX11_injuryOf 65 = .ok (.i2l, 1) := by decide +kernel
theorem dX11_injuryOf_66 : decode cX11_injuryOf 66 = .ok (.lmul, 1) := by decide +kernel
theorem dX11_injuryOf_67 : decode cX11_injuryOf 67 = .ok (.aload_n 0, 1) := by decide +kernel
theorem dX11_injuryOf_68 : decode cX11_injuryOf 68 = .ok (.iload 6, 2) := by decide +kernel
theorem dX11_injuryOf_70 : decode cX11_injuryOf 70 = .ok (.iconst 5, 1) := by decide +kernel
theorem dX11_injuryOf_71 : decode cX11_injuryOf 71 = .ok (.invokevirtual 305, 3) := by decide +kernel
theorem dX11_injuryOf_74 : decode cX11_injuryOf 74 = .ok (.i2l, 1) := by decide +kernel
theorem dX11_injuryOf_75 : decode cX11_injuryOf 75 = .ok (.lmul, 1) := by decide +kernel
theorem dX11_injuryOf_76 : decode cX11_injuryOf 76 = .ok (.ladd, 1) := by decide +kernel
theorem dX11_injuryOf_77 : decode cX11_injuryOf 77 = .ok (.lstore_n 2, 1) := by decide +kernel
theorem dX11_injuryOf_78 : decode cX11_injuryOf 78 = .ok (.lload 4, 2) := by decide +kernel
theorem dX11_injuryOf_80 : decode cX11_injuryOf 80 = .ok (.ldc2_w 409, 3) := by decide +kernel
theorem dX11_injuryOf_83 : decode cX11_injuryOf 83 = .ok (.aload_n 0, 1) := by decide +kernel
theorem dX11_injuryOf_84 : decode cX11_injuryOf 84 = .ok (.getfield 69, 3) := by decide +kernel
theorem dX11_injuryOf_87 : decode cX11_injuryOf 87 = .ok (.iload 6, 2) := by decide +kernel
theorem dX11_injuryOf_89 : decode cX11_injuryOf 89 = .ok (.iaload, 1) := by decide +kernel
theorem dX11_injuryOf_90 : decode cX11_injuryOf 90 = .ok (.i2l, 1) := by decide +kernel
theorem dX11_injuryOf_91 : decode cX11_injuryOf 91 = .ok (.lmul, 1) := by decide +kernel
theorem dX11_injuryOf_92 : decode cX11_injuryOf 92 = .ok (.aload_n 0, 1) := by decide +kernel
theorem dX11_injuryOf_93 : decode cX11_injuryOf 93 = .ok (.iload 6, 2) := by decide +kernel
theorem dX11_injuryOf_95 : decode cX11_injuryOf 95 = .ok (.iconst 5, 1) := by decide +kernel
theorem dX11_injuryOf_96 : decode cX11_injuryOf 96 = .ok (.invokevirtual 305, 3) := by decide +kernel
theorem dX11_injuryOf_99 : decode cX11_injuryOf 99 = .ok (.i2l, 1) := by decide +kernel
theorem dX11_injuryOf_100 : decode cX11_injuryOf 100 = .ok (.lmul, 1) := by decide +kernel
theorem dX11_injuryOf_101 : decode cX11_injuryOf 101 = .ok (.ladd, 1) := by decide +kernel
theorem dX11_injuryOf_102 : decode cX11_injuryOf 102 = .ok (.lstore 4, 2) := by decide +kernel
theorem dX11_injuryOf_104 : decode cX11_injuryOf 104 = .ok (.iinc 6 1, 3) := by decide +kernel
theorem dX11_injuryOf_107 : decode cX11_injuryOf 107 = .ok (.goto (-95), 3) := by decide +kernel
theorem dX11_injuryOf_110 : decode cX11_injuryOf 110 = .ok (.lload_n 2, 1) := by decide +kernel
theorem dX11_injuryOf_111 : decode cX11_injuryOf 111 = .ok (.lload 4, 2) := by decide +kernel
theorem dX11_injuryOf_113 : decode cX11_injuryOf 113 = .ok (.invokestatic 469, 3) := by decide +kernel
theorem dX11_injuryOf_116 : decode cX11_injuryOf 116 = .ok (.ireturn, 1) := by decide +kernel
theorem dX11_hasTarget_0 : decode cX11_hasTarget 0 = .ok (.iconst 0, 1) := by decide +kernel
theorem dX11_hasTarget_1 : decode cX11_hasTarget 1 = .ok (.istore_n 2, 1) := by decide +kernel
theorem dX11_hasTarget_2 : decode cX11_hasTarget 2 = .ok (.iload_n 2, 1) := by decide +kernel
theorem dX11_hasTarget_3 : decode cX11_hasTarget 3 = .ok (.aload_n 0, 1) := by decide +kernel
theorem dX11_hasTarget_4 : decode cX11_hasTarget 4 = .ok (.getfield 7, 3) := by decide +kernel
theorem dX11_hasTarget_7 : decode cX11_hasTarget 7 = .ok (.bipush 34, 2) := by decide +kernel
theorem dX11_hasTarget_9 : decode cX11_hasTarget 9 = .ok (.iaload, 1) := by decide +kernel
theorem dX11_hasTarget_10 : decode cX11_hasTarget 10 = .ok (.if_icmp .ge 20, 3) := by decide +kernel
theorem dX11_hasTarget_13 : decode cX11_hasTarget 13 = .ok (.aload_n 0, 1) := by decide +kernel
theorem dX11_hasTarget_14 : decode cX11_hasTarget 14 = .ok (.iload_n 2, 1) := by decide +kernel
theorem dX11_hasTarget_15 : decode cX11_hasTarget 15 = .ok (.iload_n 1, 1) := by decide +kernel
theorem dX11_hasTarget_16 : decode cX11_hasTarget 16 = .ok (.invokevirtual 494, 3) := by decide +kernel
theorem dX11_hasTarget_19 : decode cX11_hasTarget 19 = .ok (.ifCond .eq 5, 3) := by decide +kernel
theorem dX11_hasTarget_22 : decode cX11_hasTarget 22 = .ok (.iconst 1, 1) := by decide +kernel
theorem dX11_hasTarget_23 : decode cX11_hasTarget 23 = .ok (.ireturn, 1) := by decide +kernel
theorem dX11_hasTarget_24 : decode cX11_hasTarget 24 = .ok (.iinc 2 1, 3) := by decide +kernel
theorem dX11_hasTarget_27 : decode cX11_hasTarget 27 = .ok (.goto (-25), 3) := by decide +kernel
theorem dX11_hasTarget_30 : decode cX11_hasTarget 30 = .ok (.iconst 0, 1) := by decide +kernel
theorem dX11_hasTarget_31 : decode cX11_hasTarget 31 = .ok (.ireturn, 1) := by decide +kernel
theorem dX11_dutyOf_0 : decode cX11_dutyOf 0 = .ok (.aload_n 0, 1) := by decide +kernel
theorem dX11_dutyOf_1 : decode cX11_dutyOf 1 = .ok (.iload_n 1, 1) := by decide +kernel
theorem dX11_dutyOf_2 : decode cX11_dutyOf 2 = .ok (.invokevirtual 497, 3) := by decide +kernel
theorem dX11_dutyOf_5 : decode cX11_dutyOf 5 = .ok (.istore_n 2, 1) := by decide +kernel
theorem dX11_dutyOf_6 : decode cX11_dutyOf 6 = .ok (.aload_n 0, 1) := by decide +kernel
theorem dX11_dutyOf_7 : decode cX11_dutyOf 7 = .ok (.getfield 7, 3) := by decide +kernel
theorem dX11_dutyOf_10 : decode cX11_dutyOf 10 = .ok (.bipush 30, 2) := by decide +kernel
theorem dX11_dutyOf_12 : decode cX11_dutyOf 12 = .ok (.iaload, 1) := by decide +kernel
theorem dX11_dutyOf_13 : decode cX11_dutyOf 13 = .ok (.ifCond .eq 11, 3) := by decide +kernel
theorem dX11_dutyOf_16 : decode cX11_dutyOf 16 = .ok (.aload_n 0, 1) := by decide +kernel
theorem dX11_dutyOf_17 : decode cX11_dutyOf 17 = .ok (.iload_n 1, 1) := by decide +kernel
theorem dX11_dutyOf_18 : decode cX11_dutyOf 18 = .ok (.invokevirtual 500, 3) := by decide +kernel
theorem dX11_dutyOf_21 : decode cX11_dutyOf 21 = .ok (.ifCond .ne 5, 3) := by decide +kernel
theorem dX11_dutyOf_24 : decode cX11_dutyOf 24 = .ok (.iload_n 2, 1) := by decide +kernel
theorem dX11_dutyOf_25 : decode cX11_dutyOf 25 = .ok (.ireturn, 1) := by decide +kernel
theorem dX11_dutyOf_26 : decode cX11_dutyOf 26 = .ok (.aload_n 0, 1) := by decide +kernel
theorem dX11_dutyOf_27 : decode cX11_dutyOf 27 = .ok (.iload_n 1, 1) := by decide +kernel
theorem dX11_dutyOf_28 : decode cX11_dutyOf 28 = .ok (.invokevirtual 503, 3) := by decide +kernel
theorem dX11_dutyOf_31 : decode cX11_dutyOf 31 = .ok (.istore_n 3, 1) := by decide +kernel
theorem dX11_dutyOf_32 : decode cX11_dutyOf 32 = .ok (.iload_n 3, 1) := by decide +kernel
theorem dX11_dutyOf_33 : decode cX11_dutyOf 33 = .ok (.iload_n 2, 1) := by decide +kernel
theorem dX11_dutyOf_34 : decode cX11_dutyOf 34 = .ok (.if_icmp .ge 7, 3) := by decide +kernel
theorem dX11_dutyOf_37 : decode cX11_dutyOf 37 = .ok (.iload_n 3, 1) := by decide +kernel
theorem dX11_dutyOf_38 : decode cX11_dutyOf 38 = .ok (.goto 4, 3) := by decide +kernel
theorem dX11_dutyOf_41 : decode cX11_dutyOf 41 = .ok (.iload_n 2, 1) := by decide +kernel
theorem dX11_dutyOf_42 : decode cX11_dutyOf 42 = .ok (.ireturn, 1) := by decide +kernel
theorem dX11_duty_0 : decode cX11_duty 0 = .ok (.aload_n 0, 1) := by decide +kernel
theorem dX11_duty_1 : decode cX11_duty 1 = .ok (.aload_n 0, 1) := by decide +kernel
theorem dX11_duty_2 : decode cX11_duty 2 = .ok (.iload_n 1, 1) := by decide +kernel
theorem dX11_duty_3 : decode cX11_duty 3 = .ok (.invokevirtual 311, 3) := by decide +kernel
theorem dX11_duty_6 : decode cX11_duty 6 = .ok (.ifCond .ne 7, 3) := by decide +kernel
theorem dX11_duty_9 : decode cX11_duty 9 = .ok (.iconst 1, 1) := by decide +kernel
theorem dX11_duty_10 : decode cX11_duty 10 = .ok (.goto 20, 3) := by decide +kernel
theorem dX11_duty_13 : decode cX11_duty 13 = .ok (.iload_n 2, 1) := by decide +kernel
theorem dX11_duty_14 : decode cX11_duty 14 = .ok (.i2l, 1) := by decide +kernel
theorem dX11_duty_15 : decode cX11_duty 15 = .ok (.lconst 0, 1) := by decide +kernel
theorem dX11_duty_16 : decode cX11_duty 16 = .ok (.ldc2_w 370, 3) := by decide +kernel
theorem dX11_duty_19 : decode cX11_duty 19 = .ok (.invokestatic 301, 3) := by decide +kernel
theorem dX11_duty_22 : decode cX11_duty 22 = .ok (.ifCond .eq 7, 3) := by decide +kernel
theorem dX11_duty_25 : decode cX11_duty 25 = .ok (.iconst 0, 1) := by decide +kernel
theorem dX11_duty_26 : decode cX11_duty 26 = .ok (.goto 4, 3) := by decide +kernel
theorem dX11_duty_29 : decode cX11_duty 29 = .ok (.iconst 2, 1) := by decide +kernel
theorem dX11_duty_30 : decode cX11_duty 30 = .ok (.putfield 104, 3) := by decide +kernel
theorem dX11_duty_33 : decode cX11_duty 33 = .ok (.aload_n 0, 1) := by decide +kernel
theorem dX11_duty_34 : decode cX11_duty 34 = .ok (.getfield 104, 3) := by decide +kernel
theorem dX11_duty_37 : decode cX11_duty 37 = .ok (.ifCond .le 5, 3) := by decide +kernel
theorem dX11_duty_40 : decode cX11_duty 40 = .ok (.iconst 0, 1) := by decide +kernel
theorem dX11_duty_41 : decode cX11_duty 41 = .ok (.ireturn, 1) := by decide +kernel
theorem dX11_duty_42 : decode cX11_duty 42 = .ok (.iload_n 2, 1) := by decide +kernel
theorem dX11_duty_43 : decode cX11_duty 43 = .ok (.ifCond .ne 11, 3) := by decide +kernel
theorem dX11_duty_46 : decode cX11_duty 46 = .ok (.aload_n 0, 1) := by decide +kernel
theorem dX11_duty_47 : decode cX11_duty 47 = .ok (.iload_n 1, 1) := by decide +kernel
theorem dX11_duty_48 : decode cX11_duty 48 = .ok (.invokevirtual 491, 3) := by decide +kernel
theorem dX11_duty_51 : decode cX11_duty 51 = .ok (.goto 34, 3) := by decide +kernel
theorem dX11_duty_54 : decode cX11_duty 54 = .ok (.iload_n 2, 1) := by decide +kernel
theorem dX11_duty_55 : decode cX11_duty 55 = .ok (.iconst 1, 1) := by decide +kernel
theorem dX11_duty_56 : decode cX11_duty 56 = .ok (.if_icmp .ne 11, 3) := by decide +kernel
theorem dX11_duty_59 : decode cX11_duty 59 = .ok (.aload_n 0, 1) := by decide +kernel
theorem dX11_duty_60 : decode cX11_duty 60 = .ok (.iload_n 1, 1) := by decide +kernel
theorem dX11_duty_61 : decode cX11_duty 61 = .ok (.invokevirtual 497, 3) := by decide +kernel
theorem dX11_duty_64 : decode cX11_duty 64 = .ok (.goto 21, 3) := by decide +kernel
theorem dX11_duty_67 : decode cX11_duty 67 = .ok (.iload_n 2, 1) := by decide +kernel
theorem dX11_duty_68 : decode cX11_duty 68 = .ok (.iconst 2, 1) := by decide +kernel
theorem dX11_duty_69 : decode cX11_duty 69 = .ok (.if_icmp .ne 11, 3) := by decide +kernel
theorem dX11_duty_72 : decode cX11_duty 72 = .ok (.aload_n 0, 1) := by decide +kernel
theorem dX11_duty_73 : decode cX11_duty 73 = .ok (.iload_n 1, 1) := by decide +kernel
theorem dX11_duty_74 : decode cX11_duty 74 = .ok (.invokevirtual 503, 3) := by decide +kernel
theorem dX11_duty_77 : decode cX11_duty 77 = .ok (.goto 8, 3) := by decide +kernel
theorem dX11_duty_80 : decode cX11_duty 80 = .ok (.aload_n 0, 1) := by decide +kernel
theorem dX11_duty_81 : decode cX11_duty 81 = .ok (.iload_n 1, 1) := by decide +kernel
theorem dX11_duty_82 : decode cX11_duty 82 = .ok (.invokevirtual 506, 3) := by decide +kernel
theorem dX11_duty_85 : decode cX11_duty 85 = .ok (.ireturn, 1) := by decide +kernel
theorem dX11_others_0 : decode cX11_others 0 = .ok (.aload_n 0, 1) := by decide +kernel
theorem dX11_others_1 : decode cX11_others 1 = .ok (.iconst 0, 1) := by decide +kernel
theorem dX11_others_2 : decode cX11_others 2 = .ok (.putfield 104, 3) := by decide +kernel
theorem dX11_others_5 : decode cX11_others 5 = .ok (.lconst 0, 1) := by decide +kernel
theorem dX11_others_6 : decode cX11_others 6 = .ok (.lstore_n 1, 1) := by decide +kernel
theorem dX11_others_7 : decode cX11_others 7 = .ok (.lconst 0, 1) := by decide +kernel
theorem dX11_others_8 : decode cX11_others 8 = .ok (.lstore_n 3, 1) := by decide +kernel
theorem dX11_others_9 : decode cX11_others 9 = .ok (.iconst 0, 1) := by decide +kernel
theorem dX11_others_10 : decode cX11_others 10 = .ok (.istore 5, 2) := by decide +kernel
theorem dX11_others_12 : decode cX11_others 12 = .ok (.iload 5, 2) := by decide +kernel
theorem dX11_others_14 : decode cX11_others 14 = .ok (.aload_n 0, 1) := by decide +kernel
theorem dX11_others_15 : decode cX11_others 15 = .ok (.getfield 291, 3) := by decide +kernel
theorem dX11_others_18 : decode cX11_others 18 = .ok (.if_icmp .ge 72, 3) := by decide +kernel
theorem dX11_others_21 : decode cX11_others 21 = .ok (.aload_n 0, 1) := by decide +kernel
theorem dX11_others_22 : decode cX11_others 22 = .ok (.iload 5, 2) := by decide +kernel
theorem dX11_others_24 : decode cX11_others 24 = .ok (.invokevirtual 473, 3) := by decide +kernel
theorem dX11_others_27 : decode cX11_others 27 = .ok (.ifCond .eq 7, 3) := by decide +kernel
theorem dX11_others_30 : decode cX11_others 30 = .ok (.iconst 0, 1) := by decide +kernel
theorem dX11_others_31 : decode cX11_others 31 = .ok (.goto 9, 3) := by decide +kernel
theorem dX11_others_34 : decode cX11_others 34 = .ok (.aload_n 0, 1) := by decide +kernel
theorem dX11_others_35 : decode cX11_others 35 = .ok (.iload 5, 2) := by decide +kernel
theorem dX11_others_37 : decode cX11_others 37 = .ok (.invokevirtual 497, 3) := by decide +kernel
theorem dX11_others_40 : decode cX11_others 40 = .ok (.istore 6, 2) := by decide +kernel
theorem dX11_others_42 : decode cX11_others 42 = .ok (.lload_n 1, 1) := by decide +kernel
theorem dX11_others_43 : decode cX11_others 43 = .ok (.iload 6, 2) := by decide +kernel
theorem dX11_others_45 : decode cX11_others 45 = .ok (.ifCond .ne 7, 3) := by decide +kernel
theorem dX11_others_48 : decode cX11_others 48 = .ok (.lconst 0, 1) := by decide +kernel
theorem dX11_others_49 : decode cX11_others 49 = .ok (.goto 14, 3) := by decide +kernel
theorem dX11_others_52 : decode cX11_others 52 = .ok (.iload 6, 2) := by decide +kernel
theorem dX11_others_54 : decode cX11_others 54 = .ok (.i2l, 1) := by decide +kernel
theorem dX11_others_55 : decode cX11_others 55 = .ok (.aload_n 0, 1) := by decide +kernel
theorem dX11_others_56 : decode cX11_others 56 = .ok (.iload 5, 2) := by decide +kernel
theorem dX11_others_58 : decode cX11_others 58 = .ok (.lconst 0, 1) := by decide +kernel
theorem dX11_others_59 : decode cX11_others 59 = .ok (.invokevirtual 461, 3) := by decide +kernel
theorem dX11_others_62 : decode cX11_others 62 = .ok (.lmul, 1) := by decide +kernel
theorem dX11_others_63 : decode cX11_others 63 = .ok (.ladd, 1) := by decide +kernel
theorem dX11_others_64 : decode cX11_others 64 = .ok (.lstore_n 1, 1) := by decide +kernel
theorem dX11_others_65 : decode cX11_others 65 = .ok (.lload_n 3, 1) := by decide +kernel
theorem dX11_others_66 : decode cX11_others 66 = .ok (.iload 6, 2) := by decide +kernel
theorem dX11_others_68 : decode cX11_others 68 = .ok (.ifCond .ne 7, 3) := by decide +kernel
theorem dX11_others_71 : decode cX11_others 71 = .ok (.lconst 0, 1) := by decide +kernel
theorem dX11_others_72 : decode cX11_others 72 = .ok (.goto 10, 3) := by decide +kernel
theorem dX11_others_75 : decode cX11_others 75 = .ok (.aload_n 0, 1) := by decide +kernel
theorem dX11_others_76 : decode cX11_others 76 = .ok (.iload 5, 2) := by decide +kernel
theorem dX11_others_78 : decode cX11_others 78 = .ok (.lconst 0, 1) := by decide +kernel
theorem dX11_others_79 : decode cX11_others 79 = .ok (.invokevirtual 461, 3) := by decide +kernel
theorem dX11_others_82 : decode cX11_others 82 = .ok (.ladd, 1) := by decide +kernel
theorem dX11_others_83 : decode cX11_others 83 = .ok (.lstore_n 3, 1) := by decide +kernel
theorem dX11_others_84 : decode cX11_others 84 = .ok (.iinc 5 1, 3) := by decide +kernel
theorem dX11_others_87 : decode cX11_others 87 = .ok (.goto (-75), 3) := by decide +kernel
theorem dX11_others_90 : decode cX11_others 90 = .ok (.lload_n 3, 1) := by decide +kernel
theorem dX11_others_91 : decode cX11_others 91 = .ok (.lconst 0, 1) := by decide +kernel
theorem dX11_others_92 : decode cX11_others 92 = .ok (.lcmp, 1) := by decide +kernel
theorem dX11_others_93 : decode cX11_others 93 = .ok (.ifCond .ne 7, 3) := by decide +kernel
theorem dX11_others_96 : decode cX11_others 96 = .ok (.iconst 0, 1) := by decide +kernel
theorem dX11_others_97 : decode cX11_others 97 = .ok (.goto 7, 3) := by decide +kernel
theorem dX11_others_100 : decode cX11_others 100 = .ok (.lload_n 1, 1) := by decide +kernel
theorem dX11_others_101 : decode cX11_others 101 = .ok (.lload_n 3, 1) := by decide +kernel
theorem dX11_others_102 : decode cX11_others 102 = .ok (.ldiv, 1) := by decide +kernel
theorem dX11_others_103 : decode cX11_others 103 = .ok (.l2i, 1) := by decide +kernel
theorem dX11_others_104 : decode cX11_others 104 = .ok (.ireturn, 1) := by decide +kernel
theorem dX11_method_0 : decode cX11_method 0 = .ok (.aload_n 0, 1) := by decide +kernel
theorem dX11_method_1 : decode cX11_method 1 = .ok (.aload_n 0, 1) := by decide +kernel
theorem dX11_method_2 : decode cX11_method 2 = .ok (.iload_n 1, 1) := by decide +kernel
theorem dX11_method_3 : decode cX11_method 3 = .ok (.invokevirtual 311, 3) := by decide +kernel
theorem dX11_method_6 : decode cX11_method 6 = .ok (.ifCond .ne 7, 3) := by decide +kernel
theorem dX11_method_9 : decode cX11_method 9 = .ok (.iconst 1, 1) := by decide +kernel
theorem dX11_method_10 : decode cX11_method 10 = .ok (.goto 18, 3) := by decide +kernel
theorem dX11_method_13 : decode cX11_method 13 = .ok (.iload_n 2, 1) := by decide +kernel
theorem dX11_method_14 : decode cX11_method 14 = .ok (.i2l, 1) := by decide +kernel
theorem dX11_method_15 : decode cX11_method 15 = .ok (.lconst 0, 1) := by decide +kernel
theorem dX11_method_16 : decode cX11_method 16 = .ok (.lconst 1, 1) := by decide +kernel
theorem dX11_method_17 : decode cX11_method 17 = .ok (.invokestatic 301, 3) := by decide +kernel
theorem dX11_method_20 : decode cX11_method 20 = .ok (.ifCond .eq 7, 3) := by decide +kernel
theorem dX11_method_23 : decode cX11_method 23 = .ok (.iconst 0, 1) := by decide +kernel
theorem dX11_method_24 : decode cX11_method 24 = .ok (.goto 4, 3) := by decide +kernel
theorem dX11_method_27 : decode cX11_method 27 = .ok (.iconst 2, 1) := by decide +kernel
theorem dX11_method_28 : decode cX11_method 28 = .ok (.putfield 104, 3) := by decide +kernel
theorem dX11_method_31 : decode cX11_method 31 = .ok (.aload_n 0, 1) := by decide +kernel
theorem dX11_method_32 : decode cX11_method 32 = .ok (.getfield 104, 3) := by decide +kernel
theorem dX11_method_35 : decode cX11_method 35 = .ok (.ifCond .le 5, 3) := by decide +kernel
theorem dX11_method_38 : decode cX11_method 38 = .ok (.iconst 0, 1) := by decide +kernel
theorem dX11_method_39 : decode cX11_method 39 = .ok (.ireturn, 1) := by decide +kernel
theorem dX11_method_40 : decode cX11_method 40 = .ok (.iconst 0, 1) := by decide +kernel
theorem dX11_method_41 : decode cX11_method 41 = .ok (.istore_n 3, 1) := by decide +kernel
theorem dX11_method_42 : decode cX11_method 42 = .ok (.aload_n 0, 1) := by decide +kernel
theorem dX11_method_43 : decode cX11_method 43 = .ok (.iload_n 1, 1) := by decide +kernel
theorem dX11_method_44 : decode cX11_method 44 = .ok (.iconst 0, 1) := by decide +kernel
theorem dX11_method_45 : decode cX11_method 45 = .ok (.aload_n 0, 1) := by decide +kernel
theorem dX11_method_46 : decode cX11_method 46 = .ok (.invokevirtual 488, 3) := by decide +kernel
theorem dX11_method_49 : decode cX11_method 49 = .ok (.invokevirtual 479, 3) := by decide +kernel
theorem dX11_method_52 : decode cX11_method 52 = .ok (.istore 4, 2) := by decide +kernel
theorem dX11_method_54 : decode cX11_method 54 = .ok (.iconst 1, 1) := by decide +kernel
theorem dX11_method_55 : decode cX11_method 55 = .ok (.istore 5, 2) := by decide +kernel
theorem dX11_method_57 : decode cX11_method 57 = .ok (.iload 5, 2) := by decide +kernel
theorem dX11_method_59 : decode cX11_method 59 = .ok (.iconst 3, 1) := by decide +kernel
theorem dX11_method_60 : decode cX11_method 60 = .ok (.if_icmp .ge 50, 3) := by decide +kernel
theorem dX11_method_63 : decode cX11_method 63 = .ok (.aload_n 0, 1) := by decide +kernel
theorem dX11_method_64 : decode cX11_method 64 = .ok (.iload_n 1, 1) := by decide +kernel
theorem dX11_method_65 : decode cX11_method 65 = .ok (.iload 5, 2) := by decide +kernel
theorem dX11_method_67 : decode cX11_method 67 = .ok (.aload_n 0, 1) := by decide +kernel
theorem dX11_method_68 : decode cX11_method 68 = .ok (.invokevirtual 488, 3) := by decide +kernel
theorem dX11_method_71 : decode cX11_method 71 = .ok (.invokevirtual 479, 3) := by decide +kernel
theorem dX11_method_74 : decode cX11_method 74 = .ok (.istore 6, 2) := by decide +kernel
theorem dX11_method_76 : decode cX11_method 76 = .ok (.iload_n 2, 1) := by decide +kernel
theorem dX11_method_77 : decode cX11_method 77 = .ok (.ifCond .ne 13, 3) := by decide +kernel
theorem dX11_method_80 : decode cX11_method 80 = .ok (.iload 6, 2) := by decide +kernel
theorem dX11_method_82 : decode cX11_method 82 = .ok (.iload 4, 2) := by decide +kernel
theorem dX11_method_84 : decode cX11_method 84 = .ok (.if_icmp .le 20, 3) := by decide +kernel
theorem dX11_method_87 : decode cX11_method 87 = .ok (.goto 10, 3) := by decide +kernel
theorem dX11_method_90 : decode cX11_method 90 = .ok (.iload 6, 2) := by decide +kernel
theorem dX11_method_92 : decode cX11_method 92 = .ok (.iload 4, 2) := by decide +kernel
theorem dX11_method_94 : decode cX11_method 94 = .ok (.if_icmp .ge 10, 3) := by decide +kernel
theorem dX11_method_97 : decode cX11_method 97 = .ok (.iload 5, 2) := by decide +kernel
theorem dX11_method_99 : decode cX11_method 99 = .ok (.istore_n 3, 1) := by decide +kernel
theorem dX11_method_100 : decode cX11_method 100 = .ok (.iload 6, 2) := by decide +kernel
theorem dX11_method_102 : decode cX11_method 102 = .ok (.istore 4, 2) := by decide +kernel
theorem dX11_method_104 : decode cX11_method 104 = .ok (.iinc 5 1, 3) := by decide +kernel
theorem dX11_method_107 : decode cX11_method 107 = .ok (.goto (-50), 3) := by decide +kernel
theorem dX11_method_110 : decode cX11_method 110 = .ok (.iload_n 3, 1) := by decide +kernel
theorem dX11_method_111 : decode cX11_method 111 = .ok (.ireturn, 1) := by decide +kernel
theorem dX11_undertaking_0 : decode cX11_undertaking 0 = .ok (.aload_n 0, 1) := by decide +kernel
theorem dX11_undertaking_1 : decode cX11_undertaking 1 = .ok (.aload_n 0, 1) := by decide +kernel
theorem dX11_undertaking_2 : decode cX11_undertaking 2 = .ok (.iload_n 1, 1) := by decide +kernel
theorem dX11_undertaking_3 : decode cX11_undertaking 3 = .ok (.invokevirtual 311, 3) := by decide +kernel
theorem dX11_undertaking_6 : decode cX11_undertaking 6 = .ok (.ifCond .ne 7, 3) := by decide +kernel
theorem dX11_undertaking_9 : decode cX11_undertaking 9 = .ok (.iconst 1, 1) := by decide +kernel
theorem dX11_undertaking_10 : decode cX11_undertaking 10 = .ok (.goto 17, 3) := by decide +kernel
theorem dX11_undertaking_13 : decode cX11_undertaking 13 = .ok (.aload_n 0, 1) := by decide +kernel
theorem dX11_undertaking_14 : decode cX11_undertaking 14 = .ok (.iload_n 1, 1) := by decide +kernel
theorem dX11_undertaking_15 : decode cX11_undertaking 15 = .ok (.iconst 1, 1) := by decide +kernel
theorem dX11_undertaking_16 : decode cX11_undertaking 16 = .ok (.invokevirtual 344, 3) := by decide +kernel
theorem dX11_undertaking_19 : decode cX11_undertaking 19 = .ok (.ifCond .le 7, 3) := by decide +kernel
theorem dX11_undertaking_22 : decode cX11_undertaking 22 = .ok (.iconst 0, 1) := by decide +kernel
theorem dX11_undertaking_23 : decode cX11_undertaking 23 = .ok (.goto 4, 3) := by decide +kernel
theorem dX11_undertaking_26 : decode cX11_undertaking 26 = .ok (.iconst 2, 1) := by decide +kernel
theorem dX11_undertaking_27 : decode cX11_undertaking 27 = .ok (.putfield 104, 3) := by decide +kernel
theorem dX11_undertaking_30 : decode cX11_undertaking 30 = .ok (.aload_n 0, 1) := by decide +kernel
theorem dX11_undertaking_31 : decode cX11_undertaking 31 = .ok (.getfield 104, 3) := by decide +kernel
theorem dX11_undertaking_34 : decode cX11_undertaking 34 = .ok (.ifCond .le 5, 3) := by decide +kernel
theorem dX11_undertaking_37 : decode cX11_undertaking 37 = .ok (.iconst 0, 1) := by decide +kernel
theorem dX11_undertaking_38 : decode cX11_undertaking 38 = .ok (.ireturn, 1) := by decide +kernel
theorem dX11_undertaking_39 : decode cX11_undertaking 39 = .ok (.aload_n 0, 1) := by decide +kernel
theorem dX11_undertaking_40 : decode cX11_undertaking 40 = .ok (.iload_n 1, 1) := by decide +kernel
theorem dX11_undertaking_41 : decode cX11_undertaking 41 = .ok (.aload_n 0, 1) := by decide +kernel
theorem dX11_undertaking_42 : decode cX11_undertaking 42 = .ok (.getfield 7, 3) := by decide +kernel
theorem dX11_undertaking_45 : decode cX11_undertaking 45 = .ok (.bipush 28, 2) := by decide +kernel
theorem dX11_undertaking_47 : decode cX11_undertaking 47 = .ok (.iaload, 1) := by decide +kernel
theorem dX11_undertaking_48 : decode cX11_undertaking 48 = .ok (.invokevirtual 454, 3) := by decide +kernel
theorem dX11_undertaking_51 : decode cX11_undertaking 51 = .ok (.iconst 0, 1) := by decide +kernel
theorem dX11_undertaking_52 : decode cX11_undertaking 52 = .ok (.istore_n 2, 1) := by decide +kernel
theorem dX11_undertaking_53 : decode cX11_undertaking 53 = .ok (.iload_n 2, 1) := by decide +kernel
theorem dX11_undertaking_54 : decode cX11_undertaking 54 = .ok (.sipush 10000, 3) := by decide +kernel
theorem dX11_undertaking_57 : decode cX11_undertaking 57 = .ok (.if_icmp .ge 37, 3) := by decide +kernel
theorem dX11_undertaking_60 : decode cX11_undertaking 60 = .ok (.aload_n 0, 1) := by decide +kernel
theorem dX11_undertaking_61 : decode cX11_undertaking 61 = .ok (.aload_n 0, 1) := by decide +kernel
theorem dX11_undertaking_62 : decode cX11_undertaking 62 = .ok (.invokevirtual 488, 3) := by decide +kernel
theorem dX11_undertaking_65 : decode cX11_undertaking 65 = .ok (.iload_n 2, 1) := by decide +kernel
theorem dX11_undertaking_66 : decode cX11_undertaking 66 = .ok (.i2l, 1) := by decide +kernel
theorem dX11_undertaking_67 : decode cX11_undertaking 67 = .ok (.invokevirtual 457, 3) := by decide +kernel
theorem dX11_undertaking_70 : decode cX11_undertaking 70 = .ok (.aload_n 0, 1) := by decide +kernel
theorem dX11_undertaking_71 : decode cX11_undertaking 71 = .ok (.iload_n 1, 1) := by decide +kernel
theorem dX11_undertaking_72 : decode cX11_undertaking 72 = .ok (.iload_n 2, 1) := by decide +kernel
theorem dX11_undertaking_73 : decode cX11_undertaking 73 = .ok (.i2l, 1) := by decide +kernel
theorem dX11_undertaking_74 : decode cX11_undertaking 74 = .ok (.invokevirtual 461, 3) := by decide +kernel
theorem dX11_undertaking_77 : decode cX11_undertaking 77 = .ok (.invokestatic 469, 3) := by decide +kernel
theorem dX11_undertaking_80 : decode cX11_undertaking 80 = .ok (.sipush 200, 3) := by decide +kernel
theorem dX11_undertaking_83 : decode cX11_undertaking 83 = .ok (.if_icmp .ge 5, 3) := by decide +kernel
theorem dX11_undertaking_86 : decode cX11_undertaking 86 = .ok (.iload_n 2, 1) := by decide +kernel
theorem dX11_undertaking_87 : decode cX11_undertaking 87 = .ok (.ireturn, 1) := by decide +kernel
theorem dX11_undertaking_88 : decode cX11_undertaking 88 = .ok (.iinc 2 1, 3) := by decide +kernel
theorem dX11_undertaking_91 : decode cX11_undertaking 91 = .ok (.goto (-38), 3) := by decide +kernel
theorem dX11_undertaking_94 : decode cX11_undertaking 94 = .ok (.iconst (-1), 1) := by decide +kernel
theorem dX11_undertaking_95 : decode cX11_undertaking 95 = .ok (.ireturn, 1) := by decide +kernel
theorem dX11_picked_0 : decode cX11_picked 0 = .ok (.aload_n 0, 1) := by decide +kernel
theorem dX11_picked_1 : decode cX11_picked 1 = .ok (.aload_n 0, 1) := by decide +kernel
theorem dX11_picked_2 : decode cX11_picked 2 = .ok (.iload_n 1, 1) := by decide +kernel
theorem dX11_picked_3 : decode cX11_picked 3 = .ok (.invokevirtual 311, 3) := by decide +kernel
theorem dX11_picked_6 : decode cX11_picked 6 = .ok (.ifCond .eq 7, 3) := by decide +kernel
theorem dX11_picked_9 : decode cX11_picked 9 = .ok (.iconst 0, 1) := by decide +kernel
theorem dX11_picked_10 : decode cX11_picked 10 = .ok (.goto 4, 3) := by decide +kernel
theorem dX11_picked_13 : decode cX11_picked 13 = .ok (.iconst 1, 1) := by decide +kernel
theorem dX11_picked_14 : decode cX11_picked 14 = .ok (.putfield 104, 3) := by decide +kernel
theorem dX11_picked_17 : decode cX11_picked 17 = .ok (.aload_n 0, 1) := by decide +kernel
theorem dX11_picked_18 : decode cX11_picked 18 = .ok (.getfield 104, 3) := by decide +kernel
theorem dX11_picked_21 : decode cX11_picked 21 = .ok (.ifCond .le 5, 3) := by decide +kernel
theorem dX11_picked_24 : decode cX11_picked 24 = .ok (.iconst 0, 1) := by decide +kernel
theorem dX11_picked_25 : decode cX11_picked 25 = .ok (.ireturn, 1) := by decide +kernel
theorem dX11_picked_26 : decode cX11_picked 26 = .ok (.aload_n 0, 1) := by decide +kernel
theorem dX11_picked_27 : decode cX11_picked 27 = .ok (.invokevirtual 367, 3) := by decide +kernel
theorem dX11_picked_30 : decode cX11_picked 30 = .ok (.iconst 0, 1) := by decide +kernel
theorem dX11_picked_31 : decode cX11_picked 31 = .ok (.istore_n 2, 1) := by decide +kernel
theorem dX11_picked_32 : decode cX11_picked 32 = .ok (.iconst 0, 1) := by decide +kernel
theorem dX11_picked_33 : decode cX11_picked 33 = .ok (.istore_n 3, 1) := by decide +kernel
theorem dX11_picked_34 : decode cX11_picked 34 = .ok (.iload_n 3, 1) := by decide +kernel
theorem dX11_picked_35 : decode cX11_picked 35 = .ok (.bipush 12, 2) := by decide +kernel
theorem dX11_picked_37 : decode cX11_picked 37 = .ok (.if_icmp .ge 28, 3) := by decide +kernel
theorem dX11_picked_40 : decode cX11_picked 40 = .ok (.iload_n 2, 1) := by decide +kernel
theorem dX11_picked_41 : decode cX11_picked 41 = .ok (.aload_n 0, 1) := by decide +kernel
theorem dX11_picked_42 : decode cX11_picked 42 = .ok (.iload_n 1, 1) := by decide +kernel
theorem dX11_picked_43 : decode cX11_picked 43 = .ok (.iload_n 3, 1) := by decide +kernel
theorem dX11_picked_44 : decode cX11_picked 44 = .ok (.invokevirtual 509, 3) := by decide +kernel
theorem dX11_picked_47 : decode cX11_picked 47 = .ok (.ifCond .eq 9, 3) := by decide +kernel
theorem dX11_picked_50 : decode cX11_picked 50 = .ok (.iconst 1, 1) := by decide +kernel
theorem dX11_picked_51 : decode cX11_picked 51 = .ok (.iload_n 3, 1) := by decide +kernel
theorem dX11_picked_52 : decode cX11_picked 52 = .ok (.ishl, 1) := by decide +kernel
theorem dX11_picked_53 : decode cX11_picked 53 = .ok (.goto 4, 3) := by decide +kernel
theorem dX11_picked_56 : decode cX11_picked 56 = .ok (.iconst 0, 1) := by decide +kernel
theorem dX11_picked_57 : decode cX11_picked 57 = .ok (.ior, 1) := by decide +kernel
theorem dX11_picked_58 : decode cX11_picked 58 = .ok (.istore_n 2, 1) := by decide +kernel
theorem dX11_picked_59 : decode cX11_picked 59 = .ok (.iinc 3 1, 3) := by decide +kernel
theorem dX11_picked_62 : decode cX11_picked 62 = .ok (.goto (-28), 3) := by decide +kernel
theorem dX11_picked_65 : decode cX11_picked 65 = .ok (.iload_n 2, 1) := by decide +kernel
theorem dX11_picked_66 : decode cX11_picked 66 = .ok (.ireturn, 1) := by decide +kernel
theorem dX11_isPicked_0 : decode cX11_isPicked 0 = .ok (.lconst 0, 1) := by decide +kernel
theorem dX11_isPicked_1 : decode cX11_isPicked 1 = .ok (.lstore_n 3, 1) := by decide +kernel
theorem dX11_isPicked_2 : decode cX11_isPicked 2 = .ok (.lconst 0, 1) := by decide +kernel
theorem dX11_isPicked_3 : decode cX11_isPicked 3 = .ok (.lstore 5, 2) := by decide +kernel
theorem dX11_isPicked_5 : decode cX11_isPicked 5 = .ok (.lconst 0, 1) := by decide +kernel
theorem dX11_isPicked_6 : decode cX11_isPicked 6 = .ok (.lstore 7, 2) := by decide +kernel
theorem dX11_isPicked_8 : decode cX11_isPicked 8 = .ok (.lconst 0, 1) := by decide +kernel
theorem dX11_isPicked_9 : decode cX11_isPicked 9 = .ok (.lstore 9, 2) := by decide +kernel
theorem dX11_isPicked_11 : decode cX11_isPicked 11 = .ok (.iconst 0, 1) := by decide +kernel
theorem dX11_isPicked_12 : decode cX11_isPicked 12 = .ok (.istore 11, 2) := by decide +kernel
theorem dX11_isPicked_14 : decode cX11_isPicked 14 = .ok (.iload 11, 2) := by decide +kernel
theorem dX11_isPicked_16 : decode cX11_isPicked 16 = .ok (.aload_n 0, 1) := by decide +kernel
theorem dX11_isPicked_17 : decode cX11_isPicked 17 = .ok (.getfield 7, 3) := by decide +kernel
theorem dX11_isPicked_20 : decode cX11_isPicked 20 = .ok (.bipush 34, 2) := by decide +kernel
theorem dX11_isPicked_22 : decode cX11_isPicked 22 = .ok (.iaload, 1) := by decide +kernel
theorem dX11_isPicked_23 : decode cX11_isPicked 23 = .ok (.if_icmp .ge 143, 3) := by decide +kernel
theorem dX11_isPicked_26 : decode cX11_isPicked 26 = .ok (.aload_n 0, 1) := by decide +kernel
theorem dX11_isPicked_27 : decode cX11_isPicked 27 = .ok (.iload 11, 2) := by decide +kernel
theorem dX11_isPicked_29 : decode cX11_isPicked 29 = .ok (.invokevirtual 425, 3) := by decide +kernel
theorem dX11_isPicked_32 : decode cX11_isPicked 32 = .ok (.ifCond .eq 128, 3) := by decide +kernel
theorem dX11_isPicked_35 : decode cX11_isPicked 35 = .ok (.aload_n 0, 1) := by decide +kernel
theorem dX11_isPicked_36 : decode cX11_isPicked 36 = .ok (.iload 11, 2) := by decide +kernel
theorem dX11_isPicked_38 : decode cX11_isPicked 38 = .ok (.iconst 1, 1) := by decide +kernel
theorem dX11_isPicked_39 : decode cX11_isPicked 39 = .ok (.invokevirtual 305, 3) := by decide +kernel
theorem dX11_isPicked_42 : decode cX11_isPicked 42 = .ok (.iload_n 1, 1) := by decide +kernel
theorem dX11_isPicked_43 : decode cX11_isPicked 43 = .ok (.if_icmp .eq 6, 3) := by decide +kernel
theorem dX11_isPicked_46 : decode cX11_isPicked 46 = .ok (.goto 114, 3) := by decide +kernel
theorem dX11_isPicked_49 : decode cX11_isPicked 49 = .ok (.aload_n 0, 1) := by decide +kernel
theorem dX11_isPicked_50 : decode cX11_isPicked 50 = .ok (.iload 11, 2) := by decide +kernel
theorem dX11_isPicked_52 : decode cX11_isPicked 52 = .ok (.iconst 4, 1) := by decide +kernel
theorem dX11_isPicked_53 : decode cX11_isPicked 53 = .ok (.invokevirtual 305, 3) := by decide +kernel
theorem dX11_isPicked_56 : decode cX11_isPicked 56 = .ok (.iload_n 2, 1) := by decide +kernel
theorem dX11_isPicked_57 : decode cX11_isPicked 57 = .ok (.if_icmp .ne 7, 3) := by decide +kernel
theorem dX11_isPicked_60 : decode cX11_isPicked 60 = .ok (.iconst 1, 1) := by decide +kernel
theorem dX11_isPicked_61 : decode cX11_isPicked 61 = .ok (.goto 4, 3) := by decide +kernel
theorem dX11_isPicked_64 : decode cX11_isPicked 64 = .ok (.iconst 0, 1) := by decide +kernel
theorem dX11_isPicked_65 : decode cX11_isPicked 65 = .ok (.istore 12, 2) := by decide +kernel
theorem dX11_isPicked_67 : decode cX11_isPicked 67 = .ok (.aload_n 0, 1) := by decide +kernel
theorem dX11_isPicked_68 : decode cX11_isPicked 68 = .ok (.getfield 69, 3) := by decide +kernel
theorem dX11_isPicked_71 : decode cX11_isPicked 71 = .ok (.iload 11, 2) := by decide +kernel
theorem dX11_isPicked_73 : decode cX11_isPicked 73 = .ok (.iaload, 1) := by decide +kernel
theorem dX11_isPicked_74 : decode cX11_isPicked 74 = .ok (.i2l, 1) := by decide +kernel
theorem dX11_isPicked_75 : decode cX11_isPicked 75 = .ok (.aload_n 0, 1) := by decide +kernel
theorem dX11_isPicked_76 : decode cX11_isPicked 76 = .ok (.iload 11, 2) := by decide +kernel
theorem dX11_isPicked_78 : decode cX11_isPicked 78 = .ok (.iconst 5, 1) := by decide +kernel
theorem dX11_isPicked_79 : decode cX11_isPicked 79 = .ok (.invokevirtual 305, 3) := by decide +kernel
theorem dX11_isPicked_82 : decode cX11_isPicked 82 = .ok (.i2l, 1) := by decide +kernel
theorem dX11_isPicked_83 : decode cX11_isPicked 83 = .ok (.lmul, 1) := by decide +kernel
theorem dX11_isPicked_84 : decode cX11_isPicked 84 = .ok (.lstore 13, 2) := by decide +kernel
theorem dX11_isPicked_86 : decode cX11_isPicked 86 = .ok (.lload_n 3, 1) := by decide +kernel
theorem dX11_isPicked_87 : decode cX11_isPicked 87 = .ok (.iload 12, 2) := by decide +kernel
theorem dX11_isPicked_89 : decode cX11_isPicked 89 = .ok (.ifCond .eq 8, 3) := by decide +kernel
theorem dX11_isPicked_92 : decode cX11_isPicked 92 = .ok (.lload 13, 2) := by decide +kernel
theorem dX11_isPicked_94 : decode cX11_isPicked 94 = .ok (.goto 4, 3) := by decide +kernel
theorem dX11_isPicked_97 : decode cX11_isPicked 97 = .ok (.lconst 0, 1) := by decide +kernel
theorem dX11_isPicked_98 : decode cX11_isPicked 98 = .ok (.ladd, 1) := by decide +kernel
theorem dX11_isPicked_99 : decode cX11_isPicked 99 = .ok (.lstore_n 3, 1) := by decide +kernel
theorem dX11_isPicked_100 : decode cX11_isPicked 100 = .ok (.lload 5, 2) := by decide +kernel
theorem dX11_isPicked_102 : decode cX11_isPicked 102 = .ok (.iload 12, 2) := by decide +kernel
theorem dX11_isPicked_104 : decode cX11_isPicked 104 = .ok (.ifCond .eq 14, 3) := by decide +kernel
theorem dX11_isPicked_107 : decode cX11_isPicked 107 = .ok (.aload_n 0, 1) := by decide +kernel
theorem dX11_isPicked_108 : decode cX11_isPicked 108 = .ok (.iload 11, 2) := by decide +kernel
theorem dX11_isPicked_110 : decode cX11_isPicked 110 = .ok (.iconst 5, 1) := by decide +kernel
theorem dX11_isPicked_111 : decode cX11_isPicked 111 = .ok (.invokevirtual 305, 3) := by decide +kernel
theorem dX11_isPicked_114 : decode cX11_isPicked 114 = .ok (.i2l, 1) := by decide +kernel
theorem dX11_isPicked_115 : decode cX11_isPicked 115 = .ok (.goto 4, 3) := by decide +kernel
theorem dX11_isPicked_118 : decode cX11_isPicked 118 = .ok (.lconst 0, 1) := by decide +kernel
theorem dX11_isPicked_119 : decode cX11_isPicked 119 = .ok (.ladd, 1) := by decide +kernel
theorem dX11_isPicked_120 : decode cX11_isPicked 120 = .ok (.lstore 5, 2) := by decide +kernel
theorem dX11_isPicked_122 : decode cX11_isPicked 122 = .ok (.lload 7, 2) := by decide +kernel
theorem dX11_isPicked_124 : decode cX11_isPicked 124 = .ok (.iload 12, 2) := by decide +kernel
theorem dX11_isPicked_126 : decode cX11_isPicked 126 = .ok (.ifCond .eq 7, 3) := by decide +kernel
theorem dX11_isPicked_129 : decode cX11_isPicked 129 = .ok (.lconst 0, 1) := by decide +kernel
theorem dX11_isPicked_130 : decode cX11_isPicked 130 = .ok (.goto 5, 3) := by decide +kernel
theorem dX11_isPicked_133 : decode cX11_isPicked 133 = .ok (.lload 13, 2) := by decide +kernel
theorem dX11_isPicked_135 : decode cX11_isPicked 135 = .ok (.ladd, 1) := by decide +kernel
theorem dX11_isPicked_136 : decode cX11_isPicked 136 = .ok (.lstore 7, 2) := by decide +kernel
theorem dX11_isPicked_138 : decode cX11_isPicked 138 = .ok (.lload 9, 2) := by decide +kernel
theorem dX11_isPicked_140 : decode cX11_isPicked 140 = .ok (.iload 12, 2) := by decide +kernel
theorem dX11_isPicked_142 : decode cX11_isPicked 142 = .ok (.ifCond .eq 7, 3) := by decide +kernel
theorem dX11_isPicked_145 : decode cX11_isPicked 145 = .ok (.lconst 0, 1) := by decide +kernel
theorem dX11_isPicked_146 : decode cX11_isPicked 146 = .ok (.goto 11, 3) := by decide +kernel
theorem dX11_isPicked_149 : decode cX11_isPicked 149 = .ok (.aload_n 0, 1) := by decide +kernel
theorem dX11_isPicked_150 : decode cX11_isPicked 150 = .ok (.iload 11, 2) := by decide +kernel
theorem dX11_isPicked_152 : decode cX11_isPicked 152 = .ok (.iconst 5, 1) := by decide +kernel
theorem dX11_isPicked_153 : decode cX11_isPicked 153 = .ok (.invokevirtual 305, 3) := by decide +kernel
theorem dX11_isPicked_156 : decode cX11_isPicked 156 = .ok (.i2l, 1) := by decide +kernel
theorem dX11_isPicked_157 : decode cX11_isPicked 157 = .ok (.ladd, 1) := by decide +kernel
theorem dX11_isPicked_158 : decode cX11_isPicked 158 = .ok (.lstore 9, 2) := by decide +kernel
theorem dX11_isPicked_160 : decode cX11_isPicked 160 = .ok (.iinc 11 1, 3) := by decide +kernel
theorem dX11_isPicked_163 : decode cX11_isPicked 163 = .ok (.goto (-149), 3) := by decide +kernel
theorem dX11_isPicked_166 : decode cX11_isPicked 166 = .ok (.lload 5, 2) := by decide +kernel
theorem dX11_isPicked_168 : decode cX11_isPicked 168 = .ok (.lconst 0, 1) := by decide +kernel
theorem dX11_isPicked_169 : decode cX11_isPicked 169 = .ok (.lcmp, 1) := by decide +kernel
theorem dX11_isPicked_170 : decode cX11_isPicked 170 = .ok (.ifCond .le 43, 3) := by decide +kernel
theorem dX11_isPicked_173 : decode cX11_isPicked 173 = .ok (.lload 9, 2) := by decide +kernel
theorem dX11_isPicked_175 : decode cX11_isPicked 175 = .ok (.lconst 0, 1) := by decide +kernel
theorem dX11_isPicked_176 : decode cX11_isPicked 176 = .ok (.lcmp, 1) := by decide +kernel
theorem dX11_isPicked_177 : decode cX11_isPicked 177 = .ok (.ifCond .le 36, 3) := by decide +kernel
theorem dX11_isPicked_180 : decode cX11_isPicked 180 = .ok (.ldc2_w 512, 3) := by decide +kernel
theorem dX11_isPicked_183 : decode cX11_isPicked 183 = .ok (.ldc2_w 409, 3) := by decide +kernel
theorem dX11_isPicked_186 : decode cX11_isPicked 186 = .ok (.lload_n 3, 1) := by decide +kernel
theorem dX11_isPicked_187 : decode cX11_isPicked 187 = .ok (.lmul, 1) := by decide +kernel
theorem dX11_isPicked_188 : decode cX11_isPicked 188 = .ok (.lload 5, 2) := by decide +kernel
theorem dX11_isPicked_190 : decode cX11_isPicked 190 = .ok (.ldiv, 1) := by decide +kernel
theorem dX11_isPicked_191 : decode cX11_isPicked 191 = .ok (.lmul, 1) := by decide +kernel
theorem dX11_isPicked_192 : decode cX11_isPicked 192 = .ok (.ldc2_w 514, 3) := by decide +kernel
theorem dX11_isPicked_195 : decode cX11_isPicked 195 = .ok (.ldc2_w 409, 3) := by decide +kernel
theorem dX11_isPicked_198 : decode cX11_isPicked 198 = .ok (.lload 7, 2) := by decide +kernel
theorem dX11_isPicked_200 : decode cX11_isPicked 200 = .ok (.lmul, 1) := by decide +kernel
theorem dX11_isPicked_201 : decode cX11_isPicked 201 = .ok (.lload 9, 2) := by decide +kernel
theorem dX11_isPicked_203 : decode cX11_isPicked 203 = .ok (.ldiv, 1) := by decide +kernel
theorem dX11_isPicked_204 : decode cX11_isPicked 204 = .ok (.lmul, 1) := by decide +kernel
theorem dX11_isPicked_205 : decode cX11_isPicked 205 = .ok (.lcmp, 1) := by decide +kernel
theorem dX11_isPicked_206 : decode cX11_isPicked 206 = .ok (.ifCond .ge 7, 3) := by decide +kernel
theorem dX11_isPicked_209 : decode cX11_isPicked 209 = .ok (.iconst 1, 1) := by decide +kernel
theorem dX11_isPicked_210 : decode cX11_isPicked 210 = .ok (.goto 4, 3) := by decide +kernel
theorem dX11_isPicked_213 : decode cX11_isPicked 213 = .ok (.iconst 0, 1) := by decide +kernel
theorem dX11_isPicked_214 : decode cX11_isPicked 214 = .ok (.ireturn, 1) := by decide +kernel
theorem dX11_depositOf_0 : decode cX11_depositOf 0 = .ok (.aload_n 0, 1) := by decide +kernel
theorem dX11_depositOf_1 : decode cX11_depositOf 1 = .ok (.invokevirtual 367, 3) := by decide +kernel
theorem dX11_depositOf_4 : decode cX11_depositOf 4 = .ok (.aload_n 0, 1) := by decide +kernel
theorem dX11_depositOf_5 : decode cX11_depositOf 5 = .ok (.aload_n 0, 1) := by decide +kernel
theorem dX11_depositOf_6 : decode cX11_depositOf 6 = .ok (.iload_n 1, 1) := by decide +kernel
theorem dX11_depositOf_7 : decode cX11_depositOf 7 = .ok (.iconst 1, 1) := by decide +kernel
theorem dX11_depositOf_8 : decode cX11_depositOf 8 = .ok (.invokevirtual 305, 3) := by decide +kernel
theorem dX11_depositOf_11 : decode cX11_depositOf 11 = .ok (.invokevirtual 497, 3) := by decide +kernel
theorem dX11_depositOf_14 : decode cX11_depositOf 14 = .ok (.i2l, 1) := by decide +kernel
theorem dX11_depositOf_15 : decode cX11_depositOf 15 = .ok (.aload_n 0, 1) := by decide +kernel
theorem dX11_depositOf_16 : decode cX11_depositOf 16 = .ok (.getfield 69, 3) := by decide +kernel
theorem dX11_depositOf_19 : decode cX11_depositOf 19 = .ok (.iload_n 1, 1) := by decide +kernel
theorem dX11_depositOf_20 : decode cX11_depositOf 20 = .ok (.iaload, 1) := by decide +kernel
theorem dX11_depositOf_21 : decode cX11_depositOf 21 = .ok (.i2l, 1) := by decide +kernel
theorem dX11_depositOf_22 : decode cX11_depositOf 22 = .ok (.lmul, 1) := by decide +kernel
theorem dX11_depositOf_23 : decode cX11_depositOf 23 = .ok (.aload_n 0, 1) := by decide +kernel
theorem dX11_depositOf_24 : decode cX11_depositOf 24 = .ok (.iload_n 1, 1) := by decide +kernel
theorem dX11_depositOf_25 : decode cX11_depositOf 25 = .ok (.iconst 5, 1) := by decide +kernel
theorem dX11_depositOf_26 : decode cX11_depositOf 26 = .ok (.invokevirtual 305, 3) := by decide +kernel
theorem dX11_depositOf_29 : decode cX11_depositOf 29 = .ok (.i2l, 1) := by decide +kernel
theorem dX11_depositOf_30 : decode cX11_depositOf 30 = .ok (.lmul, 1) := by decide +kernel
theorem dX11_depositOf_31 : decode cX11_depositOf 31 = .ok (.ldc2_w 365, 3) := by decide +kernel
theorem dX11_depositOf_34 : decode cX11_depositOf 34 = .ok (.ldiv, 1) := by decide +kernel
theorem dX11_depositOf_35 : decode cX11_depositOf 35 = .ok (.lreturn, 1) := by decide +kernel
theorem dX11_owedOf_0 : decode cX11_owedOf 0 = .ok (.aload_n 0, 1) := by decide +kernel
theorem dX11_owedOf_1 : decode cX11_owedOf 1 = .ok (.iload_n 1, 1) := by decide +kernel
theorem dX11_owedOf_2 : decode cX11_owedOf 2 = .ok (.aload_n 0, 1) := by decide +kernel
theorem dX11_owedOf_3 : decode cX11_owedOf 3 = .ok (.getfield 7, 3) := by decide +kernel
theorem dX11_owedOf_6 : decode cX11_owedOf 6 = .ok (.bipush 28, 2) := by decide +kernel
theorem dX11_owedOf_8 : decode cX11_owedOf 8 = .ok (.iaload, 1) := by decide +kernel
theorem dX11_owedOf_9 : decode cX11_owedOf 9 = .ok (.iconst 2, 1) := by decide +kernel
theorem dX11_owedOf_10 : decode cX11_owedOf 10 = .ok (.if_icmp .ne 7, 3) := by decide +kernel
theorem dX11_owedOf_13 : decode cX11_owedOf 13 = .ok (.iconst 2, 1) := by decide +kernel
theorem dX11_owedOf_14 : decode cX11_owedOf 14 = .ok (.goto 4, 3) := by decide +kernel
theorem dX11_owedOf_17 : decode cX11_owedOf 17 = .ok (.iconst 1, 1) := by decide +kernel
theorem dX11_owedOf_18 : decode cX11_owedOf 18 = .ok (.invokevirtual 434, 3) := by decide +kernel
theorem dX11_owedOf_21 : decode cX11_owedOf 21 = .ok (.lstore_n 2, 1) := by decide +kernel
theorem dX11_owedOf_22 : decode cX11_owedOf 22 = .ok (.lload_n 2, 1) := by decide +kernel
theorem dX11_owedOf_23 : decode cX11_owedOf 23 = .ok (.lconst 0, 1) := by decide +kernel
theorem dX11_owedOf_24 : decode cX11_owedOf 24 = .ok (.lcmp, 1) := by decide +kernel
theorem dX11_owedOf_25 : decode cX11_owedOf 25 = .ok (.ifCond .ge 7, 3) := by decide +kernel
theorem dX11_owedOf_28 : decode cX11_owedOf 28 = .ok (.lconst 0, 1) := by decide +kernel
theorem dX11_owedOf_29 : decode cX11_owedOf 29 = .ok (.goto 4, 3) := by decide +kernel
theorem dX11_owedOf_32 : decode cX11_owedOf 32 = .ok (.lload_n 2, 1) := by decide +kernel
theorem dX11_owedOf_33 : decode cX11_owedOf 33 = .ok (.lreturn, 1) := by decide +kernel
theorem dX11_collected_0 : decode cX11_collected 0 = .ok (.aload_n 0, 1) := by decide +kernel
theorem dX11_collected_1 : decode cX11_collected 1 = .ok (.aload_n 0, 1) := by decide +kernel
theorem dX11_collected_2 : decode cX11_collected 2 = .ok (.iload_n 1, 1) := by decide +kernel
theorem dX11_collected_3 : decode cX11_collected 3 = .ok (.invokevirtual 341, 3) := by decide +kernel
theorem dX11_collected_6 : decode cX11_collected 6 = .ok (.ifCond .ne 7, 3) := by decide +kernel
theorem dX11_collected_9 : decode cX11_collected 9 = .ok (.iconst 1, 1) := by decide +kernel
theorem dX11_collected_10 : decode cX11_collected 10 = .ok (.goto 16, 3) := by decide +kernel
theorem dX11_collected_13 : decode cX11_collected 13 = .ok (.aload_n 0, 1) := by decide +kernel
theorem dX11_collected_14 : decode cX11_collected 14 = .ok (.iload_n 1, 1) := by decide +kernel
theorem dX11_collected_15 : decode cX11_collected 15 = .ok (.invokevirtual 425, 3) := by decide +kernel
theorem dX11_collected_18 : decode cX11_collected 18 = .ok (.ifCond .eq 7, 3) := by decide +kernel
theorem dX11_collected_21 : decode cX11_collected 21 = .ok (.iconst 0, 1) := by decide +kernel
theorem dX11_collected_22 : decode cX11_collected 22 = .ok (.goto 4, 3) := by decide +kernel
theorem dX11_collected_25 : decode cX11_collected 25 = .ok (.iconst 2, 1) := by decide +kernel
theorem dX11_collected_26 : decode cX11_collected 26 = .ok (.putfield 104, 3) := by decide +kernel
theorem dX11_collected_29 : decode cX11_collected 29 = .ok (.aload_n 0, 1) := by decide +kernel
theorem dX11_collected_30 : decode cX11_collected 30 = .ok (.getfield 104, 3) := by decide +kernel
theorem dX11_collected_33 : decode cX11_collected 33 = .ok (.ifCond .le 7, 3) := by decide +kernel
theorem dX11_collected_36 : decode cX11_collected 36 = .ok (.lconst 0, 1) := by decide +kernel
theorem dX11_collected_37 : decode cX11_collected 37 = .ok (.goto 20, 3) := by decide +kernel
theorem dX11_collected_40 : decode cX11_collected 40 = .ok (.iload_n 2, 1) := by decide +kernel
theorem dX11_collected_41 : decode cX11_collected 41 = .ok (.ifCond .eq 11, 3) := by decide +kernel
theorem dX11_collected_44 : decode cX11_collected 44 = .ok (.aload_n 0, 1) := by decide +kernel
theorem dX11_collected_45 : decode cX11_collected 45 = .ok (.iload_n 1, 1) := by decide +kernel
theorem dX11_collected_46 : decode cX11_collected 46 = .ok (.invokevirtual 516, 3) := by decide +kernel
theorem dX11_collected_49 : decode cX11_collected 49 = .ok (.goto 8, 3) := by decide +kernel
theorem dX11_collected_52 : decode cX11_collected 52 = .ok (.aload_n 0, 1) := by decide +kernel
theorem dX11_collected_53 : decode cX11_collected 53 = .ok (.iload_n 1, 1) := by decide +kernel
theorem dX11_collected_54 : decode cX11_collected 54 = .ok (.invokevirtual 520, 3) := by decide +kernel
theorem dX11_collected_57 : decode cX11_collected 57 = .ok (.lreturn, 1) := by decide +kernel
theorem dX11_back_0 : decode cX11_back 0 = .ok (.aload_n 0, 1) := by decide +kernel
theorem dX11_back_1 : decode cX11_back 1 = .ok (.aload_n 0, 1) := by decide +kernel
theorem dX11_back_2 : decode cX11_back 2 = .ok (.iload_n 1, 1) := by decide +kernel
theorem dX11_back_3 : decode cX11_back 3 = .ok (.invokevirtual 311, 3) := by decide +kernel
theorem dX11_back_6 : decode cX11_back 6 = .ok (.ifCond .eq 7, 3) := by decide +kernel
theorem dX11_back_9 : decode cX11_back 9 = .ok (.iconst 0, 1) := by decide +kernel
theorem dX11_back_10 : decode cX11_back 10 = .ok (.goto 4, 3) := by decide +kernel
theorem dX11_back_13 : decode cX11_back 13 = .ok (.iconst 1, 1) := by decide +kernel
theorem dX11_back_14 : decode cX11_back 14 = .ok (.putfield 104, 3) := by decide +kernel
theorem dX11_back_17 : decode cX11_back 17 = .ok (.aload_n 0, 1) := by decide +kernel
theorem dX11_back_18 : decode cX11_back 18 = .ok (.getfield 104, 3) := by decide +kernel
theorem dX11_back_21 : decode cX11_back 21 = .ok (.ifCond .le 5, 3) := by decide +kernel
theorem dX11_back_24 : decode cX11_back 24 = .ok (.lconst 0, 1) := by decide +kernel
theorem dX11_back_25 : decode cX11_back 25 = .ok (.lreturn, 1) := by decide +kernel
theorem dX11_back_26 : decode cX11_back 26 = .ok (.lconst 0, 1) := by decide +kernel
theorem dX11_back_27 : decode cX11_back 27 = .ok (.lstore_n 2, 1) := by decide +kernel
theorem dX11_back_28 : decode cX11_back 28 = .ok (.iconst 0, 1) := by decide +kernel
theorem dX11_back_29 : decode cX11_back 29 = .ok (.istore 4, 2) := by decide +kernel
theorem dX11_back_31 : decode cX11_back 31 = .ok (.iload 4, 2) := by decide +kernel
theorem dX11_back_33 : decode cX11_back 33 = .ok (.aload_n 0, 1) := by decide +kernel
theorem dX11_back_34 : decode cX11_back 34 = .ok (.getfield 7, 3) := by decide +kernel
theorem dX11_back_37 : decode cX11_back 37 = .ok (.bipush 34, 2) := by decide +kernel
theorem dX11_back_39 : decode cX11_back 39 = .ok (.iaload, 1) := by decide +kernel
theorem dX11_back_40 : decode cX11_back 40 = .ok (.if_icmp .ge 49, 3) := by decide +kernel
theorem dX11_back_43 : decode cX11_back 43 = .ok (.lload_n 2, 1) := by decide +kernel
theorem dX11_back_44 : decode cX11_back 44 = .ok (.aload_n 0, 1) := by decide +kernel
theorem dX11_back_45 : decode cX11_back 45 = .ok (.iload 4, 2) := by decide +kernel
theorem dX11_back_47 : decode cX11_back 47 = .ok (.invokevirtual 425, 3) := by decide +kernel
theorem dX11_back_50 : decode cX11_back 50 = .ok (.ifCond .eq 30, 3) := by decide +kernel
theorem dX11_back_53 : decode cX11_back 53 = .ok (.aload_n 0, 1) := by decide +kernel
theorem dX11_back_54 : decode cX11_back 54 = .ok (.iload 4, 2) := by decide +kernel
theorem dX11_back_56 : decode cX11_back 56 = .ok (.iconst 1, 1) := by decide +kernel
theorem dX11_back_57 : decode cX11_back 57 = .ok (.invokevirtual 305, 3) := by decide +kernel
theorem dX11_back_60 : decode cX11_back 60 = .ok (.iload_n 1, 1) := by decide +kernel
theorem dX11_back_61 : decode cX11_back 61 = .ok (.if_icmp .ne 19, 3) := by decide +kernel
theorem dX11_back_64 : decode cX11_back 64 = .ok (.aload_n 0, 1) := by decide +kernel
theorem dX11_back_65 : decode cX11_back 65 = .ok (.iload 4, 2) := by decide +kernel
theorem dX11_back_67 : decode cX11_back 67 = .ok (.invokevirtual 520, 3) := by decide +kernel
theorem dX11_back_70 : decode cX11_back 70 = .ok (.aload_n 0, 1) := by decide +kernel
theorem dX11_back_71 : decode cX11_back 71 = .ok (.iload 4, 2) := by decide +kernel
theorem dX11_back_73 : decode cX11_back 73 = .ok (.invokevirtual 516, 3) := by decide +kernel
theorem dX11_back_76 : decode cX11_back 76 = .ok (.lsub, 1) := by decide +kernel
theorem dX11_back_77 : decode cX11_back 77 = .ok (.goto 4, 3) := by decide +kernel
theorem dX11_back_80 : decode cX11_back 80 = .ok (.lconst 0, 1) := by decide +kernel
theorem dX11_back_81 : decode cX11_back 81 = .ok (.ladd, 1) := by decide +kernel
theorem dX11_back_82 : decode cX11_back 82 = .ok (.lstore_n 2, 1) := by decide +kernel
theorem dX11_back_83 : decode cX11_back 83 = .ok (.iinc 4 1, 3) := by decide +kernel
theorem dX11_back_86 : decode cX11_back 86 = .ok (.goto (-55), 3) := by decide +kernel
theorem dX11_back_89 : decode cX11_back 89 = .ok (.lload_n 2, 1) := by decide +kernel
theorem dX11_back_90 : decode cX11_back 90 = .ok (.lreturn, 1) := by decide +kernel
theorem dX11_weightOf_0 : decode cX11_weightOf 0 = .ok (.aload_n 0, 1) := by decide +kernel
theorem dX11_weightOf_1 : decode cX11_weightOf 1 = .ok (.iload_n 1, 1) := by decide +kernel
theorem dX11_weightOf_2 : decode cX11_weightOf 2 = .ok (.iconst 1, 1) := by decide +kernel
theorem dX11_weightOf_3 : decode cX11_weightOf 3 = .ok (.invokevirtual 305, 3) := by decide +kernel
theorem dX11_weightOf_6 : decode cX11_weightOf 6 = .ok (.istore_n 2, 1) := by decide +kernel
theorem dX11_weightOf_7 : decode cX11_weightOf 7 = .ok (.aload_n 0, 1) := by decide +kernel
theorem dX11_weightOf_8 : decode cX11_weightOf 8 = .ok (.iload_n 2, 1) := by decide +kernel
theorem dX11_weightOf_9 : decode cX11_weightOf 9 = .ok (.aload_n 0, 1) := by decide +kernel
theorem dX11_weightOf_10 : decode cX11_weightOf 10 = .ok (.getfield 7, 3) := by decide +kernel
theorem dX11_weightOf_13 : decode cX11_weightOf 13 = .ok (.bipush 28, 2) := by decide +kernel
theorem dX11_weightOf_15 : decode cX11_weightOf 15 = .ok (.iaload, 1) := by decide +kernel
theorem dX11_weightOf_16 : decode cX11_weightOf 16 = .ok (.aload_n 0, 1) := by decide +kernel
theorem dX11_weightOf_17 : decode cX11_weightOf 17 = .ok (.invokevirtual 488, 3) := by decide +kernel
theorem dX11_weightOf_20 : decode cX11_weightOf 20 = .ok (.invokevirtual 476, 3) := by decide +kernel
theorem dX11_weightOf_23 : decode cX11_weightOf 23 = .ok (.istore_n 3, 1) := by decide +kernel
theorem dX11_weightOf_24 : decode cX11_weightOf 24 = .ok (.aload_n 0, 1) := by decide +kernel
theorem dX11_weightOf_25 : decode cX11_weightOf 25 = .ok (.getfield 7, 3) := by decide +kernel
theorem dX11_weightOf_28 : decode cX11_weightOf 28 = .ok (.bipush 35, 2) := by decide +kernel
theorem dX11_weightOf_30 : decode cX11_weightOf 30 = .ok (.bipush 8, 2) := by decide +kernel
theorem dX11_weightOf_32 : decode cX11_weightOf 32 = .ok (.iload_n 1, 1) := by decide +kernel
theorem dX11_weightOf_33 : decode cX11_weightOf 33 = .ok (.imul, 1) := by decide +kernel
theorem dX11_weightOf_34 : decode cX11_weightOf 34 = .ok (.iadd, 1) := by decide +kernel
theorem dX11_weightOf_35 : decode cX11_weightOf 35 = .ok (.bipush 7, 2) := by decide +kernel
theorem dX11_weightOf_37 : decode cX11_weightOf 37 = .ok (.iadd, 1) := by decide +kernel
theorem dX11_weightOf_38 : decode cX11_weightOf 38 = .ok (.iconst 0, 1) := by decide +kernel
theorem dX11_weightOf_39 : decode cX11_weightOf 39 = .ok (.iastore, 1) := by decide +kernel
theorem dX11_weightOf_40 : decode cX11_weightOf 40 = .ok (.aload_n 0, 1) := by decide +kernel
theorem dX11_weightOf_41 : decode cX11_weightOf 41 = .ok (.iconst 0, 1) := by decide +kernel
theorem dX11_weightOf_42 : decode cX11_weightOf 42 = .ok (.putfield 297, 3) := by decide +kernel
theorem dX11_weightOf_45 : decode cX11_weightOf 45 = .ok (.aload_n 0, 1) := by decide +kernel
theorem dX11_weightOf_46 : decode cX11_weightOf 46 = .ok (.iload_n 2, 1) := by decide +kernel
theorem dX11_weightOf_47 : decode cX11_weightOf 47 = .ok (.aload_n 0, 1) := by decide +kernel
theorem dX11_weightOf_48 : decode cX11_weightOf 48 = .ok (.getfield 7, 3) := by decide +kernel
theorem dX11_weightOf_51 : decode cX11_weightOf 51 = .ok (.bipush 28, 2) := by decide +kernel
theorem dX11_weightOf_53 : decode cX11_weightOf 53 = .ok (.iaload, 1) := by decide +kernel
theorem dX11_weightOf_54 : decode cX11_weightOf 54 = .ok (.aload_n 0, 1) := by decide +kernel
theorem dX11_weightOf_55 : decode cX11_weightOf 55 = .ok (.invokevirtual 488, 3) := by decide +kernel
theorem dX11_weightOf_58 : decode cX11_weightOf 58 = .ok (.invokevirtual 476, 3) := by decide +kernel
theorem dX11_weightOf_61 : decode cX11_weightOf 61 = .ok (.istore 4, 2) := by decide +kernel
theorem dX11_weightOf_63 : decode cX11_weightOf 63 = .ok (.aload_n 0, 1) := by decide +kernel
theorem dX11_weightOf_64 : decode cX11_weightOf 64 = .ok (.getfield 7, 3) := by decide +kernel
theorem dX11_weightOf_67 : decode cX11_weightOf 67 = .ok (.bipush 35, 2) := by decide +kernel
theorem dX11_weightOf_69 : decode cX11_weightOf 69 = .ok (.bipush 8, 2) := by decide +kernel
theorem dX11_weightOf_71 : decode cX11_weightOf 71 = .ok (.iload_n 1, 1) := by decide +kernel
theorem dX11_weightOf_72 : decode cX11_weightOf 72 = .ok (.imul, 1) := by decide +kernel
theorem dX11_weightOf_73 : decode cX11_weightOf 73 = .ok (.iadd, 1) := by decide +kernel
theorem dX11_weightOf_74 : decode cX11_weightOf 74 = .ok (.bipush 7, 2) := by decide +kernel
theorem dX11_weightOf_76 : decode cX11_weightOf 76 = .ok (.iadd, 1) := by decide +kernel
theorem dX11_weightOf_77 : decode cX11_weightOf 77 = .ok (.iconst 1, 1) := by decide +kernel
theorem dX11_weightOf_78 : decode cX11_weightOf 78 = .ok (.iastore, 1) := by decide +kernel
theorem dX11_weightOf_79 : decode cX11_weightOf 79 = .ok (.aload_n 0, 1) := by decide +kernel
theorem dX11_weightOf_80 : decode cX11_weightOf 80 = .ok (.iconst 0, 1) := by decide +kernel
theorem dX11_weightOf_81 : decode cX11_weightOf 81 = .ok (.putfield 297, 3) := by decide +kernel
theorem dX11_weightOf_84 : decode cX11_weightOf 84 = .ok (.iload 4, 2) := by decide +kernel
theorem dX11_weightOf_86 : decode cX11_weightOf 86 = .ok (.iload_n 3, 1) := by decide +kernel
theorem dX11_weightOf_87 : decode cX11_weightOf 87 = .ok (.isub, 1) := by decide +kernel
theorem dX11_weightOf_88 : decode cX11_weightOf 88 = .ok (.ireturn, 1) := by decide +kernel
theorem dX11_weight_0 : decode cX11_weight 0 = .ok (.aload_n 0, 1) := by decide +kernel
theorem dX11_weight_1 : decode cX11_weight 1 = .ok (.aload_n 0, 1) := by decide +kernel
theorem dX11_weight_2 : decode cX11_weight 2 = .ok (.iload_n 1, 1) := by decide +kernel
theorem dX11_weight_3 : decode cX11_weight 3 = .ok (.invokevirtual 341, 3) := by decide +kernel
theorem dX11_weight_6 : decode cX11_weight 6 = .ok (.ifCond .eq 7, 3) := by decide +kernel
theorem dX11_weight_9 : decode cX11_weight 9 = .ok (.iconst 0, 1) := by decide +kernel
theorem dX11_weight_10 : decode cX11_weight 10 = .ok (.goto 4, 3) := by decide +kernel
theorem dX11_weight_13 : decode cX11_weight 13 = .ok (.iconst 1, 1) := by decide +kernel
theorem dX11_weight_14 : decode cX11_weight 14 = .ok (.putfield 104, 3) := by decide +kernel
theorem dX11_weight_17 : decode cX11_weight 17 = .ok (.aload_n 0, 1) := by decide +kernel
theorem dX11_weight_18 : decode cX11_weight 18 = .ok (.getfield 104, 3) := by decide +kernel
theorem dX11_weight_21 : decode cX11_weight 21 = .ok (.ifCond .le 7, 3) := by decide +kernel
theorem dX11_weight_24 : decode cX11_weight 24 = .ok (.iconst 0, 1) := by decide +kernel
theorem dX11_weight_25 : decode cX11_weight 25 = .ok (.goto 8, 3) := by decide +kernel
theorem dX11_weight_28 : decode cX11_weight 28 = .ok (.aload_n 0, 1) := by decide +kernel
theorem dX11_weight_29 : decode cX11_weight 29 = .ok (.iload_n 1, 1) := by decide +kernel
theorem dX11_weight_30 : decode cX11_weight 30 = .ok (.invokevirtual 523, 3) := by decide +kernel
theorem dX11_weight_33 : decode cX11_weight 33 = .ok (.ireturn, 1) := by decide +kernel
theorem dX11_heaviest_0 : decode cX11_heaviest 0 = .ok (.aload_n 0, 1) := by decide +kernel
theorem dX11_heaviest_1 : decode cX11_heaviest 1 = .ok (.aload_n 0, 1) := by decide +kernel
theorem dX11_heaviest_2 : decode cX11_heaviest 2 = .ok (.iload_n 1, 1) := by decide +kernel
theorem dX11_heaviest_3 : decode cX11_heaviest 3 = .ok (.invokevirtual 311, 3) := by decide +kernel
theorem dX11_heaviest_6 : decode cX11_heaviest 6 = .ok (.ifCond .eq 7, 3) := by decide +kernel
theorem dX11_heaviest_9 : decode cX11_heaviest 9 = .ok (.iconst 0, 1) := by decide +kernel
theorem dX11_heaviest_10 : decode cX11_heaviest 10 = .ok (.goto 4, 3) := by decide +kernel
theorem dX11_heaviest_13 : decode cX11_heaviest 13 = .ok (.iconst 1, 1) := by decide +kernel
theorem dX11_heaviest_14 : decode cX11_heaviest 14 = .ok (.putfield 104, 3) := by decide +kernel
theorem dX11_heaviest_17 : decode cX11_heaviest 17 = .ok (.aload_n 0, 1) := by decide +kernel
theorem dX11_heaviest_18 : decode cX11_heaviest 18 = .ok (.getfield 104, 3) := by decide +kernel
theorem dX11_heaviest_21 : decode cX11_heaviest 21 = .ok (.ifCond .le 5, 3) := by decide +kernel
theorem dX11_heaviest_24 : decode cX11_heaviest 24 = .ok (.iconst 0, 1) := by decide +kernel
theorem dX11_heaviest_25 : decode cX11_heaviest 25 = .ok (.ireturn, 1) := by decide +kernel
theorem dX11_heaviest_26 : decode cX11_heaviest 26 = .ok (.iconst (-1), 1) := by decide +kernel
theorem dX11_heaviest_27 : decode cX11_heaviest 27 = .ok (.istore_n 3, 1) := by decide +kernel
theorem dX11_heaviest_28 : decode cX11_heaviest 28 = .ok (.iconst 0, 1) := by decide +kernel
theorem dX11_heaviest_29 : decode cX11_heaviest 29 = .ok (.istore 4, 2) := by decide +kernel
theorem dX11_heaviest_31 : decode cX11_heaviest 31 = .ok (.iconst 0, 1) := by decide +kernel
theorem dX11_heaviest_32 : decode cX11_heaviest 32 = .ok (.istore 5, 2) := by decide +kernel
theorem dX11_heaviest_34 : decode cX11_heaviest 34 = .ok (.iload 5, 2) := by decide +kernel
theorem dX11_heaviest_36 : decode cX11_heaviest 36 = .ok (.aload_n 0, 1) := by decide +kernel
theorem dX11_heaviest_37 : decode cX11_heaviest 37 = .ok (.getfield 7, 3) := by decide +kernel
theorem dX11_heaviest_40 : decode cX11_heaviest 40 = .ok (.bipush 34, 2) := by decide +kernel
theorem dX11_heaviest_42 : decode cX11_heaviest 42 = .ok (.iaload, 1) := by decide +kernel
theorem dX11_heaviest_43 : decode cX11_heaviest 43 = .ok (.if_icmp .ge 73, 3) := by decide +kernel
theorem dX11_heaviest_46 : decode cX11_heaviest 46 = .ok (.aload_n 0, 1) := by decide +kernel
theorem dX11_heaviest_47 : decode cX11_heaviest 47 = .ok (.iload 5, 2) := by decide +kernel
theorem dX11_heaviest_49 : decode cX11_heaviest 49 = .ok (.invokevirtual 341, 3) := by decide +kernel
theorem dX11_heaviest_52 : decode cX11_heaviest 52 = .ok (.ifCond .eq 58, 3) := by decide +kernel
theorem dX11_heaviest_55 : decode cX11_heaviest 55 = .ok (.aload_n 0, 1) := by decide +kernel
theorem dX11_heaviest_56 : decode cX11_heaviest 56 = .ok (.iload 5, 2) := by decide +kernel
theorem dX11_heaviest_58 : decode cX11_heaviest 58 = .ok (.iconst 1, 1) := by decide +kernel
theorem dX11_heaviest_59 : decode cX11_heaviest 59 = .ok (.invokevirtual 305, 3) := by decide +kernel
theorem dX11_heaviest_62 : decode cX11_heaviest 62 = .ok (.iload_n 1, 1) := by decide +kernel
theorem dX11_heaviest_63 : decode cX11_heaviest 63 = .ok (.if_icmp .eq 6, 3) := by decide +kernel
theorem dX11_heaviest_66 : decode cX11_heaviest 66 = .ok (.goto 44, 3) := by decide +kernel
theorem dX11_heaviest_69 : decode cX11_heaviest 69 = .ok (.aload_n 0, 1) := by decide +kernel
theorem dX11_heaviest_70 : decode cX11_heaviest 70 = .ok (.iload 5, 2) := by decide +kernel
theorem dX11_heaviest_72 : decode cX11_heaviest 72 = .ok (.invokevirtual 523, 3) := by decide +kernel
theorem dX11_heaviest_75 : decode cX11_heaviest 75 = .ok (.istore 6, 2) := by decide +kernel
theorem dX11_heaviest_77 : decode cX11_heaviest 77 = .ok (.iload_n 3, 1) := by decide +kernel
theorem dX11_heaviest_78 : decode cX11_heaviest 78 = .ok (.iconst (-1), 1) := by decide +kernel
theorem dX11_heaviest_79 : decode cX11_heaviest 79 = .ok (.if_icmp .eq 24, 3) := by decide +kernel
theorem dX11_heaviest_82 : decode cX11_heaviest 82 = .ok (.iload_n 2, 1) := by decide +kernel
theorem dX11_heaviest_83 : decode cX11_heaviest 83 = .ok (.ifCond .eq 13, 3) := by decide +kernel
theorem dX11_heaviest_86 : decode cX11_heaviest 86 = .ok (.iload 6, 2) := by decide +kernel
theorem dX11_heaviest_88 : decode cX11_heaviest 88 = .ok (.iload 4, 2) := by decide +kernel
theorem dX11_heaviest_90 : decode cX11_heaviest 90 = .ok (.if_icmp .ge 20, 3) := by decide +kernel
theorem dX11_heaviest_93 : decode cX11_heaviest 93 = .ok (.goto 10, 3) := by decide +kernel
theorem dX11_heaviest_96 : decode cX11_heaviest 96 = .ok (.iload 6, 2) := by decide +kernel
theorem dX11_heaviest_98 : decode cX11_heaviest 98 = .ok (.iload 4, 2) := by decide +kernel
theorem dX11_heaviest_100 : decode cX11_heaviest 100 = .ok (.if_icmp .le 10, 3) := by decide +kernel
theorem dX11_heaviest_103 : decode cX11_heaviest 103 = .ok (.iload 5, 2) := by decide +kernel
theorem dX11_heaviest_105 : decode cX11_heaviest 105 = .ok (.istore_n 3, 1) := by decide +kernel
theorem dX11_heaviest_106 : decode cX11_heaviest 106 = .ok (.iload 6, 2) := by decide +kernel
theorem dX11_heaviest_108 : decode cX11_heaviest 108 = .ok (.istore 4, 2) := by decide +kernel
theorem dX11_heaviest_110 : decode cX11_heaviest 110 = .ok (.iinc 5 1, 3) := by decide +kernel
theorem dX11_heaviest_113 : decode cX11_heaviest 113 = .ok (.goto (-79), 3) := by decide +kernel
theorem dX11_heaviest_116 : decode cX11_heaviest 116 = .ok (.iload_n 3, 1) := by decide +kernel
theorem dX11_heaviest_117 : decode cX11_heaviest 117 = .ok (.ireturn, 1) := by decide +kernel
theorem dX11_ranked_0 : decode cX11_ranked 0 = .ok (.aload_n 0, 1) := by decide +kernel
theorem dX11_ranked_1 : decode cX11_ranked 1 = .ok (.iconst 0, 1) := by decide +kernel
theorem dX11_ranked_2 : decode cX11_ranked 2 = .ok (.putfield 104, 3) := by decide +kernel
theorem dX11_ranked_5 : decode cX11_ranked 5 = .ok (.iconst 0, 1) := by decide +kernel
theorem dX11_ranked_6 : decode cX11_ranked 6 = .ok (.istore_n 2, 1) := by decide +kernel
theorem dX11_ranked_7 : decode cX11_ranked 7 = .ok (.iload_n 2, 1) := by decide +kernel
theorem dX11_ranked_8 : decode cX11_ranked 8 = .ok (.aload_n 0, 1) := by decide +kernel
theorem dX11_ranked_9 : decode cX11_ranked 9 = .ok (.getfield 291, 3) := by decide +kernel
theorem dX11_ranked_12 : decode cX11_ranked 12 = .ok (.if_icmp .ge 78, 3) := by decide +kernel
theorem dX11_ranked_15 : decode cX11_ranked 15 = .ok (.iconst 0, 1) := by decide +kernel
theorem dX11_ranked_16 : decode cX11_ranked 16 = .ok (.istore_n 3, 1) := by decide +kernel
theorem dX11_ranked_17 : decode cX11_ranked 17 = .ok (.iconst 0, 1) := by decide +kernel
theorem dX11_ranked_18 : decode cX11_ranked 18 = .ok (.istore 4, 2) := by decide +kernel
theorem dX11_ranked_20 : decode cX11_ranked 20 = .ok (.iload 4, 2) := by decide +kernel
theorem dX11_ranked_22 : decode cX11_ranked 22 = .ok (.aload_n 0, 1) := by decide +kernel
theorem dX11_ranked_23 : decode cX11_ranked 23 = .ok (.getfield 291, 3) := by decide +kernel
theorem dX11_ranked_26 : decode cX11_ranked 26 = .ok (.if_icmp .ge 51, 3) := by decide +kernel
theorem dX11_ranked_29 : decode cX11_ranked 29 = .ok (.iload_n 3, 1) := by decide +kernel
theorem dX11_ranked_30 : decode cX11_ranked 30 = .ok (.aload_n 0, 1) := by decide +kernel
theorem dX11_ranked_31 : decode cX11_ranked 31 = .ok (.iload 4, 2) := by decide +kernel
theorem dX11_ranked_33 : decode cX11_ranked 33 = .ok (.invokevirtual 506, 3) := by decide +kernel
theorem dX11_ranked_36 : decode cX11_ranked 36 = .ok (.aload_n 0, 1) := by decide +kernel
theorem dX11_ranked_37 : decode cX11_ranked 37 = .ok (.iload_n 2, 1) := by decide +kernel
theorem dX11_ranked_38 : decode cX11_ranked 38 = .ok (.invokevirtual 506, 3) := by decide +kernel
theorem dX11_ranked_41 : decode cX11_ranked 41 = .ok (.if_icmp .gt 23, 3) := by decide +kernel
theorem dX11_ranked_44 : decode cX11_ranked 44 = .ok (.aload_n 0, 1) := by decide +kernel
theorem dX11_ranked_45 : decode cX11_ranked 45 = .ok (.iload 4, 2) := by decide +kernel
theorem dX11_ranked_47 : decode cX11_ranked 47 = .ok (.invokevirtual 506, 3) := by decide +kernel
theorem dX11_ranked_50 : decode cX11_ranked 50 = .ok (.aload_n 0, 1) := by decide +kernel
theorem dX11_ranked_51 : decode cX11_ranked 51 = .ok (.iload_n 2, 1) := by decide +kernel
theorem dX11_ranked_52 : decode cX11_ranked 52 = .ok (.invokevirtual 506, 3) := by decide +kernel
theorem dX11_ranked_55 : decode cX11_ranked 55 = .ok (.if_icmp .ne 13, 3) := by decide +kernel
theorem dX11_ranked_58 : decode cX11_ranked 58 = .ok (.iload 4, 2) := by decide +kernel
theorem dX11_ranked_60 : decode cX11_ranked 60 = .ok (.iload_n 2, 1) := by decide +kernel
theorem dX11_ranked_61 : decode cX11_ranked 61 = .ok (.if_icmp .ge 7, 3) := by decide +kernel
theorem dX11_ranked_64 : decode cX11_ranked 64 = .ok (.iconst 1, 1) := by decide +kernel
theorem dX11_ranked_65 : decode cX11_ranked 65 = .ok (.goto 4, 3) := by decide +kernel
theorem dX11_ranked_68 : decode cX11_ranked 68 = .ok (.iconst 0, 1) := by decide +kernel
theorem dX11_ranked_69 : decode cX11_ranked 69 = .ok (.iadd, 1) := by decide +kernel
theorem dX11_ranked_70 : decode cX11_ranked 70 = .ok (.istore_n 3, 1) := by decide +kernel
theorem dX11_ranked_71 : decode cX11_ranked 71 = .ok (.iinc 4 1, 3) := by decide +kernel
theorem dX11_ranked_74 : decode cX11_ranked 74 = .ok (.goto (-54), 3) := by decide +kernel
theorem dX11_ranked_77 : decode cX11_ranked 77 = .ok (.iload_n 3, 1) := by decide +kernel
theorem dX11_ranked_78 : decode cX11_ranked 78 = .ok (.iload_n 1, 1) := by decide +kernel
theorem dX11_ranked_79 : decode cX11_ranked 79 = .ok (.if_icmp .ne 5, 3) := by decide +kernel
theorem dX11_ranked_82 : decode cX11_ranked 82 = .ok (.iload_n 2, 1) := by decide +kernel
theorem dX11_ranked_83 : decode cX11_ranked 83 = .ok (.ireturn, 1) := by decide +kernel
theorem dX11_ranked_84 : decode cX11_ranked 84 = .ok (.iinc 2 1, 3) := by decide +kernel
theorem dX11_ranked_87 : decode cX11_ranked 87 = .ok (.goto (-80), 3) := by decide +kernel
theorem dX11_ranked_90 : decode cX11_ranked 90 = .ok (.iconst (-1), 1) := by decide +kernel
theorem dX11_ranked_91 : decode cX11_ranked 91 = .ok (.ireturn, 1) := by decide +kernel
theorem dX11_writes_0 : decode cX11_writes 0 = .ok (.aload_n 0, 1) := by decide +kernel
theorem dX11_writes_1 : decode cX11_writes 1 = .ok (.getfield 101, 3) := by decide +kernel
theorem dX11_writes_4 : decode cX11_writes 4 = .ok (.aload_n 0, 1) := by decide +kernel
theorem dX11_writes_5 : decode cX11_writes 5 = .ok (.getfield 526, 3) := by decide +kernel
theorem dX11_writes_8 : decode cX11_writes 8 = .ok (.iload_n 1, 1) := by decide +kernel
theorem dX11_writes_9 : decode cX11_writes 9 = .ok (.iastore, 1) := by decide +kernel
theorem dX11_writes_10 : decode cX11_writes 10 = .ok (.aload_n 0, 1) := by decide +kernel
theorem dX11_writes_11 : decode cX11_writes 11 = .ok (.dup, 1) := by decide +kernel
theorem dX11_writes_12 : decode cX11_writes 12 = .ok (.getfield 526, 3) := by decide +kernel
theorem dX11_writes_15 : decode cX11_writes 15 = .ok (.iconst 1, 1) := by decide +kernel
theorem dX11_writes_16 : decode cX11_writes 16 = .ok (.iadd, 1) := by decide +kernel
theorem dX11_writes_17 : decode cX11_writes 17 = .ok (.putfield 526, 3) := by decide +kernel
theorem dX11_writes_20 : decode cX11_writes 20 = .ok (.return_, 1) := by decide +kernel
theorem dX11_writesText_0 : decode cX11_writesText 0 = .ok (.iconst 0, 1) := by decide +kernel
theorem dX11_writesText_1 : decode cX11_writesText 1 = .ok (.istore_n 2, 1) := by decide +kernel
theorem dX11_writesText_2 : decode cX11_writesText 2 = .ok (.iload_n 2, 1) := by decide +kernel
theorem dX11_writesText_3 : decode cX11_writesText 3 = .ok (.aload_n 1, 1) := by decide +kernel
theorem dX11_writesText_4 : decode cX11_writesText 4 = .ok (.invokevirtual 131, 3) := by decide +kernel
theorem dX11_writesText_7 : decode cX11_writesText 7 = .ok (.if_icmp .ge 18, 3) := by decide +kernel
theorem dX11_writesText_10 : decode cX11_writesText 10 = .ok (.aload_n 0, 1) := by decide +kernel
theorem dX11_writesText_11 : decode cX11_writesText 11 = .ok (.aload_n 1, 1) := by decide +kernel
theorem dX11_writesText_12 : decode cX11_writesText 12 = .ok (.iload_n 2, 1) := by decide +kernel
theorem dX11_writesText_13 : decode cX11_writesText 13 = .ok (.invokevirtual 136, 3) := by decide +kernel
theorem dX11_writesText_16 : decode cX11_writesText 16 = .ok (.invokevirtual 529, 3) := by decide +kernel
theorem dX11_writesText_19 : decode cX11_writesText 19 = .ok (.iinc 2 1, 3) := by decide +kernel
theorem dX11_writesText_22 : decode cX11_writesText 22 = .ok (.goto (-20), 3) := by decide +kernel
theorem dX11_writesText_25 : decode cX11_writesText 25 = .ok (.return_, 1) := by decide +kernel
theorem dX11_writesNumber_0 : decode cX11_writesNumber 0 = .ok (.iconst 1, 1) := by decide +kernel
theorem dX11_writesNumber_1 : decode cX11_writesNumber 1 = .ok (.istore_n 2, 1) := by decide +kernel
theorem dX11_writesNumber_2 : decode cX11_writesNumber 2 = .ok (.iload_n 1, 1) := by decide +kernel
theorem dX11_writesNumber_3 : decode cX11_writesNumber 3 = .ok (.iload_n 2, 1) := by decide +kernel
theorem dX11_writesNumber_4 : decode cX11_writesNumber 4 = .ok (.idiv, 1) := by decide +kernel
theorem dX11_writesNumber_5 : decode cX11_writesNumber 5 = .ok (.bipush 9, 2) := by decide +kernel
theorem dX11_writesNumber_7 : decode cX11_writesNumber 7 = .ok (.if_icmp .le 11, 3) := by decide +kernel
theorem dX11_writesNumber_10 : decode cX11_writesNumber 10 = .ok (.iload_n 2, 1) := by decide +kernel
theorem dX11_writesNumber_11 : decode cX11_writesNumber 11 = .ok (.bipush 10, 2) := by decide +kernel
theorem dX11_writesNumber_13 : decode cX11_writesNumber 13 = .ok (.imul, 1) := by decide +kernel
theorem dX11_writesNumber_14 : decode cX11_writesNumber 14 = .ok (.istore_n 2, 1) := by decide +kernel
theorem dX11_writesNumber_15 : decode cX11_writesNumber 15 = .ok (.goto (-13), 3) := by decide +kernel
theorem dX11_writesNumber_18 : decode cX11_writesNumber 18 = .ok (.iload_n 2, 1) := by decide +kernel
theorem dX11_writesNumber_19 : decode cX11_writesNumber 19 = .ok (.istore_n 3, 1) := by decide +kernel
theorem dX11_writesNumber_20 : decode cX11_writesNumber 20 = .ok (.iload_n 3, 1) := by decide +kernel
theorem dX11_writesNumber_21 : decode cX11_writesNumber 21 = .ok (.ifCond .le 24, 3) := by decide +kernel
theorem dX11_writesNumber_24 : decode cX11_writesNumber 24 = .ok (.aload_n 0, 1) := by decide +kernel
theorem dX11_writesNumber_25 : decode cX11_writesNumber 25 = .ok (.bipush 48, 2) := by decide +kernel
theorem dX11_writesNumber_27 : decode cX11_writesNumber 27 = .ok (.iload_n 1, 1) := by decide +kernel
theorem dX11_writesNumber_28 : decode cX11_writesNumber 28 = .ok (.iload_n 3, 1) := by decide +kernel
theorem dX11_writesNumber_29 : decode cX11_writesNumber 29 = .ok (.idiv, 1) := by decide +kernel
theorem dX11_writesNumber_30 : decode cX11_writesNumber 30 = .ok (.bipush 10, 2) := by decide +kernel
theorem dX11_writesNumber_32 : decode cX11_writesNumber 32 = .ok (.irem, 1) := by decide +kernel
theorem dX11_writesNumber_33 : decode cX11_writesNumber 33 = .ok (.iadd, 1) := by decide +kernel
theorem dX11_writesNumber_34 : decode cX11_writesNumber 34 = .ok (.invokevirtual 529, 3) := by decide +kernel
theorem dX11_writesNumber_37 : decode cX11_writesNumber 37 = .ok (.iload_n 3, 1) := by decide +kernel
theorem dX11_writesNumber_38 : decode cX11_writesNumber 38 = .ok (.bipush 10, 2) := by decide +kernel
theorem dX11_writesNumber_40 : decode cX11_writesNumber 40 = .ok (.idiv, 1) := by decide +kernel
theorem dX11_writesNumber_41 : decode cX11_writesNumber 41 = .ok (.istore_n 3, 1) := by decide +kernel
theorem dX11_writesNumber_42 : decode cX11_writesNumber 42 = .ok (.goto (-22), 3) := by decide +kernel
theorem dX11_writesNumber_45 : decode cX11_writesNumber 45 = .ok (.return_, 1) := by decide +kernel
theorem dX11_write_0 : decode cX11_write 0 = .ok (.aload_n 0, 1) := by decide +kernel
theorem dX11_write_1 : decode cX11_write 1 = .ok (.aload_n 0, 1) := by decide +kernel
theorem dX11_write_2 : decode cX11_write 2 = .ok (.iload_n 1, 1) := by decide +kernel
theorem dX11_write_3 : decode cX11_write 3 = .ok (.invokevirtual 311, 3) := by decide +kernel
theorem dX11_write_6 : decode cX11_write 6 = .ok (.ifCond .eq 7, 3) := by decide +kernel
theorem dX11_write_9 : decode cX11_write 9 = .ok (.iconst 0, 1) := by decide +kernel
theorem dX11_write_10 : decode cX11_write 10 = .ok (.goto 4, 3) := by decide +kernel
theorem dX11_write_13 : decode cX11_write 13 = .ok (.iconst 1, 1) := by decide +kernel
theorem dX11_write_14 : decode cX11_write 14 = .ok (.putfield 104, 3) := by decide +kernel
theorem dX11_write_17 : decode cX11_write 17 = .ok (.aload_n 0, 1) := by decide +kernel
theorem dX11_write_18 : decode cX11_write 18 = .ok (.getfield 104, 3) := by decide +kernel
theorem dX11_write_21 : decode cX11_write 21 = .ok (.ifCond .le 5, 3) := by decide +kernel
theorem dX11_write_24 : decode cX11_write 24 = .ok (.iconst 0, 1) := by decide +kernel
theorem dX11_write_25 : decode cX11_write 25 = .ok (.ireturn, 1) := by decide +kernel
theorem dX11_write_26 : decode cX11_write 26 = .ok (.aload_n 0, 1) := by decide +kernel
theorem dX11_write_27 : decode cX11_write 27 = .ok (.iload_n 1, 1) := by decide +kernel
theorem dX11_write_28 : decode cX11_write 28 = .ok (.invokevirtual 506, 3) := by decide +kernel
theorem dX11_write_31 : decode cX11_write 31 = .ok (.istore_n 2, 1) := by decide +kernel
theorem dX11_write_32 : decode cX11_write 32 = .ok (.aload_n 0, 1) := by decide +kernel
theorem dX11_write_33 : decode cX11_write 33 = .ok (.iconst 0, 1) := by decide +kernel
theorem dX11_write_34 : decode cX11_write 34 = .ok (.putfield 526, 3) := by decide +kernel
theorem dX11_write_37 : decode cX11_write 37 = .ok (.iconst 0, 1) := by decide +kernel
theorem dX11_write_38 : decode cX11_write 38 = .ok (.istore_n 3, 1) := by decide +kernel
theorem dX11_write_39 : decode cX11_write 39 = .ok (.iload_n 3, 1) := by decide +kernel
theorem dX11_write_40 : decode cX11_write 40 = .ok (.aload_n 0, 1) := by decide +kernel
theorem dX11_write_41 : decode cX11_write 41 = .ok (.getfield 22, 3) := by decide +kernel
theorem dX11_write_44 : decode cX11_write 44 = .ok (.iload_n 1, 1) := by decide +kernel
theorem dX11_write_45 : decode cX11_write 45 = .ok (.iaload, 1) := by decide +kernel
theorem dX11_write_46 : decode cX11_write 46 = .ok (.invokestatic 308, 3) := by decide +kernel
theorem dX11_write_49 : decode cX11_write 49 = .ok (.if_icmp .ge 23, 3) := by decide +kernel
theorem dX11_write_52 : decode cX11_write 52 = .ok (.aload_n 0, 1) := by decide +kernel
theorem dX11_write_53 : decode cX11_write 53 = .ok (.aload_n 0, 1) := by decide +kernel
theorem dX11_write_54 : decode cX11_write 54 = .ok (.getfield 22, 3) := by decide +kernel
theorem dX11_write_57 : decode cX11_write 57 = .ok (.iload_n 1, 1) := by decide +kernel
theorem dX11_write_58 : decode cX11_write 58 = .ok (.iaload, 1) := by decide +kernel
theorem dX11_write_59 : decode cX11_write 59 = .ok (.iload_n 3, 1) := by decide +kernel
theorem dX11_write_60 : decode cX11_write 60 = .ok (.invokestatic 317, 3) := by decide +kernel
theorem dX11_write_63 : decode cX11_write 63 = .ok (.invokevirtual 529, 3) := by decide +kernel
theorem dX11_write_66 : decode cX11_write 66 = .ok (.iinc 3 1, 3) := by decide +kernel
theorem dX11_write_69 : decode cX11_write 69 = .ok (.goto (-30), 3) := by decide +kernel
theorem dX11_write_72 : decode cX11_write 72 = .ok (.aload_n 0, 1) := by decide +kernel
theorem dX11_write_73 : decode cX11_write 73 = .ok (.bipush 32, 2) := by decide +kernel
theorem dX11_write_75 : decode cX11_write 75 = .ok (.invokevirtual 529, 3) := by decide +kernel
theorem dX11_write_78 : decode cX11_write 78 = .ok (.aload_n 0, 1) := by decide +kernel
theorem dX11_write_79 : decode cX11_write 79 = .ok (.iload_n 2, 1) := by decide +kernel
theorem dX11_write_80 : decode cX11_write 80 = .ok (.bipush 100, 2) := by decide +kernel
theorem dX11_write_82 : decode cX11_write 82 = .ok (.idiv, 1) := by decide +kernel
theorem dX11_write_83 : decode cX11_write 83 = .ok (.invokevirtual 532, 3) := by decide +kernel
theorem dX11_write_86 : decode cX11_write 86 = .ok (.aload_n 0, 1) := by decide +kernel
theorem dX11_write_87 : decode cX11_write 87 = .ok (.bipush 46, 2) := by decide +kernel
theorem dX11_write_89 : decode cX11_write 89 = .ok (.invokevirtual 529, 3) := by decide +kernel
theorem dX11_write_92 : decode cX11_write 92 = .ok (.aload_n 0, 1) := by decide +kernel
theorem dX11_write_93 : decode cX11_write 93 = .ok (.bipush 48, 2) := by decide +kernel
theorem dX11_write_95 : decode cX11_write 95 = .ok (.iload_n 2, 1) := by decide +kernel
theorem dX11_write_96 : decode cX11_write 96 = .ok (.bipush 10, 2) := by decide +kernel
theorem dX11_write_98 : decode cX11_write 98 = .ok (.idiv, 1) := by decide +kernel
theorem dX11_write_99 : decode cX11_write 99 = .ok (.bipush 10, 2) := by decide +kernel
theorem dX11_write_101 : decode cX11_write 101 = .ok (.irem, 1) := by decide +kernel
theorem dX11_write_102 : decode cX11_write 102 = .ok (.iadd, 1) := by decide +kernel
theorem dX11_write_103 : decode cX11_write 103 = .ok (.invokevirtual 529, 3) := by decide +kernel
theorem dX11_write_106 : decode cX11_write 106 = .ok (.aload_n 0, 1) := by decide +kernel
theorem dX11_write_107 : decode cX11_write 107 = .ok (.bipush 48, 2) := by decide +kernel
theorem dX11_write_109 : decode cX11_write 109 = .ok (.iload_n 2, 1) := by decide +kernel
theorem dX11_write_110 : decode cX11_write 110 = .ok (.bipush 10, 2) := by decide +kernel
theorem dX11_write_112 : decode cX11_write 112 = .ok (.irem, 1) := by decide +kernel
theorem dX11_write_113 : decode cX11_write 113 = .ok (.iadd, 1) := by decide +kernel
theorem dX11_write_114 : decode cX11_write 114 = .ok (.invokevirtual 529, 3) := by decide +kernel
theorem dX11_write_117 : decode cX11_write 117 = .ok (.aload_n 0, 1) := by decide +kernel
theorem dX11_write_118 : decode cX11_write 118 = .ok (.bipush 37, 2) := by decide +kernel
theorem dX11_write_120 : decode cX11_write 120 = .ok (.invokevirtual 529, 3) := by decide +kernel
theorem dX11_write_123 : decode cX11_write 123 = .ok (.aload_n 0, 1) := by decide +kernel
theorem dX11_write_124 : decode cX11_write 124 = .ok (.iload_n 1, 1) := by decide +kernel
theorem dX11_write_125 : decode cX11_write 125 = .ok (.invokevirtual 473, 3) := by decide +kernel
theorem dX11_write_128 : decode cX11_write 128 = .ok (.ifCond .eq 10, 3) := by decide +kernel
theorem dX11_write_131 : decode cX11_write 131 = .ok (.aload_n 0, 1) := by decide +kernel
theorem dX11_write_132 : decode cX11_write 132 = .ok (.ldc_w 535, 3) := by decide +kernel
theorem dX11_write_135 : decode cX11_write 135 = .ok (.invokevirtual 537, 3) := by decide +kernel
theorem dX11_write_138 : decode cX11_write 138 = .ok (.aload_n 0, 1) := by decide +kernel
theorem dX11_write_139 : decode cX11_write 139 = .ok (.iload_n 1, 1) := by decide +kernel
theorem dX11_write_140 : decode cX11_write 140 = .ok (.invokevirtual 485, 3) := by decide +kernel
theorem dX11_write_143 : decode cX11_write 143 = .ok (.ifCond .eq 10, 3) := by decide +kernel
theorem dX11_write_146 : decode cX11_write 146 = .ok (.aload_n 0, 1) := by decide +kernel
theorem dX11_write_147 : decode cX11_write 147 = .ok (.ldc_w 541, 3) := by decide +kernel
theorem dX11_write_150 : decode cX11_write 150 = .ok (.invokevirtual 537, 3) := by decide +kernel
theorem dX11_write_153 : decode cX11_write 153 = .ok (.aload_n 0, 1) := by decide +kernel
theorem dX11_write_154 : decode cX11_write 154 = .ok (.getfield 526, 3) := by decide +kernel
theorem dX11_write_157 : decode cX11_write 157 = .ok (.ireturn, 1) := by decide +kernel
theorem dX11_octet_0 : decode cX11_octet 0 = .ok (.aload_n 0, 1) := by decide +kernel
theorem dX11_octet_1 : decode cX11_octet 1 = .ok (.iconst 0, 1) := by decide +kernel
theorem dX11_octet_2 : decode cX11_octet 2 = .ok (.putfield 104, 3) := by decide +kernel
theorem dX11_octet_5 : decode cX11_octet 5 = .ok (.iload_n 1, 1) := by decide +kernel
theorem dX11_octet_6 : decode cX11_octet 6 = .ok (.i2l, 1) := by decide +kernel
theorem dX11_octet_7 : decode cX11_octet 7 = .ok (.lconst 0, 1) := by decide +kernel
theorem dX11_octet_8 : decode cX11_octet 8 = .ok (.aload_n 0, 1) := by decide +kernel
theorem dX11_octet_9 : decode cX11_octet 9 = .ok (.getfield 526, 3) := by decide +kernel
theorem dX11_octet_12 : decode cX11_octet 12 = .ok (.iconst 1, 1) := by decide +kernel
theorem dX11_octet_13 : decode cX11_octet 13 = .ok (.isub, 1) := by decide +kernel
theorem dX11_octet_14 : decode cX11_octet 14 = .ok (.i2l, 1) := by decide +kernel
theorem dX11_octet_15 : decode cX11_octet 15 = .ok (.invokestatic 301, 3) := by decide +kernel
theorem dX11_octet_18 : decode cX11_octet 18 = .ok (.ifCond .eq 12, 3) := by decide +kernel
theorem dX11_octet_21 : decode cX11_octet 21 = .ok (.aload_n 0, 1) := by decide +kernel
theorem dX11_octet_22 : decode cX11_octet 22 = .ok (.getfield 101, 3) := by decide +kernel
theorem dX11_octet_25 : decode cX11_octet 25 = .ok (.iload_n 1, 1) := by decide +kernel
theorem dX11_octet_26 : decode cX11_octet 26 = .ok (.iaload, 1) := by decide +kernel
theorem dX11_octet_27 : decode cX11_octet 27 = .ok (.goto 4, 3) := by decide +kernel
theorem dX11_octet_30 : decode cX11_octet 30 = .ok (.iconst (-1), 1) := by decide +kernel
theorem dX11_octet_31 : decode cX11_octet 31 = .ok (.ireturn, 1) := by decide +kernel
theorem dX11_count_0 : decode cX11_count 0 = .ok (.aload_n 0, 1) := by decide +kernel
theorem dX11_count_1 : decode cX11_count 1 = .ok (.iconst 0, 1) := by decide +kernel
theorem dX11_count_2 : decode cX11_count 2 = .ok (.putfield 104, 3) := by decide +kernel
theorem dX11_count_5 : decode cX11_count 5 = .ok (.iconst 0, 1) := by decide +kernel
theorem dX11_count_6 : decode cX11_count 6 = .ok (.istore_n 2, 1) := by decide +kernel
theorem dX11_count_7 : decode cX11_count 7 = .ok (.iload_n 1, 1) := by decide +kernel
theorem dX11_count_8 : decode cX11_count 8 = .ok (.tableswitch 167 0 12 #[68, 73, 78, 86, 167, 167, 167, 167, 167, 167, 123, 128, 133], 68) := by decide +kernel
theorem dX11_count_76 : decode cX11_count 76 = .ok (.aload_n 0, 1) := by decide +kernel
theorem dX11_count_77 : decode cX11_count 77 = .ok (.getfield 288, 3) := by decide +kernel
theorem dX11_count_80 : decode cX11_count 80 = .ok (.ireturn, 1) := by decide +kernel
theorem dX11_count_81 : decode cX11_count 81 = .ok (.aload_n 0, 1) := by decide +kernel
theorem dX11_count_82 : decode cX11_count 82 = .ok (.getfield 291, 3) := by decide +kernel
theorem dX11_count_85 : decode cX11_count 85 = .ok (.ireturn, 1) := by decide +kernel
theorem dX11_count_86 : decode cX11_count 86 = .ok (.aload_n 0, 1) := by decide +kernel
theorem dX11_count_87 : decode cX11_count 87 = .ok (.getfield 7, 3) := by decide +kernel
theorem dX11_count_90 : decode cX11_count 90 = .ok (.bipush 34, 2) := by decide +kernel
theorem dX11_count_92 : decode cX11_count 92 = .ok (.iaload, 1) := by decide +kernel
theorem dX11_count_93 : decode cX11_count 93 = .ok (.ireturn, 1) := by decide +kernel
theorem dX11_count_94 : decode cX11_count 94 = .ok (.iconst 0, 1) := by decide +kernel
theorem dX11_count_95 : decode cX11_count 95 = .ok (.istore_n 3, 1) := by decide +kernel
theorem dX11_count_96 : decode cX11_count 96 = .ok (.iload_n 3, 1) := by decide +kernel
theorem dX11_count_97 : decode cX11_count 97 = .ok (.aload_n 0, 1) := by decide +kernel
theorem dX11_count_98 : decode cX11_count 98 = .ok (.getfield 7, 3) := by decide +kernel
theorem dX11_count_101 : decode cX11_count 101 = .ok (.bipush 34, 2) := by decide +kernel
theorem dX11_count_103 : decode cX11_count 103 = .ok (.iaload, 1) := by decide +kernel
theorem dX11_count_104 : decode cX11_count 104 = .ok (.if_icmp .ge 25, 3) := by decide +kernel
theorem dX11_count_107 : decode cX11_count 107 = .ok (.iload_n 2, 1) := by decide +kernel
theorem dX11_count_108 : decode cX11_count 108 = .ok (.aload_n 0, 1) := by decide +kernel
theorem dX11_count_109 : decode cX11_count 109 = .ok (.iload_n 3, 1) := by decide +kernel
theorem dX11_count_110 : decode cX11_count 110 = .ok (.invokevirtual 341, 3) := by decide +kernel
theorem dX11_count_113 : decode cX11_count 113 = .ok (.ifCond .eq 7, 3) := by decide +kernel
theorem dX11_count_116 : decode cX11_count 116 = .ok (.iconst 1, 1) := by decide +kernel
theorem dX11_count_117 : decode cX11_count 117 = .ok (.goto 4, 3) := by decide +kernel
theorem dX11_count_120 : decode cX11_count 120 = .ok (.iconst 0, 1) := by decide +kernel
theorem dX11_count_121 : decode cX11_count 121 = .ok (.iadd, 1) := by decide +kernel
theorem dX11_count_122 : decode cX11_count 122 = .ok (.istore_n 2, 1) := by decide +kernel
theorem dX11_count_123 : decode cX11_count 123 = .ok (.iinc 3 1, 3) := by decide +kernel
theorem dX11_count_126 : decode cX11_count 126 = .ok (.goto (-30), 3) := by decide +kernel
theorem dX11_count_129 : decode cX11_count 129 = .ok (.iload_n 2, 1) := by decide +kernel
theorem dX11_count_130 : decode cX11_count 130 = .ok (.ireturn, 1) := by decide +kernel
theorem dX11_count_131 : decode cX11_count 131 = .ok (.aload_n 0, 1) := by decide +kernel
theorem dX11_count_132 : decode cX11_count 132 = .ok (.getfield 294, 3) := by decide +kernel
theorem dX11_count_135 : decode cX11_count 135 = .ok (.ireturn, 1) := by decide +kernel
theorem dX11_count_136 : decode cX11_count 136 = .ok (.aload_n 0, 1) := by decide +kernel
theorem dX11_count_137 : decode cX11_count 137 = .ok (.getfield 526, 3) := by decide +kernel
theorem dX11_count_140 : decode cX11_count 140 = .ok (.ireturn, 1) := by decide +kernel
theorem dX11_count_141 : decode cX11_count 141 = .ok (.iconst 0, 1) := by decide +kernel
theorem dX11_count_142 : decode cX11_count 142 = .ok (.istore_n 3, 1) := by decide +kernel
theorem dX11_count_143 : decode cX11_count 143 = .ok (.iload_n 3, 1) := by decide +kernel
theorem dX11_count_144 : decode cX11_count 144 = .ok (.aload_n 0, 1) := by decide +kernel
theorem dX11_count_145 : decode cX11_count 145 = .ok (.getfield 291, 3) := by decide +kernel
theorem dX11_count_148 : decode cX11_count 148 = .ok (.if_icmp .ge 25, 3) := by decide +kernel
theorem dX11_count_151 : decode cX11_count 151 = .ok (.iload_n 2, 1) := by decide +kernel
theorem dX11_count_152 : decode cX11_count 152 = .ok (.aload_n 0, 1) := by decide +kernel
theorem dX11_count_153 : decode cX11_count 153 = .ok (.iload_n 3, 1) := by decide +kernel
theorem dX11_count_154 : decode cX11_count 154 = .ok (.invokevirtual 473, 3) := by decide +kernel
theorem dX11_count_157 : decode cX11_count 157 = .ok (.ifCond .eq 7, 3) := by decide +kernel
theorem dX11_count_160 : decode cX11_count 160 = .ok (.iconst 1, 1) := by decide +kernel
theorem dX11_count_161 : decode cX11_count 161 = .ok (.goto 4, 3) := by decide +kernel
theorem dX11_count_164 : decode cX11_count 164 = .ok (.iconst 0, 1) := by decide +kernel
theorem dX11_count_165 : decode cX11_count 165 = .ok (.iadd, 1) := by decide +kernel
theorem dX11_count_166 : decode cX11_count 166 = .ok (.istore_n 2, 1) := by decide +kernel
theorem dX11_count_167 : decode cX11_count 167 = .ok (.iinc 3 1, 3) := by decide +kernel
theorem dX11_count_170 : decode cX11_count 170 = .ok (.goto (-27), 3) := by decide +kernel
theorem dX11_count_173 : decode cX11_count 173 = .ok (.iload_n 2, 1) := by decide +kernel
theorem dX11_count_174 : decode cX11_count 174 = .ok (.ireturn, 1) := by decide +kernel
theorem dX11_count_175 : decode cX11_count 175 = .ok (.iload_n 1, 1) := by decide +kernel
theorem dX11_count_176 : decode cX11_count 176 = .ok (.i2l, 1) := by decide +kernel
theorem dX11_count_177 : decode cX11_count 177 = .ok (.ldc2_w 543, 3) := by decide +kernel
theorem dX11_count_180 : decode cX11_count 180 = .ok (.ldc2_w 545, 3) := by decide +kernel
theorem dX11_count_183 : decode cX11_count 183 = .ok (.invokestatic 301, 3) := by decide +kernel
theorem dX11_count_186 : decode cX11_count 186 = .ok (.ifCond .eq 17, 3) := by decide +kernel
theorem dX11_count_189 : decode cX11_count 189 = .ok (.aload_n 0, 1) := by decide +kernel
theorem dX11_count_190 : decode cX11_count 190 = .ok (.getfield 7, 3) := by decide +kernel
theorem dX11_count_193 : decode cX11_count 193 = .ok (.bipush 28, 2) := by decide +kernel
theorem dX11_count_195 : decode cX11_count 195 = .ok (.iload_n 1, 1) := by decide +kernel
theorem dX11_count_196 : decode cX11_count 196 = .ok (.iadd, 1) := by decide +kernel
theorem dX11_count_197 : decode cX11_count 197 = .ok (.iconst 4, 1) := by decide +kernel
theorem dX11_count_198 : decode cX11_count 198 = .ok (.isub, 1) := by decide +kernel
theorem dX11_count_199 : decode cX11_count 199 = .ok (.iaload, 1) := by decide +kernel
theorem dX11_count_200 : decode cX11_count 200 = .ok (.goto 4, 3) := by decide +kernel
theorem dX11_count_203 : decode cX11_count 203 = .ok (.iconst (-1), 1) := by decide +kernel
theorem dX11_count_204 : decode cX11_count 204 = .ok (.ireturn, 1) := by decide +kernel
