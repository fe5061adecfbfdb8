theorem dX10_init_0 : decode cX10_init 0 = .ok (.aload_n 0, 1) := by decide +kernel
theorem dX10_init_1 : decode cX10_init 1 = .ok (.invokespecial 1, 3) := by decide +kernel
theorem dX10_init_4 : decode cX10_init 4 = .ok (.aload_n 0, 1) := by decide +kernel
theorem dX10_init_5 : decode cX10_init 5 = .ok (.new 7, 3) := by decide +kernel
theorem dX10_init_8 : decode cX10_init 8 = .ok (.dup, 1) := by decide +kernel
theorem dX10_init_9 : decode cX10_init 9 = .ok (.invokespecial 9, 3) := by decide +kernel
theorem dX10_init_12 : decode cX10_init 12 = .ok (.putfield 10, 3) := by decide +kernel
theorem dX10_init_15 : decode cX10_init 15 = .ok (.aload_n 0, 1) := by decide +kernel
theorem dX10_init_16 : decode cX10_init 16 = .ok (.new 7, 3) := by decide +kernel
theorem dX10_init_19 : decode cX10_init 19 = .ok (.dup, 1) := by decide +kernel
theorem dX10_init_20 : decode cX10_init 20 = .ok (.invokespecial 9, 3) := by decide +kernel
theorem dX10_init_23 : decode cX10_init 23 = .ok (.putfield 16, 3) := by decide +kernel
theorem dX10_init_26 : decode cX10_init 26 = .ok (.aload_n 0, 1) := by decide +kernel
theorem dX10_init_27 : decode cX10_init 27 = .ok (.new 19, 3) := by decide +kernel
theorem dX10_init_30 : decode cX10_init 30 = .ok (.dup, 1) := by decide +kernel
theorem dX10_init_31 : decode cX10_init 31 = .ok (.aload_n 0, 1) := by decide +kernel
theorem dX10_init_32 : decode cX10_init 32 = .ok (.getfield 16, 3) := by decide +kernel
theorem dX10_init_35 : decode cX10_init 35 = .ok (.invokespecial 21, 3) := by decide +kernel
theorem dX10_init_38 : decode cX10_init 38 = .ok (.putfield 24, 3) := by decide +kernel
theorem dX10_init_41 : decode cX10_init 41 = .ok (.aload_n 0, 1) := by decide +kernel
theorem dX10_init_42 : decode cX10_init 42 = .ok (.new 28, 3) := by decide +kernel
theorem dX10_init_45 : decode cX10_init 45 = .ok (.dup, 1) := by decide +kernel
theorem dX10_init_46 : decode cX10_init 46 = .ok (.invokespecial 30, 3) := by decide +kernel
theorem dX10_init_49 : decode cX10_init 49 = .ok (.putfield 31, 3) := by decide +kernel
theorem dX10_init_52 : decode cX10_init 52 = .ok (.aload_n 0, 1) := by decide +kernel
theorem dX10_init_53 : decode cX10_init 53 = .ok (.new 35, 3) := by decide +kernel
theorem dX10_init_56 : decode cX10_init 56 = .ok (.dup, 1) := by decide +kernel
theorem dX10_init_57 : decode cX10_init 57 = .ok (.aload_n 0, 1) := by decide +kernel
theorem dX10_init_58 : decode cX10_init 58 = .ok (.getfield 10, 3) := by decide +kernel
theorem dX10_init_61 : decode cX10_init 61 = .ok (.invokespecial 37, 3) := by decide +kernel
theorem dX10_init_64 : decode cX10_init 64 = .ok (.putfield 38, 3) := by decide +kernel
theorem dX10_init_67 : decode cX10_init 67 = .ok (.aload_n 0, 1) := by decide +kernel
theorem dX10_init_68 : decode cX10_init 68 = .ok (.new 42, 3) := by decide +kernel
theorem dX10_init_71 : decode cX10_init 71 = .ok (.dup, 1) := by decide +kernel
theorem dX10_init_72 : decode cX10_init 72 = .ok (.aload_n 0, 1) := by decide +kernel
theorem dX10_init_73 : decode cX10_init 73 = .ok (.getfield 38, 3) := by decide +kernel
theorem dX10_init_76 : decode cX10_init 76 = .ok (.invokespecial 44, 3) := by decide +kernel
theorem dX10_init_79 : decode cX10_init 79 = .ok (.putfield 47, 3) := by decide +kernel
theorem dX10_init_82 : decode cX10_init 82 = .ok (.aload_n 0, 1) := by decide +kernel
theorem dX10_init_83 : decode cX10_init 83 = .ok (.new 51, 3) := by decide +kernel
theorem dX10_init_86 : decode cX10_init 86 = .ok (.dup, 1) := by decide +kernel
theorem dX10_init_87 : decode cX10_init 87 = .ok (.aload_n 0, 1) := by decide +kernel
theorem dX10_init_88 : decode cX10_init 88 = .ok (.getfield 47, 3) := by decide +kernel
theorem dX10_init_91 : decode cX10_init 91 = .ok (.invokespecial 53, 3) := by decide +kernel
theorem dX10_init_94 : decode cX10_init 94 = .ok (.putfield 56, 3) := by decide +kernel
theorem dX10_init_97 : decode cX10_init 97 = .ok (.aload_n 0, 1) := by decide +kernel
theorem dX10_init_98 : decode cX10_init 98 = .ok (.new 60, 3) := by decide +kernel
theorem dX10_init_101 : decode cX10_init 101 = .ok (.dup, 1) := by decide +kernel
theorem dX10_init_102 : decode cX10_init 102 = .ok (.invokespecial 62, 3) := by decide +kernel
theorem dX10_init_105 : decode cX10_init 105 = .ok (.putfield 63, 3) := by decide +kernel
theorem dX10_init_108 : decode cX10_init 108 = .ok (.return_, 1) := by decide +kernel
theorem dX10_feed_0 : decode cX10_feed 0 = .ok (.aload_n 0, 1) := by decide +kernel
theorem dX10_feed_1 : decode cX10_feed 1 = .ok (.getfield 24, 3) := by decide +kernel
theorem dX10_feed_4 : decode cX10_feed 4 = .ok (.getfield 67, 3) := by decide +kernel
theorem dX10_feed_7 : decode cX10_feed 7 = .ok (.bipush 20, 2) := by decide +kernel
theorem dX10_feed_9 : decode cX10_feed 9 = .ok (.iadd, 1) := by decide +kernel
theorem dX10_feed_10 : decode cX10_feed 10 = .ok (.sipush 400, 3) := by decide +kernel
theorem dX10_feed_13 : decode cX10_feed 13 = .ok (.if_icmp .le 5, 3) := by decide +kernel
theorem dX10_feed_16 : decode cX10_feed 16 = .ok (.iconst (-1), 1) := by decide +kernel
theorem dX10_feed_17 : decode cX10_feed 17 = .ok (.ireturn, 1) := by decide +kernel
theorem dX10_feed_18 : decode cX10_feed 18 = .ok (.aload_n 0, 1) := by decide +kernel
theorem dX10_feed_19 : decode cX10_feed 19 = .ok (.getfield 24, 3) := by decide +kernel
theorem dX10_feed_22 : decode cX10_feed 22 = .ok (.iload_n 1, 1) := by decide +kernel
theorem dX10_feed_23 : decode cX10_feed 23 = .ok (.invokevirtual 71, 3) := by decide +kernel
theorem dX10_feed_26 : decode cX10_feed 26 = .ok (.aload_n 0, 1) := by decide +kernel
theorem dX10_feed_27 : decode cX10_feed 27 = .ok (.getfield 24, 3) := by decide +kernel
theorem dX10_feed_30 : decode cX10_feed 30 = .ok (.iload_n 2, 1) := by decide +kernel
theorem dX10_feed_31 : decode cX10_feed 31 = .ok (.invokevirtual 71, 3) := by decide +kernel
theorem dX10_feed_34 : decode cX10_feed 34 = .ok (.aload_n 0, 1) := by decide +kernel
theorem dX10_feed_35 : decode cX10_feed 35 = .ok (.getfield 24, 3) := by decide +kernel
theorem dX10_feed_38 : decode cX10_feed 38 = .ok (.iload_n 3, 1) := by decide +kernel
theorem dX10_feed_39 : decode cX10_feed 39 = .ok (.invokevirtual 71, 3) := by decide +kernel
theorem dX10_feed_42 : decode cX10_feed 42 = .ok (.aload_n 0, 1) := by decide +kernel
theorem dX10_feed_43 : decode cX10_feed 43 = .ok (.getfield 24, 3) := by decide +kernel
theorem dX10_feed_46 : decode cX10_feed 46 = .ok (.iload 4, 2) := by decide +kernel
theorem dX10_feed_48 : decode cX10_feed 48 = .ok (.invokevirtual 71, 3) := by decide +kernel
theorem dX10_feed_51 : decode cX10_feed 51 = .ok (.aload_n 0, 1) := by decide +kernel
theorem dX10_feed_52 : decode cX10_feed 52 = .ok (.getfield 24, 3) := by decide +kernel
theorem dX10_feed_55 : decode cX10_feed 55 = .ok (.iload 5, 2) := by decide +kernel
theorem dX10_feed_57 : decode cX10_feed 57 = .ok (.invokevirtual 71, 3) := by decide +kernel
theorem dX10_feed_60 : decode cX10_feed 60 = .ok (.aload_n 0, 1) := by decide +kernel
theorem dX10_feed_61 : decode cX10_feed 61 = .ok (.getfield 24, 3) := by decide +kernel
theorem dX10_feed_64 : decode cX10_feed 64 = .ok (.getfield 67, 3) := by decide +kernel
theorem dX10_feed_67 : decode cX10_feed 67 = .ok (.ireturn, 1) := by decide +kernel
theorem dX10_end_0 : decode cX10_end 0 = .ok (.iload_n 1, 1) := by decide +kernel
theorem dX10_end_1 : decode cX10_end 1 = .ok (.ifCond .lt 14, 3) := by decide +kernel
theorem dX10_end_4 : decode cX10_end 4 = .ok (.iload_n 1, 1) := by decide +kernel
theorem dX10_end_5 : decode cX10_end 5 = .ok (.aload_n 0, 1) := by decide +kernel
theorem dX10_end_6 : decode cX10_end 6 = .ok (.getfield 24, 3) := by decide +kernel
theorem dX10_end_9 : decode cX10_end 9 = .ok (.getfield 67, 3) := by decide +kernel
theorem dX10_end_12 : decode cX10_end 12 = .ok (.if_icmp .le 5, 3) := by decide +kernel
theorem dX10_end_15 : decode cX10_end 15 = .ok (.iconst 0, 1) := by decide +kernel
theorem dX10_end_16 : decode cX10_end 16 = .ok (.ireturn, 1) := by decide +kernel
theorem dX10_end_17 : decode cX10_end 17 = .ok (.aload_n 0, 1) := by decide +kernel
theorem dX10_end_18 : decode cX10_end 18 = .ok (.getfield 24, 3) := by decide +kernel
theorem dX10_end_21 : decode cX10_end 21 = .ok (.iload_n 1, 1) := by decide +kernel
theorem dX10_end_22 : decode cX10_end 22 = .ok (.putfield 67, 3) := by decide +kernel
theorem dX10_end_25 : decode cX10_end 25 = .ok (.iconst 1, 1) := by decide +kernel
theorem dX10_end_26 : decode cX10_end 26 = .ok (.ireturn, 1) := by decide +kernel
theorem dX10_read_0 : decode cX10_read 0 = .ok (.aload_n 0, 1) := by decide +kernel
theorem dX10_read_1 : decode cX10_read 1 = .ok (.getfield 24, 3) := by decide +kernel
theorem dX10_read_4 : decode cX10_read 4 = .ok (.aload_n 0, 1) := by decide +kernel
theorem dX10_read_5 : decode cX10_read 5 = .ok (.getfield 16, 3) := by decide +kernel
theorem dX10_read_8 : decode cX10_read 8 = .ok (.invokevirtual 75, 3) := by decide +kernel
theorem dX10_read_11 : decode cX10_read 11 = .ok (.aload_n 0, 1) := by decide +kernel
theorem dX10_read_12 : decode cX10_read 12 = .ok (.getfield 24, 3) := by decide +kernel
theorem dX10_read_15 : decode cX10_read 15 = .ok (.iconst 0, 1) := by decide +kernel
theorem dX10_read_16 : decode cX10_read 16 = .ok (.putfield 67, 3) := by decide +kernel
theorem dX10_read_19 : decode cX10_read 19 = .ok (.aload_n 0, 1) := by decide +kernel
theorem dX10_read_20 : decode cX10_read 20 = .ok (.getfield 24, 3) := by decide +kernel
theorem dX10_read_23 : decode cX10_read 23 = .ok (.getfield 78, 3) := by decide +kernel
theorem dX10_read_26 : decode cX10_read 26 = .ok (.iconst (-1), 1) := by decide +kernel
theorem dX10_read_27 : decode cX10_read 27 = .ok (.if_icmp .eq 13, 3) := by decide +kernel
theorem dX10_read_30 : decode cX10_read 30 = .ok (.new 81, 3) := by decide +kernel
theorem dX10_read_33 : decode cX10_read 33 = .ok (.dup, 1) := by decide +kernel
theorem dX10_read_34 : decode cX10_read 34 = .ok (.ldc 83, 2) := by decide +kernel
theorem dX10_read_36 : decode cX10_read 36 = .ok (.invokespecial 85, 3) := by decide +kernel
theorem dX10_read_39 : decode cX10_read 39 = .ok (.athrow, 1) := by decide +kernel
theorem dX10_read_40 : decode cX10_read 40 = .ok (.aload_n 0, 1) := by decide +kernel
theorem dX10_read_41 : decode cX10_read 41 = .ok (.getfield 10, 3) := by decide +kernel
theorem dX10_read_44 : decode cX10_read 44 = .ok (.astore_n 1, 1) := by decide +kernel
theorem dX10_read_45 : decode cX10_read 45 = .ok (.aload_n 0, 1) := by decide +kernel
theorem dX10_read_46 : decode cX10_read 46 = .ok (.aload_n 0, 1) := by decide +kernel
theorem dX10_read_47 : decode cX10_read 47 = .ok (.getfield 16, 3) := by decide +kernel
theorem dX10_read_50 : decode cX10_read 50 = .ok (.putfield 10, 3) := by decide +kernel
theorem dX10_read_53 : decode cX10_read 53 = .ok (.aload_n 0, 1) := by decide +kernel
theorem dX10_read_54 : decode cX10_read 54 = .ok (.aload_n 1, 1) := by decide +kernel
theorem dX10_read_55 : decode cX10_read 55 = .ok (.putfield 16, 3) := by decide +kernel
theorem dX10_read_58 : decode cX10_read 58 = .ok (.aload_n 0, 1) := by decide +kernel
theorem dX10_read_59 : decode cX10_read 59 = .ok (.getfield 31, 3) := by decide +kernel
theorem dX10_read_62 : decode cX10_read 62 = .ok (.iconst 0, 1) := by decide +kernel
theorem dX10_read_63 : decode cX10_read 63 = .ok (.putfield 88, 3) := by decide +kernel
theorem dX10_read_66 : decode cX10_read 66 = .ok (.aload_n 0, 1) := by decide +kernel
theorem dX10_read_67 : decode cX10_read 67 = .ok (.getfield 10, 3) := by decide +kernel
theorem dX10_read_70 : decode cX10_read 70 = .ok (.getfield 91, 3) := by decide +kernel
theorem dX10_read_73 : decode cX10_read 73 = .ok (.getfield 95, 3) := by decide +kernel
theorem dX10_read_76 : decode cX10_read 76 = .ok (.ireturn, 1) := by decide +kernel
theorem dX10_fault_0 : decode cX10_fault 0 = .ok (.aload_n 0, 1) := by decide +kernel
theorem dX10_fault_1 : decode cX10_fault 1 = .ok (.getfield 24, 3) := by decide +kernel
theorem dX10_fault_4 : decode cX10_fault 4 = .ok (.getfield 78, 3) := by decide +kernel
theorem dX10_fault_7 : decode cX10_fault 7 = .ok (.ireturn, 1) := by decide +kernel
theorem dX10_name_0 : decode cX10_name 0 = .ok (.iload_n 1, 1) := by decide +kernel
theorem dX10_name_1 : decode cX10_name 1 = .ok (.ifCond .eq 21, 3) := by decide +kernel
theorem dX10_name_4 : decode cX10_name 4 = .ok (.aload_n 0, 1) := by decide +kernel
theorem dX10_name_5 : decode cX10_name 5 = .ok (.iload_n 2, 1) := by decide +kernel
theorem dX10_name_6 : decode cX10_name 6 = .ok (.invokevirtual 98, 3) := by decide +kernel
theorem dX10_name_9 : decode cX10_name 9 = .ok (.aload_n 0, 1) := by decide +kernel
theorem dX10_name_10 : decode cX10_name 10 = .ok (.getfield 10, 3) := by decide +kernel
theorem dX10_name_13 : decode cX10_name 13 = .ok (.getfield 101, 3) := by decide +kernel
theorem dX10_name_16 : decode cX10_name 16 = .ok (.iload_n 2, 1) := by decide +kernel
theorem dX10_name_17 : decode cX10_name 17 = .ok (.iload_n 3, 1) := by decide +kernel
theorem dX10_name_18 : decode cX10_name 18 = .ok (.invokevirtual 105, 3) := by decide +kernel
theorem dX10_name_21 : decode cX10_name 21 = .ok (.ireturn, 1) := by decide +kernel
theorem dX10_name_22 : decode cX10_name 22 = .ok (.aload_n 0, 1) := by decide +kernel
theorem dX10_name_23 : decode cX10_name 23 = .ok (.iload_n 2, 1) := by decide +kernel
theorem dX10_name_24 : decode cX10_name 24 = .ok (.invokevirtual 111, 3) := by decide +kernel
theorem dX10_name_27 : decode cX10_name 27 = .ok (.aload_n 0, 1) := by decide +kernel
theorem dX10_name_28 : decode cX10_name 28 = .ok (.getfield 10, 3) := by decide +kernel
theorem dX10_name_31 : decode cX10_name 31 = .ok (.getfield 114, 3) := by decide +kernel
theorem dX10_name_34 : decode cX10_name 34 = .ok (.iload_n 2, 1) := by decide +kernel
theorem dX10_name_35 : decode cX10_name 35 = .ok (.iload_n 3, 1) := by decide +kernel
theorem dX10_name_36 : decode cX10_name 36 = .ok (.invokevirtual 105, 3) := by decide +kernel
theorem dX10_name_39 : decode cX10_name 39 = .ok (.ireturn, 1) := by decide +kernel
theorem dX10_model_0 : decode cX10_model 0 = .ok (.aload_n 0, 1) := by decide +kernel
theorem dX10_model_1 : decode cX10_model 1 = .ok (.iload_n 1, 1) := by decide +kernel
theorem dX10_model_2 : decode cX10_model 2 = .ok (.invokevirtual 111, 3) := by decide +kernel
theorem dX10_model_5 : decode cX10_model 5 = .ok (.iload_n 2, 1) := by decide +kernel
theorem dX10_model_6 : decode cX10_model 6 = .ok (.tableswitch 56 0 2 #[26, 36, 46], 26) := by decide +kernel
theorem dX10_model_32 : decode cX10_model 32 = .ok (.aload_n 0, 1) := by decide +kernel
theorem dX10_model_33 : decode cX10_model 33 = .ok (.getfield 10, 3) := by decide +kernel
theorem dX10_model_36 : decode cX10_model 36 = .ok (.getfield 117, 3) := by decide +kernel
theorem dX10_model_39 : decode cX10_model 39 = .ok (.iload_n 1, 1) := by decide +kernel
theorem dX10_model_40 : decode cX10_model 40 = .ok (.iaload, 1) := by decide +kernel
theorem dX10_model_41 : decode cX10_model 41 = .ok (.ireturn, 1) := by decide +kernel
theorem dX10_model_42 : decode cX10_model 42 = .ok (.aload_n 0, 1) := by decide +kernel
theorem dX10_model_43 : decode cX10_model 43 = .ok (.getfield 10, 3) := by decide +kernel
theorem dX10_model_46 : decode cX10_model 46 = .ok (.getfield 121, 3) := by decide +kernel
theorem dX10_model_49 : decode cX10_model 49 = .ok (.iload_n 1, 1) := by decide +kernel
theorem dX10_model_50 : decode cX10_model 50 = .ok (.iaload, 1) := by decide +kernel
theorem dX10_model_51 : decode cX10_model 51 = .ok (.ireturn, 1) := by decide +kernel
theorem dX10_model_52 : decode cX10_model 52 = .ok (.aload_n 0, 1) := by decide +kernel
theorem dX10_model_53 : decode cX10_model 53 = .ok (.getfield 10, 3) := by decide +kernel
theorem dX10_model_56 : decode cX10_model 56 = .ok (.getfield 124, 3) := by decide +kernel
theorem dX10_model_59 : decode cX10_model 59 = .ok (.iload_n 1, 1) := by decide +kernel
theorem dX10_model_60 : decode cX10_model 60 = .ok (.iaload, 1) := by decide +kernel
theorem dX10_model_61 : decode cX10_model 61 = .ok (.ireturn, 1) := by decide +kernel
theorem dX10_model_62 : decode cX10_model 62 = .ok (.new 127, 3) := by decide +kernel
theorem dX10_model_65 : decode cX10_model 65 = .ok (.dup, 1) := by decide +kernel
theorem dX10_model_66 : decode cX10_model 66 = .ok (.ldc 129, 2) := by decide +kernel
theorem dX10_model_68 : decode cX10_model 68 = .ok (.invokespecial 131, 3) := by decide +kernel
theorem dX10_model_71 : decode cX10_model 71 = .ok (.athrow, 1) := by decide +kernel
theorem dX10_cost_0 : decode cX10_cost 0 = .ok (.aload_n 0, 1) := by decide +kernel
theorem dX10_cost_1 : decode cX10_cost 1 = .ok (.iload_n 1, 1) := by decide +kernel
theorem dX10_cost_2 : decode cX10_cost 2 = .ok (.invokevirtual 98, 3) := by decide +kernel
theorem dX10_cost_5 : decode cX10_cost 5 = .ok (.aload_n 0, 1) := by decide +kernel
theorem dX10_cost_6 : decode cX10_cost 6 = .ok (.iload_n 2, 1) := by decide +kernel
theorem dX10_cost_7 : decode cX10_cost 7 = .ok (.invokevirtual 111, 3) := by decide +kernel
theorem dX10_cost_10 : decode cX10_cost 10 = .ok (.aload_n 0, 1) := by decide +kernel
theorem dX10_cost_11 : decode cX10_cost 11 = .ok (.getfield 10, 3) := by decide +kernel
theorem dX10_cost_14 : decode cX10_cost 14 = .ok (.iload_n 1, 1) := by decide +kernel
theorem dX10_cost_15 : decode cX10_cost 15 = .ok (.iload_n 2, 1) := by decide +kernel
theorem dX10_cost_16 : decode cX10_cost 16 = .ok (.invokevirtual 132, 3) := by decide +kernel
theorem dX10_cost_19 : decode cX10_cost 19 = .ok (.ireturn, 1) := by decide +kernel
theorem dX10_sale_0 : decode cX10_sale 0 = .ok (.aload_n 0, 1) := by decide +kernel
theorem dX10_sale_1 : decode cX10_sale 1 = .ok (.iload_n 1, 1) := by decide +kernel
theorem dX10_sale_2 : decode cX10_sale 2 = .ok (.invokevirtual 135, 3) := by decide +kernel
theorem dX10_sale_5 : decode cX10_sale 5 = .ok (.aload_n 0, 1) := by decide +kernel
theorem dX10_sale_6 : decode cX10_sale 6 = .ok (.getfield 10, 3) := by decide +kernel
theorem dX10_sale_9 : decode cX10_sale 9 = .ok (.getfield 91, 3) := by decide +kernel
theorem dX10_sale_12 : decode cX10_sale 12 = .ok (.astore_n 3, 1) := by decide +kernel
theorem dX10_sale_13 : decode cX10_sale 13 = .ok (.iload_n 2, 1) := by decide +kernel
theorem dX10_sale_14 : decode cX10_sale 14 = .ok (.tableswitch 191 0 10 #[58, 65, 72, 79, 86, 93, 100, 107, 114, 121, 156], 58) := by decide +kernel
theorem dX10_sale_72 : decode cX10_sale 72 = .ok (.aload_n 3, 1) := by decide +kernel
theorem dX10_sale_73 : decode cX10_sale 73 = .ok (.getfield 138, 3) := by decide +kernel
theorem dX10_sale_76 : decode cX10_sale 76 = .ok (.iload_n 1, 1) := by decide +kernel
theorem dX10_sale_77 : decode cX10_sale 77 = .ok (.iaload, 1) := by decide +kernel
theorem dX10_sale_78 : decode cX10_sale 78 = .ok (.ireturn, 1) := by decide +kernel
theorem dX10_sale_79 : decode cX10_sale 79 = .ok (.aload_n 3, 1) := by decide +kernel
theorem dX10_sale_80 : decode cX10_sale 80 = .ok (.getfield 141, 3) := by decide +kernel
theorem dX10_sale_83 : decode cX10_sale 83 = .ok (.iload_n 1, 1) := by decide +kernel
theorem dX10_sale_84 : decode cX10_sale 84 = .ok (.iaload, 1) := by decide +kernel
theorem dX10_sale_85 : decode cX10_sale 85 = .ok (.ireturn, 1) := by decide +kernel
theorem dX10_sale_86 : decode cX10_sale 86 = .ok (.aload_n 3, 1) := by decide +kernel
theorem dX10_sale_87 : decode cX10_sale 87 = .ok (.getfield 144, 3) := by decide +kernel
theorem dX10_sale_90 : decode cX10_sale 90 = .ok (.iload_n 1, 1) := by decide +kernel
theorem dX10_sale_91 : decode cX10_sale 91 = .ok (.iaload, 1) := by decide +kernel
theorem dX10_sale_92 : decode cX10_sale 92 = .ok (.ireturn, 1) := by decide +kernel
theorem dX10_sale_93 : decode cX10_sale 93 = .ok (.aload_n 3, 1) := by decide +kernel
theorem dX10_sale_94 : decode cX10_sale 94 = .ok (.getfield 147, 3) := by decide +kernel
theorem dX10_sale_97 : decode cX10_sale 97 = .ok (.iload_n 1, 1) := by decide +kernel
theorem dX10_sale_98 : decode cX10_sale 98 = .ok (.iaload, 1) := by decide +kernel
theorem dX10_sale_99 : decode cX10_sale 99 = .ok (.ireturn, 1) := by decide +kernel
theorem dX10_sale_100 : decode cX10_sale 100 = .ok (.aload_n 3, 1) := by decide +kernel
theorem dX10_sale_101 : decode cX10_sale 101 = .ok (.getfield 150, 3) := by decide +kernel
theorem dX10_sale_104 : decode cX10_sale 104 = .ok (.iload_n 1, 1) := by decide +kernel
theorem dX10_sale_105 : decode cX10_sale 105 = .ok (.iaload, 1) := by decide +kernel
theorem dX10_sale_106 : decode cX10_sale 106 = .ok (.ireturn, 1) := by decide +kernel
theorem dX10_sale_107 : decode cX10_sale 107 = .ok (.aload_n 3, 1) := by decide +kernel
theorem dX10_sale_108 : decode cX10_sale 108 = .ok (.getfield 153, 3) := by decide +kernel
theorem dX10_sale_111 : decode cX10_sale 111 = .ok (.iload_n 1, 1) := by decide +kernel
theorem dX10_sale_112 : decode cX10_sale 112 = .ok (.iaload, 1) := by decide +kernel
theorem dX10_sale_113 : decode cX10_sale 113 = .ok (.ireturn, 1) := by decide +kernel
theorem dX10_sale_114 : decode cX10_sale 114 = .ok (.aload_n 3, 1) := by decide +kernel
theorem dX10_sale_115 : decode cX10_sale 115 = .ok (.getfield 156, 3) := by decide +kernel
theorem dX10_sale_118 : decode cX10_sale 118 = .ok (.iload_n 1, 1) := by decide +kernel
theorem dX10_sale_119 : decode cX10_sale 119 = .ok (.iaload, 1) := by decide +kernel
theorem dX10_sale_120 : decode cX10_sale 120 = .ok (.ireturn, 1) := by decide +kernel
theorem dX10_sale_121 : decode cX10_sale 121 = .ok (.aload_n 3, 1) := by decide +kernel
theorem dX10_sale_122 : decode cX10_sale 122 = .ok (.getfield 159, 3) := by decide +kernel
theorem dX10_sale_125 : decode cX10_sale 125 = .ok (.iload_n 1, 1) := by decide +kernel
theorem dX10_sale_126 : decode cX10_sale 126 = .ok (.iaload, 1) := by decide +kernel
theorem dX10_sale_127 : decode cX10_sale 127 = .ok (.ireturn, 1) := by decide +kernel
theorem dX10_sale_128 : decode cX10_sale 128 = .ok (.aload_n 3, 1) := by decide +kernel
theorem dX10_sale_129 : decode cX10_sale 129 = .ok (.getfield 162, 3) := by decide +kernel
theorem dX10_sale_132 : decode cX10_sale 132 = .ok (.iload_n 1, 1) := by decide +kernel
theorem dX10_sale_133 : decode cX10_sale 133 = .ok (.iaload, 1) := by decide +kernel
theorem dX10_sale_134 : decode cX10_sale 134 = .ok (.ireturn, 1) := by decide +kernel
theorem dX10_sale_135 : decode cX10_sale 135 = .ok (.aload_n 0, 1) := by decide +kernel
theorem dX10_sale_136 : decode cX10_sale 136 = .ok (.getfield 38, 3) := by decide +kernel
theorem dX10_sale_139 : decode cX10_sale 139 = .ok (.aload_n 0, 1) := by decide +kernel
theorem dX10_sale_140 : decode cX10_sale 140 = .ok (.getfield 10, 3) := by decide +kernel
theorem dX10_sale_143 : decode cX10_sale 143 = .ok (.aload_n 3, 1) := by decide +kernel
theorem dX10_sale_144 : decode cX10_sale 144 = .ok (.getfield 141, 3) := by decide +kernel
theorem dX10_sale_147 : decode cX10_sale 147 = .ok (.iload_n 1, 1) := by decide +kernel
theorem dX10_sale_148 : decode cX10_sale 148 = .ok (.iaload, 1) := by decide +kernel
theorem dX10_sale_149 : decode cX10_sale 149 = .ok (.invokevirtual 165, 3) := by decide +kernel
theorem dX10_sale_152 : decode cX10_sale 152 = .ok (.aload_n 0, 1) := by decide +kernel
theorem dX10_sale_153 : decode cX10_sale 153 = .ok (.getfield 38, 3) := by decide +kernel
theorem dX10_sale_156 : decode cX10_sale 156 = .ok (.getfield 169, 3) := by decide +kernel
theorem dX10_sale_159 : decode cX10_sale 159 = .ok (.iload_n 1, 1) := by decide +kernel
theorem dX10_sale_160 : decode cX10_sale 160 = .ok (.baload, 1) := by decide +kernel
theorem dX10_sale_161 : decode cX10_sale 161 = .ok (.ifCond .eq 7, 3) := by decide +kernel
theorem dX10_sale_164 : decode cX10_sale 164 = .ok (.iconst 1, 1) := by decide +kernel
theorem dX10_sale_165 : decode cX10_sale 165 = .ok (.goto 4, 3) := by decide +kernel
theorem dX10_sale_168 : decode cX10_sale 168 = .ok (.iconst 0, 1) := by decide +kernel
theorem dX10_sale_169 : decode cX10_sale 169 = .ok (.ireturn, 1) := by decide +kernel
theorem dX10_sale_170 : decode cX10_sale 170 = .ok (.aload_n 0, 1) := by decide +kernel
theorem dX10_sale_171 : decode cX10_sale 171 = .ok (.getfield 38, 3) := by decide +kernel
theorem dX10_sale_174 : decode cX10_sale 174 = .ok (.aload_n 0, 1) := by decide +kernel
theorem dX10_sale_175 : decode cX10_sale 175 = .ok (.getfield 10, 3) := by decide +kernel
theorem dX10_sale_178 : decode cX10_sale 178 = .ok (.aload_n 3, 1) := by decide +kernel
theorem dX10_sale_179 : decode cX10_sale 179 = .ok (.getfield 141, 3) := by decide +kernel
theorem dX10_sale_182 : decode cX10_sale 182 = .ok (.iload_n 1, 1) := by decide +kernel
theorem dX10_sale_183 : decode cX10_sale 183 = .ok (.iaload, 1) := by decide +kernel
theorem dX10_sale_184 : decode cX10_sale 184 = .ok (.invokevirtual 165, 3) := by decide +kernel
theorem dX10_sale_187 : decode cX10_sale 187 = .ok (.aload_n 0, 1) := by decide +kernel
theorem dX10_sale_188 : decode cX10_sale 188 = .ok (.getfield 38, 3) := by decide +kernel
theorem dX10_sale_191 : decode cX10_sale 191 = .ok (.getfield 173, 3) := by decide +kernel
theorem dX10_sale_194 : decode cX10_sale 194 = .ok (.iload_n 1, 1) := by decide +kernel
theorem dX10_sale_195 : decode cX10_sale 195 = .ok (.baload, 1) := by decide +kernel
theorem dX10_sale_196 : decode cX10_sale 196 = .ok (.ifCond .eq 7, 3) := by decide +kernel
theorem dX10_sale_199 : decode cX10_sale 199 = .ok (.iconst 1, 1) := by decide +kernel
theorem dX10_sale_200 : decode cX10_sale 200 = .ok (.goto 4, 3) := by decide +kernel
theorem dX10_sale_203 : decode cX10_sale 203 = .ok (.iconst 0, 1) := by decide +kernel
theorem dX10_sale_204 : decode cX10_sale 204 = .ok (.ireturn, 1) := by decide +kernel
theorem dX10_sale_205 : decode cX10_sale 205 = .ok (.new 127, 3) := by decide +kernel
theorem dX10_sale_208 : decode cX10_sale 208 = .ok (.dup, 1) := by decide +kernel
theorem dX10_sale_209 : decode cX10_sale 209 = .ok (.ldc 176, 2) := by decide +kernel
theorem dX10_sale_211 : decode cX10_sale 211 = .ok (.invokespecial 131, 3) := by decide +kernel
theorem dX10_sale_214 : decode cX10_sale 214 = .ok (.athrow, 1) := by decide +kernel
theorem dX10_put_0 : decode cX10_put 0 = .ok (.aload_n 0, 1) := by decide +kernel
theorem dX10_put_1 : decode cX10_put 1 = .ok (.iload_n 2, 1) := by decide +kernel
theorem dX10_put_2 : decode cX10_put 2 = .ok (.invokevirtual 98, 3) := by decide +kernel
theorem dX10_put_5 : decode cX10_put 5 = .ok (.aload_n 0, 1) := by decide +kernel
theorem dX10_put_6 : decode cX10_put 6 = .ok (.iload_n 3, 1) := by decide +kernel
theorem dX10_put_7 : decode cX10_put 7 = .ok (.invokevirtual 111, 3) := by decide +kernel
theorem dX10_put_10 : decode cX10_put 10 = .ok (.iload_n 1, 1) := by decide +kernel
theorem dX10_put_11 : decode cX10_put 11 = .ok (.iconst 0, 1) := by decide +kernel
theorem dX10_put_12 : decode cX10_put 12 = .ok (.iconst 2, 1) := by decide +kernel
theorem dX10_put_13 : decode cX10_put 13 = .ok (.invokestatic 178, 3) := by decide +kernel
theorem dX10_put_16 : decode cX10_put 16 = .ok (.iload 4, 2) := by decide +kernel
theorem dX10_put_18 : decode cX10_put 18 = .ok (.iconst 0, 1) := by decide +kernel
theorem dX10_put_19 : decode cX10_put 19 = .ok (.iconst 3, 1) := by decide +kernel
theorem dX10_put_20 : decode cX10_put 20 = .ok (.invokestatic 178, 3) := by decide +kernel
theorem dX10_put_23 : decode cX10_put 23 = .ok (.iload 5, 2) := by decide +kernel
theorem dX10_put_25 : decode cX10_put 25 = .ok (.iconst 0, 1) := by decide +kernel
theorem dX10_put_26 : decode cX10_put 26 = .ok (.bipush 11, 2) := by decide +kernel
theorem dX10_put_28 : decode cX10_put 28 = .ok (.invokestatic 178, 3) := by decide +kernel
theorem dX10_put_31 : decode cX10_put 31 = .ok (.iload 6, 2) := by decide +kernel
theorem dX10_put_33 : decode cX10_put 33 = .ok (.iconst 1, 1) := by decide +kernel
theorem dX10_put_34 : decode cX10_put 34 = .ok (.sipush 999, 3) := by decide +kernel
theorem dX10_put_37 : decode cX10_put 37 = .ok (.invokestatic 178, 3) := by decide +kernel
theorem dX10_put_40 : decode cX10_put 40 = .ok (.iload 7, 2) := by decide +kernel
theorem dX10_put_42 : decode cX10_put 42 = .ok (.iconst 1, 1) := by decide +kernel
theorem dX10_put_43 : decode cX10_put 43 = .ok (.sipush 9999, 3) := by decide +kernel
theorem dX10_put_46 : decode cX10_put 46 = .ok (.invokestatic 178, 3) := by decide +kernel
theorem dX10_put_49 : decode cX10_put 49 = .ok (.aload_n 0, 1) := by decide +kernel
theorem dX10_put_50 : decode cX10_put 50 = .ok (.getfield 10, 3) := by decide +kernel
theorem dX10_put_53 : decode cX10_put 53 = .ok (.getfield 91, 3) := by decide +kernel
theorem dX10_put_56 : decode cX10_put 56 = .ok (.getfield 95, 3) := by decide +kernel
theorem dX10_put_59 : decode cX10_put 59 = .ok (.bipush 40, 2) := by decide +kernel
theorem dX10_put_61 : decode cX10_put 61 = .ok (.if_icmp .lt 13, 3) := by decide +kernel
theorem dX10_put_64 : decode cX10_put 64 = .ok (.new 182, 3) := by decide +kernel
theorem dX10_put_67 : decode cX10_put 67 = .ok (.dup, 1) := by decide +kernel
theorem dX10_put_68 : decode cX10_put 68 = .ok (.ldc 184, 2) := by decide +kernel
theorem dX10_put_70 : decode cX10_put 70 = .ok (.invokespecial 186, 3) := by decide +kernel
theorem dX10_put_73 : decode cX10_put 73 = .ok (.athrow, 1) := by decide +kernel
theorem dX10_put_74 : decode cX10_put 74 = .ok (.aload_n 0, 1) := by decide +kernel
theorem dX10_put_75 : decode cX10_put 75 = .ok (.getfield 10, 3) := by decide +kernel
theorem dX10_put_78 : decode cX10_put 78 = .ok (.getfield 91, 3) := by decide +kernel
theorem dX10_put_81 : decode cX10_put 81 = .ok (.getfield 95, 3) := by decide +kernel
theorem dX10_put_84 : decode cX10_put 84 = .ok (.istore 8, 2) := by decide +kernel
theorem dX10_put_86 : decode cX10_put 86 = .ok (.aload_n 0, 1) := by decide +kernel
theorem dX10_put_87 : decode cX10_put 87 = .ok (.getfield 10, 3) := by decide +kernel
theorem dX10_put_90 : decode cX10_put 90 = .ok (.getfield 91, 3) := by decide +kernel
theorem dX10_put_93 : decode cX10_put 93 = .ok (.iload_n 1, 1) := by decide +kernel
theorem dX10_put_94 : decode cX10_put 94 = .ok (.iload_n 2, 1) := by decide +kernel
theorem dX10_put_95 : decode cX10_put 95 = .ok (.iload_n 3, 1) := by decide +kernel
theorem dX10_put_96 : decode cX10_put 96 = .ok (.iload 4, 2) := by decide +kernel
theorem dX10_put_98 : decode cX10_put 98 = .ok (.iload 5, 2) := by decide +kernel
theorem dX10_put_100 : decode cX10_put 100 = .ok (.iload 6, 2) := by decide +kernel
theorem dX10_put_102 : decode cX10_put 102 = .ok (.iload 7, 2) := by decide +kernel
theorem dX10_put_104 : decode cX10_put 104 = .ok (.invokevirtual 187, 3) := by decide +kernel
theorem dX10_put_107 : decode cX10_put 107 = .ok (.aload_n 0, 1) := by decide +kernel
theorem dX10_put_108 : decode cX10_put 108 = .ok (.getfield 10, 3) := by decide +kernel
theorem dX10_put_111 : decode cX10_put 111 = .ok (.iload 8, 2) := by decide +kernel
theorem dX10_put_113 : decode cX10_put 113 = .ok (.invokevirtual 191, 3) := by decide +kernel
theorem dX10_put_116 : decode cX10_put 116 = .ok (.aload_n 0, 1) := by decide +kernel
theorem dX10_put_117 : decode cX10_put 117 = .ok (.getfield 31, 3) := by decide +kernel
theorem dX10_put_120 : decode cX10_put 120 = .ok (.iconst 0, 1) := by decide +kernel
theorem dX10_put_121 : decode cX10_put 121 = .ok (.iload 8, 2) := by decide +kernel
theorem dX10_put_123 : decode cX10_put 123 = .ok (.iconst 0, 1) := by decide +kernel
theorem dX10_put_124 : decode cX10_put 124 = .ok (.invokevirtual 194, 3) := by decide +kernel
theorem dX10_put_127 : decode cX10_put 127 = .ok (.iload 8, 2) := by decide +kernel
theorem dX10_put_129 : decode cX10_put 129 = .ok (.ireturn, 1) := by decide +kernel
theorem dX10_drop_0 : decode cX10_drop 0 = .ok (.aload_n 0, 1) := by decide +kernel
theorem dX10_drop_1 : decode cX10_drop 1 = .ok (.iload_n 1, 1) := by decide +kernel
theorem dX10_drop_2 : decode cX10_drop 2 = .ok (.invokevirtual 135, 3) := by decide +kernel
theorem dX10_drop_5 : decode cX10_drop 5 = .ok (.aload_n 0, 1) := by decide +kernel
theorem dX10_drop_6 : decode cX10_drop 6 = .ok (.getfield 10, 3) := by decide +kernel
theorem dX10_drop_9 : decode cX10_drop 9 = .ok (.getfield 91, 3) := by decide +kernel
theorem dX10_drop_12 : decode cX10_drop 12 = .ok (.getfield 197, 3) := by decide +kernel
theorem dX10_drop_15 : decode cX10_drop 15 = .ok (.iload_n 1, 1) := by decide +kernel
theorem dX10_drop_16 : decode cX10_drop 16 = .ok (.iconst 0, 1) := by decide +kernel
theorem dX10_drop_17 : decode cX10_drop 17 = .ok (.bastore, 1) := by decide +kernel
theorem dX10_drop_18 : decode cX10_drop 18 = .ok (.aload_n 0, 1) := by decide +kernel
theorem dX10_drop_19 : decode cX10_drop 19 = .ok (.getfield 31, 3) := by decide +kernel
theorem dX10_drop_22 : decode cX10_drop 22 = .ok (.iconst 1, 1) := by decide +kernel
theorem dX10_drop_23 : decode cX10_drop 23 = .ok (.iload_n 1, 1) := by decide +kernel
theorem dX10_drop_24 : decode cX10_drop 24 = .ok (.iconst 0, 1) := by decide +kernel
theorem dX10_drop_25 : decode cX10_drop 25 = .ok (.invokevirtual 194, 3) := by decide +kernel
theorem dX10_drop_28 : decode cX10_drop 28 = .ok (.return_, 1) := by decide +kernel
theorem dX10_price_0 : decode cX10_price 0 = .ok (.aload_n 0, 1) := by decide +kernel
theorem dX10_price_1 : decode cX10_price 1 = .ok (.iload_n 1, 1) := by decide +kernel
theorem dX10_price_2 : decode cX10_price 2 = .ok (.invokevirtual 135, 3) := by decide +kernel
theorem dX10_price_5 : decode cX10_price 5 = .ok (.iload_n 2, 1) := by decide +kernel
theorem dX10_price_6 : decode cX10_price 6 = .ok (.iconst 1, 1) := by decide +kernel
theorem dX10_price_7 : decode cX10_price 7 = .ok (.sipush 9999, 3) := by decide +kernel
theorem dX10_price_10 : decode cX10_price 10 = .ok (.invokestatic 178, 3) := by decide +kernel
theorem dX10_price_13 : decode cX10_price 13 = .ok (.aload_n 0, 1) := by decide +kernel
theorem dX10_price_14 : decode cX10_price 14 = .ok (.getfield 10, 3) := by decide +kernel
theorem dX10_price_17 : decode cX10_price 17 = .ok (.getfield 91, 3) := by decide +kernel
theorem dX10_price_20 : decode cX10_price 20 = .ok (.getfield 156, 3) := by decide +kernel
theorem dX10_price_23 : decode cX10_price 23 = .ok (.iload_n 1, 1) := by decide +kernel
theorem dX10_price_24 : decode cX10_price 24 = .ok (.iaload, 1) := by decide +kernel
theorem dX10_price_25 : decode cX10_price 25 = .ok (.istore_n 3, 1) := by decide +kernel
theorem dX10_price_26 : decode cX10_price 26 = .ok (.aload_n 0, 1) := by decide +kernel
theorem dX10_price_27 : decode cX10_price 27 = .ok (.getfield 10, 3) := by decide +kernel
theorem dX10_price_30 : decode cX10_price 30 = .ok (.iload_n 1, 1) := by decide +kernel
theorem dX10_price_31 : decode cX10_price 31 = .ok (.iload_n 2, 1) := by decide +kernel
theorem dX10_price_32 : decode cX10_price 32 = .ok (.invokevirtual 200, 3) := by decide +kernel
theorem dX10_price_35 : decode cX10_price 35 = .ok (.aload_n 0, 1) := by decide +kernel
theorem dX10_price_36 : decode cX10_price 36 = .ok (.getfield 31, 3) := by decide +kernel
theorem dX10_price_39 : decode cX10_price 39 = .ok (.iconst 2, 1) := by decide +kernel
theorem dX10_price_40 : decode cX10_price 40 = .ok (.iload_n 1, 1) := by decide +kernel
theorem dX10_price_41 : decode cX10_price 41 = .ok (.iload_n 3, 1) := by decide +kernel
theorem dX10_price_42 : decode cX10_price 42 = .ok (.invokevirtual 194, 3) := by decide +kernel
theorem dX10_price_45 : decode cX10_price 45 = .ok (.iload_n 3, 1) := by decide +kernel
theorem dX10_price_46 : decode cX10_price 46 = .ok (.ireturn, 1) := by decide +kernel
theorem dX10_costs_0 : decode cX10_costs 0 = .ok (.aload_n 0, 1) := by decide +kernel
theorem dX10_costs_1 : decode cX10_costs 1 = .ok (.iload_n 1, 1) := by decide +kernel
theorem dX10_costs_2 : decode cX10_costs 2 = .ok (.invokevirtual 98, 3) := by decide +kernel
theorem dX10_costs_5 : decode cX10_costs 5 = .ok (.aload_n 0, 1) := by decide +kernel
theorem dX10_costs_6 : decode cX10_costs 6 = .ok (.iload_n 2, 1) := by decide +kernel
theorem dX10_costs_7 : decode cX10_costs 7 = .ok (.invokevirtual 111, 3) := by decide +kernel
theorem dX10_costs_10 : decode cX10_costs 10 = .ok (.iload_n 3, 1) := by decide +kernel
theorem dX10_costs_11 : decode cX10_costs 11 = .ok (.iconst 1, 1) := by decide +kernel
theorem dX10_costs_12 : decode cX10_costs 12 = .ok (.sipush 9999, 3) := by decide +kernel
theorem dX10_costs_15 : decode cX10_costs 15 = .ok (.invokestatic 178, 3) := by decide +kernel
theorem dX10_costs_18 : decode cX10_costs 18 = .ok (.aload_n 0, 1) := by decide +kernel
theorem dX10_costs_19 : decode cX10_costs 19 = .ok (.getfield 10, 3) := by decide +kernel
theorem dX10_costs_22 : decode cX10_costs 22 = .ok (.iload_n 1, 1) := by decide +kernel
theorem dX10_costs_23 : decode cX10_costs 23 = .ok (.iload_n 2, 1) := by decide +kernel
theorem dX10_costs_24 : decode cX10_costs 24 = .ok (.invokevirtual 132, 3) := by decide +kernel
theorem dX10_costs_27 : decode cX10_costs 27 = .ok (.istore 4, 2) := by decide +kernel
theorem dX10_costs_29 : decode cX10_costs 29 = .ok (.iload_n 1, 1) := by decide +kernel
theorem dX10_costs_30 : decode cX10_costs 30 = .ok (.bipush 6, 2) := by decide +kernel
theorem dX10_costs_32 : decode cX10_costs 32 = .ok (.imul, 1) := by decide +kernel
theorem dX10_costs_33 : decode cX10_costs 33 = .ok (.iload_n 2, 1) := by decide +kernel
theorem dX10_costs_34 : decode cX10_costs 34 = .ok (.iadd, 1) := by decide +kernel
theorem dX10_costs_35 : decode cX10_costs 35 = .ok (.istore 5, 2) := by decide +kernel
theorem dX10_costs_37 : decode cX10_costs 37 = .ok (.aload_n 0, 1) := by decide +kernel
theorem dX10_costs_38 : decode cX10_costs 38 = .ok (.getfield 31, 3) := by decide +kernel
theorem dX10_costs_41 : decode cX10_costs 41 = .ok (.iconst 3, 1) := by decide +kernel
theorem dX10_costs_42 : decode cX10_costs 42 = .ok (.iload 5, 2) := by decide +kernel
theorem dX10_costs_44 : decode cX10_costs 44 = .ok (.aload_n 0, 1) := by decide +kernel
theorem dX10_costs_45 : decode cX10_costs 45 = .ok (.getfield 10, 3) := by decide +kernel
theorem dX10_costs_48 : decode cX10_costs 48 = .ok (.getfield 204, 3) := by decide +kernel
theorem dX10_costs_51 : decode cX10_costs 51 = .ok (.iload 5, 2) := by decide +kernel
theorem dX10_costs_53 : decode cX10_costs 53 = .ok (.iaload, 1) := by decide +kernel
theorem dX10_costs_54 : decode cX10_costs 54 = .ok (.invokevirtual 194, 3) := by decide +kernel
theorem dX10_costs_57 : decode cX10_costs 57 = .ok (.aload_n 0, 1) := by decide +kernel
theorem dX10_costs_58 : decode cX10_costs 58 = .ok (.getfield 10, 3) := by decide +kernel
theorem dX10_costs_61 : decode cX10_costs 61 = .ok (.iload 5, 2) := by decide +kernel
theorem dX10_costs_63 : decode cX10_costs 63 = .ok (.iload_n 3, 1) := by decide +kernel
theorem dX10_costs_64 : decode cX10_costs 64 = .ok (.invokevirtual 207, 3) := by decide +kernel
theorem dX10_costs_67 : decode cX10_costs 67 = .ok (.iload 4, 2) := by decide +kernel
theorem dX10_costs_69 : decode cX10_costs 69 = .ok (.ireturn, 1) := by decide +kernel
theorem dX10_set_0 : decode cX10_set 0 = .ok (.iload_n 1, 1) := by decide +kernel
theorem dX10_set_1 : decode cX10_set 1 = .ok (.ifCond .lt 9, 3) := by decide +kernel
theorem dX10_set_4 : decode cX10_set 4 = .ok (.iload_n 1, 1) := by decide +kernel
theorem dX10_set_5 : decode cX10_set 5 = .ok (.bipush 6, 2) := by decide +kernel
theorem dX10_set_7 : decode cX10_set 7 = .ok (.if_icmp .lt 13, 3) := by decide +kernel
theorem dX10_set_10 : decode cX10_set 10 = .ok (.new 127, 3) := by decide +kernel
theorem dX10_set_13 : decode cX10_set 13 = .ok (.dup, 1) := by decide +kernel
theorem dX10_set_14 : decode cX10_set 14 = .ok (.ldc 210, 2) := by decide +kernel
theorem dX10_set_16 : decode cX10_set 16 = .ok (.invokespecial 131, 3) := by decide +kernel
theorem dX10_set_19 : decode cX10_set 19 = .ok (.athrow, 1) := by decide +kernel
theorem dX10_set_20 : decode cX10_set 20 = .ok (.iload_n 2, 1) := by decide +kernel
theorem dX10_set_21 : decode cX10_set 21 = .ok (.iconst 0, 1) := by decide +kernel
theorem dX10_set_22 : decode cX10_set 22 = .ok (.iload_n 1, 1) := by decide +kernel
theorem dX10_set_23 : decode cX10_set 23 = .ok (.invokestatic 212, 3) := by decide +kernel
theorem dX10_set_26 : decode cX10_set 26 = .ok (.invokestatic 178, 3) := by decide +kernel
theorem dX10_set_29 : decode cX10_set 29 = .ok (.aload_n 0, 1) := by decide +kernel
theorem dX10_set_30 : decode cX10_set 30 = .ok (.getfield 10, 3) := by decide +kernel
theorem dX10_set_33 : decode cX10_set 33 = .ok (.getfield 216, 3) := by decide +kernel
theorem dX10_set_36 : decode cX10_set 36 = .ok (.iload_n 1, 1) := by decide +kernel
theorem dX10_set_37 : decode cX10_set 37 = .ok (.iaload, 1) := by decide +kernel
theorem dX10_set_38 : decode cX10_set 38 = .ok (.istore_n 3, 1) := by decide +kernel
theorem dX10_set_39 : decode cX10_set 39 = .ok (.aload_n 0, 1) := by decide +kernel
theorem dX10_set_40 : decode cX10_set 40 = .ok (.getfield 10, 3) := by decide +kernel
theorem dX10_set_43 : decode cX10_set 43 = .ok (.getfield 216, 3) := by decide +kernel
theorem dX10_set_46 : decode cX10_set 46 = .ok (.iload_n 1, 1) := by decide +kernel
theorem dX10_set_47 : decode cX10_set 47 = .ok (.iload_n 2, 1) := by decide +kernel
theorem dX10_set_48 : decode cX10_set 48 = .ok (.iastore, 1) := by decide +kernel
theorem dX10_set_49 : decode cX10_set 49 = .ok (.aload_n 0, 1) := by decide +kernel
theorem dX10_set_50 : decode cX10_set 50 = .ok (.getfield 31, 3) := by decide +kernel
theorem dX10_set_53 : decode cX10_set 53 = .ok (.iconst 4, 1) := by decide +kernel
theorem dX10_set_54 : decode cX10_set 54 = .ok (.iload_n 1, 1) := by decide +kernel
theorem dX10_set_55 : decode cX10_set 55 = .ok (.iload_n 3, 1) := by decide +kernel
theorem dX10_set_56 : decode cX10_set 56 = .ok (.invokevirtual 194, 3) := by decide +kernel
theorem dX10_set_59 : decode cX10_set 59 = .ok (.iload_n 3, 1) := by decide +kernel
theorem dX10_set_60 : decode cX10_set 60 = .ok (.ireturn, 1) := by decide +kernel
theorem dX10_silent_0 : decode cX10_silent 0 = .ok (.aload_n 0, 1) := by decide +kernel
theorem dX10_silent_1 : decode cX10_silent 1 = .ok (.iload_n 1, 1) := by decide +kernel
theorem dX10_silent_2 : decode cX10_silent 2 = .ok (.invokevirtual 98, 3) := by decide +kernel
theorem dX10_silent_5 : decode cX10_silent 5 = .ok (.aload_n 0, 1) := by decide +kernel
theorem dX10_silent_6 : decode cX10_silent 6 = .ok (.getfield 10, 3) := by decide +kernel
theorem dX10_silent_9 : decode cX10_silent 9 = .ok (.getfield 219, 3) := by decide +kernel
theorem dX10_silent_12 : decode cX10_silent 12 = .ok (.iload_n 1, 1) := by decide +kernel
theorem dX10_silent_13 : decode cX10_silent 13 = .ok (.baload, 1) := by decide +kernel
theorem dX10_silent_14 : decode cX10_silent 14 = .ok (.istore_n 3, 1) := by decide +kernel
theorem dX10_silent_15 : decode cX10_silent 15 = .ok (.aload_n 0, 1) := by decide +kernel
theorem dX10_silent_16 : decode cX10_silent 16 = .ok (.getfield 10, 3) := by decide +kernel
theorem dX10_silent_19 : decode cX10_silent 19 = .ok (.getfield 219, 3) := by decide +kernel
theorem dX10_silent_22 : decode cX10_silent 22 = .ok (.iload_n 1, 1) := by decide +kernel
theorem dX10_silent_23 : decode cX10_silent 23 = .ok (.iload_n 2, 1) := by decide +kernel
theorem dX10_silent_24 : decode cX10_silent 24 = .ok (.bastore, 1) := by decide +kernel
theorem dX10_silent_25 : decode cX10_silent 25 = .ok (.aload_n 0, 1) := by decide +kernel
theorem dX10_silent_26 : decode cX10_silent 26 = .ok (.getfield 31, 3) := by decide +kernel
theorem dX10_silent_29 : decode cX10_silent 29 = .ok (.iconst 5, 1) := by decide +kernel
theorem dX10_silent_30 : decode cX10_silent 30 = .ok (.iload_n 1, 1) := by decide +kernel
theorem dX10_silent_31 : decode cX10_silent 31 = .ok (.iload_n 3, 1) := by decide +kernel
theorem dX10_silent_32 : decode cX10_silent 32 = .ok (.ifCond .eq 7, 3) := by decide +kernel
theorem dX10_silent_35 : decode cX10_silent 35 = .ok (.iconst 1, 1) := by decide +kernel
theorem dX10_silent_36 : decode cX10_silent 36 = .ok (.goto 4, 3) := by decide +kernel
theorem dX10_silent_39 : decode cX10_silent 39 = .ok (.iconst 0, 1) := by decide +kernel
theorem dX10_silent_40 : decode cX10_silent 40 = .ok (.invokevirtual 194, 3) := by decide +kernel
theorem dX10_silent_43 : decode cX10_silent 43 = .ok (.iload_n 3, 1) := by decide +kernel
theorem dX10_silent_44 : decode cX10_silent 44 = .ok (.ireturn, 1) := by decide +kernel
theorem dX10_undo_0 : decode cX10_undo 0 = .ok (.aload_n 0, 1) := by decide +kernel
theorem dX10_undo_1 : decode cX10_undo 1 = .ok (.getfield 31, 3) := by decide +kernel
theorem dX10_undo_4 : decode cX10_undo 4 = .ok (.getfield 88, 3) := by decide +kernel
theorem dX10_undo_7 : decode cX10_undo 7 = .ok (.ifCond .ne 5, 3) := by decide +kernel
theorem dX10_undo_10 : decode cX10_undo 10 = .ok (.iconst (-1), 1) := by decide +kernel
theorem dX10_undo_11 : decode cX10_undo 11 = .ok (.ireturn, 1) := by decide +kernel
theorem dX10_undo_12 : decode cX10_undo 12 = .ok (.aload_n 0, 1) := by decide +kernel
theorem dX10_undo_13 : decode cX10_undo 13 = .ok (.getfield 31, 3) := by decide +kernel
theorem dX10_undo_16 : decode cX10_undo 16 = .ok (.aload_n 0, 1) := by decide +kernel
theorem dX10_undo_17 : decode cX10_undo 17 = .ok (.getfield 10, 3) := by decide +kernel
theorem dX10_undo_20 : decode cX10_undo 20 = .ok (.invokevirtual 222, 3) := by decide +kernel
theorem dX10_undo_23 : decode cX10_undo 23 = .ok (.aload_n 0, 1) := by decide +kernel
theorem dX10_undo_24 : decode cX10_undo 24 = .ok (.getfield 31, 3) := by decide +kernel
theorem dX10_undo_27 : decode cX10_undo 27 = .ok (.getfield 88, 3) := by decide +kernel
theorem dX10_undo_30 : decode cX10_undo 30 = .ok (.ireturn, 1) := by decide +kernel
theorem dX10_base_0 : decode cX10_base 0 = .ok (.aload_n 0, 1) := by decide +kernel
theorem dX10_base_1 : decode cX10_base 1 = .ok (.iload_n 1, 1) := by decide +kernel
theorem dX10_base_2 : decode cX10_base 2 = .ok (.invokevirtual 98, 3) := by decide +kernel
theorem dX10_base_5 : decode cX10_base 5 = .ok (.aload_n 0, 1) := by decide +kernel
theorem dX10_base_6 : decode cX10_base 6 = .ok (.getfield 38, 3) := by decide +kernel
theorem dX10_base_9 : decode cX10_base 9 = .ok (.aload_n 0, 1) := by decide +kernel
theorem dX10_base_10 : decode cX10_base 10 = .ok (.getfield 10, 3) := by decide +kernel
theorem dX10_base_13 : decode cX10_base 13 = .ok (.iload_n 1, 1) := by decide +kernel
theorem dX10_base_14 : decode cX10_base 14 = .ok (.invokevirtual 165, 3) := by decide +kernel
theorem dX10_base_17 : decode cX10_base 17 = .ok (.aload_n 0, 1) := by decide +kernel
theorem dX10_base_18 : decode cX10_base 18 = .ok (.getfield 38, 3) := by decide +kernel
theorem dX10_base_21 : decode cX10_base 21 = .ok (.getfield 225, 3) := by decide +kernel
theorem dX10_base_24 : decode cX10_base 24 = .ok (.ireturn, 1) := by decide +kernel
theorem dX10_below_0 : decode cX10_below 0 = .ok (.aload_n 0, 1) := by decide +kernel
theorem dX10_below_1 : decode cX10_below 1 = .ok (.iload_n 1, 1) := by decide +kernel
theorem dX10_below_2 : decode cX10_below 2 = .ok (.invokevirtual 98, 3) := by decide +kernel
theorem dX10_below_5 : decode cX10_below 5 = .ok (.aload_n 0, 1) := by decide +kernel
theorem dX10_below_6 : decode cX10_below 6 = .ok (.iload_n 2, 1) := by decide +kernel
theorem dX10_below_7 : decode cX10_below 7 = .ok (.invokevirtual 111, 3) := by decide +kernel
theorem dX10_below_10 : decode cX10_below 10 = .ok (.aload_n 0, 1) := by decide +kernel
theorem dX10_below_11 : decode cX10_below 11 = .ok (.getfield 38, 3) := by decide +kernel
theorem dX10_below_14 : decode cX10_below 14 = .ok (.aload_n 0, 1) := by decide +kernel
theorem dX10_below_15 : decode cX10_below 15 = .ok (.getfield 10, 3) := by decide +kernel
theorem dX10_below_18 : decode cX10_below 18 = .ok (.iload_n 1, 1) := by decide +kernel
theorem dX10_below_19 : decode cX10_below 19 = .ok (.invokevirtual 165, 3) := by decide +kernel
theorem dX10_below_22 : decode cX10_below 22 = .ok (.iload_n 3, 1) := by decide +kernel
theorem dX10_below_23 : decode cX10_below 23 = .ok (.tableswitch 62 0 2 #[25, 35, 45], 25) := by decide +kernel
theorem dX10_below_48 : decode cX10_below 48 = .ok (.aload_n 0, 1) := by decide +kernel
theorem dX10_below_49 : decode cX10_below 49 = .ok (.getfield 38, 3) := by decide +kernel
theorem dX10_below_52 : decode cX10_below 52 = .ok (.getfield 228, 3) := by decide +kernel
theorem dX10_below_55 : decode cX10_below 55 = .ok (.iload_n 2, 1) := by decide +kernel
theorem dX10_below_56 : decode cX10_below 56 = .ok (.iaload, 1) := by decide +kernel
theorem dX10_below_57 : decode cX10_below 57 = .ok (.ireturn, 1) := by decide +kernel
theorem dX10_below_58 : decode cX10_below 58 = .ok (.aload_n 0, 1) := by decide +kernel
theorem dX10_below_59 : decode cX10_below 59 = .ok (.getfield 38, 3) := by decide +kernel
theorem dX10_below_62 : decode cX10_below 62 = .ok (.getfield 231, 3) := by decide +kernel
theorem dX10_below_65 : decode cX10_below 65 = .ok (.iload_n 2, 1) := by decide +kernel
theorem dX10_below_66 : decode cX10_below 66 = .ok (.iaload, 1) := by decide +kernel
theorem dX10_below_67 : decode cX10_below 67 = .ok (.ireturn, 1) := by decide +kernel
theorem dX10_below_68 : decode cX10_below 68 = .ok (.aload_n 0, 1) := by decide +kernel
theorem dX10_below_69 : decode cX10_below 69 = .ok (.getfield 38, 3) := by decide +kernel
theorem dX10_below_72 : decode cX10_below 72 = .ok (.iload_n 2, 1) := by decide +kernel
theorem dX10_below_73 : decode cX10_below 73 = .ok (.invokevirtual 234, 3) := by decide +kernel
theorem dX10_below_76 : decode cX10_below 76 = .ok (.ifCond .eq 7, 3) := by decide +kernel
theorem dX10_below_79 : decode cX10_below 79 = .ok (.iconst 1, 1) := by decide +kernel
theorem dX10_below_80 : decode cX10_below 80 = .ok (.goto 4, 3) := by decide +kernel
theorem dX10_below_83 : decode cX10_below 83 = .ok (.iconst 0, 1) := by decide +kernel
theorem dX10_below_84 : decode cX10_below 84 = .ok (.ireturn, 1) := by decide +kernel
theorem dX10_below_85 : decode cX10_below 85 = .ok (.new 127, 3) := by decide +kernel
theorem dX10_below_88 : decode cX10_below 88 = .ok (.dup, 1) := by decide +kernel
theorem dX10_below_89 : decode cX10_below 89 = .ok (.ldc 238, 2) := by decide +kernel
theorem dX10_below_91 : decode cX10_below 91 = .ok (.invokespecial 131, 3) := by decide +kernel
theorem dX10_below_94 : decode cX10_below 94 = .ok (.athrow, 1) := by decide +kernel
theorem dX10_worth_0 : decode cX10_worth 0 = .ok (.aload_n 0, 1) := by decide +kernel
theorem dX10_worth_1 : decode cX10_worth 1 = .ok (.iload_n 1, 1) := by decide +kernel
theorem dX10_worth_2 : decode cX10_worth 2 = .ok (.invokevirtual 98, 3) := by decide +kernel
theorem dX10_worth_5 : decode cX10_worth 5 = .ok (.aload_n 0, 1) := by decide +kernel
theorem dX10_worth_6 : decode cX10_worth 6 = .ok (.iload_n 2, 1) := by decide +kernel
theorem dX10_worth_7 : decode cX10_worth 7 = .ok (.invokevirtual 111, 3) := by decide +kernel
theorem dX10_worth_10 : decode cX10_worth 10 = .ok (.iload_n 3, 1) := by decide +kernel
theorem dX10_worth_11 : decode cX10_worth 11 = .ok (.iconst 0, 1) := by decide +kernel
theorem dX10_worth_12 : decode cX10_worth 12 = .ok (.iconst 3, 1) := by decide +kernel
theorem dX10_worth_13 : decode cX10_worth 13 = .ok (.invokestatic 178, 3) := by decide +kernel
theorem dX10_worth_16 : decode cX10_worth 16 = .ok (.iload 4, 2) := by decide +kernel
theorem dX10_worth_18 : decode cX10_worth 18 = .ok (.iconst (-1), 1) := by decide +kernel
theorem dX10_worth_19 : decode cX10_worth 19 = .ok (.bipush 11, 2) := by decide +kernel
theorem dX10_worth_21 : decode cX10_worth 21 = .ok (.invokestatic 178, 3) := by decide +kernel
theorem dX10_worth_24 : decode cX10_worth 24 = .ok (.aload_n 0, 1) := by decide +kernel
theorem dX10_worth_25 : decode cX10_worth 25 = .ok (.getfield 38, 3) := by decide +kernel
theorem dX10_worth_28 : decode cX10_worth 28 = .ok (.aload_n 0, 1) := by decide +kernel
theorem dX10_worth_29 : decode cX10_worth 29 = .ok (.getfield 10, 3) := by decide +kernel
theorem dX10_worth_32 : decode cX10_worth 32 = .ok (.iload_n 1, 1) := by decide +kernel
theorem dX10_worth_33 : decode cX10_worth 33 = .ok (.invokevirtual 165, 3) := by decide +kernel
theorem dX10_worth_36 : decode cX10_worth 36 = .ok (.aload_n 0, 1) := by decide +kernel
theorem dX10_worth_37 : decode cX10_worth 37 = .ok (.getfield 38, 3) := by decide +kernel
theorem dX10_worth_40 : decode cX10_worth 40 = .ok (.iload_n 2, 1) := by decide +kernel
theorem dX10_worth_41 : decode cX10_worth 41 = .ok (.iload_n 3, 1) := by decide +kernel
theorem dX10_worth_42 : decode cX10_worth 42 = .ok (.iload 4, 2) := by decide +kernel
theorem dX10_worth_44 : decode cX10_worth 44 = .ok (.invokevirtual 240, 3) := by decide +kernel
theorem dX10_worth_47 : decode cX10_worth 47 = .ok (.lreturn, 1) := by decide +kernel
theorem dX10_found_0 : decode cX10_found 0 = .ok (.aload_n 0, 1) := by decide +kernel
theorem dX10_found_1 : decode cX10_found 1 = .ok (.iload_n 1, 1) := by decide +kernel
theorem dX10_found_2 : decode cX10_found 2 = .ok (.invokevirtual 98, 3) := by decide +kernel
theorem dX10_found_5 : decode cX10_found 5 = .ok (.aload_n 0, 1) := by decide +kernel
theorem dX10_found_6 : decode cX10_found 6 = .ok (.iload_n 2, 1) := by decide +kernel
theorem dX10_found_7 : decode cX10_found 7 = .ok (.invokevirtual 111, 3) := by decide +kernel
theorem dX10_found_10 : decode cX10_found 10 = .ok (.iload_n 3, 1) := by decide +kernel
theorem dX10_found_11 : decode cX10_found 11 = .ok (.iconst 0, 1) := by decide +kernel
theorem dX10_found_12 : decode cX10_found 12 = .ok (.iconst 3, 1) := by decide +kernel
theorem dX10_found_13 : decode cX10_found 13 = .ok (.invokestatic 178, 3) := by decide +kernel
theorem dX10_found_16 : decode cX10_found 16 = .ok (.aload_n 0, 1) := by decide +kernel
theorem dX10_found_17 : decode cX10_found 17 = .ok (.getfield 38, 3) := by decide +kernel
theorem dX10_found_20 : decode cX10_found 20 = .ok (.aload_n 0, 1) := by decide +kernel
theorem dX10_found_21 : decode cX10_found 21 = .ok (.getfield 10, 3) := by decide +kernel
theorem dX10_found_24 : decode cX10_found 24 = .ok (.iload_n 1, 1) := by decide +kernel
theorem dX10_found_25 : decode cX10_found 25 = .ok (.invokevirtual 165, 3) := by decide +kernel
theorem dX10_found_28 : decode cX10_found 28 = .ok (.aload_n 0, 1) := by decide +kernel
theorem dX10_found_29 : decode cX10_found 29 = .ok (.getfield 38, 3) := by decide +kernel
theorem dX10_found_32 : decode cX10_found 32 = .ok (.iload_n 2, 1) := by decide +kernel
theorem dX10_found_33 : decode cX10_found 33 = .ok (.invokevirtual 244, 3) := by decide +kernel
theorem dX10_found_36 : decode cX10_found 36 = .ok (.istore 5, 2) := by decide +kernel
theorem dX10_found_38 : decode cX10_found 38 = .ok (.iload 4, 2) := by decide +kernel
theorem dX10_found_40 : decode cX10_found 40 = .ok (.tableswitch 64 0 2 #[28, 50, 53], 28) := by decide +kernel
theorem dX10_found_68 : decode cX10_found 68 = .ok (.iload 5, 2) := by decide +kernel
theorem dX10_found_70 : decode cX10_found 70 = .ok (.iload_n 2, 1) := by decide +kernel
theorem dX10_found_71 : decode cX10_found 71 = .ok (.if_icmp .ne 7, 3) := by decide +kernel
theorem dX10_found_74 : decode cX10_found 74 = .ok (.iconst 1, 1) := by decide +kernel
theorem dX10_found_75 : decode cX10_found 75 = .ok (.goto 14, 3) := by decide +kernel
theorem dX10_found_78 : decode cX10_found 78 = .ok (.iload 5, 2) := by decide +kernel
theorem dX10_found_80 : decode cX10_found 80 = .ok (.iconst (-1), 1) := by decide +kernel
theorem dX10_found_81 : decode cX10_found 81 = .ok (.if_icmp .ne 7, 3) := by decide +kernel
theorem dX10_found_84 : decode cX10_found 84 = .ok (.iconst 3, 1) := by decide +kernel
theorem dX10_found_85 : decode cX10_found 85 = .ok (.goto 4, 3) := by decide +kernel
theorem dX10_found_88 : decode cX10_found 88 = .ok (.iconst 2, 1) := by decide +kernel
theorem dX10_found_89 : decode cX10_found 89 = .ok (.ireturn, 1) := by decide +kernel
theorem dX10_found_90 : decode cX10_found 90 = .ok (.iload 5, 2) := by decide +kernel
theorem dX10_found_92 : decode cX10_found 92 = .ok (.ireturn, 1) := by decide +kernel
theorem dX10_found_93 : decode cX10_found 93 = .ok (.aload_n 0, 1) := by decide +kernel
theorem dX10_found_94 : decode cX10_found 94 = .ok (.getfield 38, 3) := by decide +kernel
theorem dX10_found_97 : decode cX10_found 97 = .ok (.iload 5, 2) := by decide +kernel
theorem dX10_found_99 : decode cX10_found 99 = .ok (.iload_n 3, 1) := by decide +kernel
theorem dX10_found_100 : decode cX10_found 100 = .ok (.invokevirtual 247, 3) := by decide +kernel
theorem dX10_found_103 : decode cX10_found 103 = .ok (.ireturn, 1) := by decide +kernel
theorem dX10_found_104 : decode cX10_found 104 = .ok (.new 127, 3) := by decide +kernel
theorem dX10_found_107 : decode cX10_found 107 = .ok (.dup, 1) := by decide +kernel
theorem dX10_found_108 : decode cX10_found 108 = .ok (.ldc 250, 2) := by decide +kernel
theorem dX10_found_110 : decode cX10_found 110 = .ok (.invokespecial 131, 3) := by decide +kernel
theorem dX10_found_113 : decode cX10_found 113 = .ok (.athrow, 1) := by decide +kernel
theorem dX10_match_0 : decode cX10_match 0 = .ok (.aload_n 0, 1) := by decide +kernel
theorem dX10_match_1 : decode cX10_match 1 = .ok (.iload_n 1, 1) := by decide +kernel
theorem dX10_match_2 : decode cX10_match 2 = .ok (.invokevirtual 252, 3) := by decide +kernel
theorem dX10_match_5 : decode cX10_match 5 = .ok (.aload_n 0, 1) := by decide +kernel
theorem dX10_match_6 : decode cX10_match 6 = .ok (.getfield 38, 3) := by decide +kernel
theorem dX10_match_9 : decode cX10_match 9 = .ok (.aload_n 0, 1) := by decide +kernel
theorem dX10_match_10 : decode cX10_match 10 = .ok (.getfield 10, 3) := by decide +kernel
theorem dX10_match_13 : decode cX10_match 13 = .ok (.aload_n 0, 1) := by decide +kernel
theorem dX10_match_14 : decode cX10_match 14 = .ok (.getfield 10, 3) := by decide +kernel
theorem dX10_match_17 : decode cX10_match 17 = .ok (.getfield 91, 3) := by decide +kernel
theorem dX10_match_20 : decode cX10_match 20 = .ok (.getfield 141, 3) := by decide +kernel
theorem dX10_match_23 : decode cX10_match 23 = .ok (.iload_n 1, 1) := by decide +kernel
theorem dX10_match_24 : decode cX10_match 24 = .ok (.iaload, 1) := by decide +kernel
theorem dX10_match_25 : decode cX10_match 25 = .ok (.invokevirtual 165, 3) := by decide +kernel
theorem dX10_match_28 : decode cX10_match 28 = .ok (.aload_n 0, 1) := by decide +kernel
theorem dX10_match_29 : decode cX10_match 29 = .ok (.getfield 38, 3) := by decide +kernel
theorem dX10_match_32 : decode cX10_match 32 = .ok (.iload_n 1, 1) := by decide +kernel
theorem dX10_match_33 : decode cX10_match 33 = .ok (.invokevirtual 255, 3) := by decide +kernel
theorem dX10_match_36 : decode cX10_match 36 = .ok (.ireturn, 1) := by decide +kernel
theorem dX10_difference_0 : decode cX10_difference 0 = .ok (.aload_n 0, 1) := by decide +kernel
theorem dX10_difference_1 : decode cX10_difference 1 = .ok (.iload_n 1, 1) := by decide +kernel
theorem dX10_difference_2 : decode cX10_difference 2 = .ok (.invokevirtual 252, 3) := by decide +kernel
theorem dX10_difference_5 : decode cX10_difference 5 = .ok (.iload_n 2, 1) := by decide +kernel
theorem dX10_difference_6 : decode cX10_difference 6 = .ok (.iconst 1, 1) := by decide +kernel
theorem dX10_difference_7 : decode cX10_difference 7 = .ok (.iconst 2, 1) := by decide +kernel
theorem dX10_difference_8 : decode cX10_difference 8 = .ok (.invokestatic 178, 3) := by decide +kernel
theorem dX10_difference_11 : decode cX10_difference 11 = .ok (.aload_n 0, 1) := by decide +kernel
theorem dX10_difference_12 : decode cX10_difference 12 = .ok (.getfield 47, 3) := by decide +kernel
theorem dX10_difference_15 : decode cX10_difference 15 = .ok (.aload_n 0, 1) := by decide +kernel
theorem dX10_difference_16 : decode cX10_difference 16 = .ok (.getfield 10, 3) := by decide +kernel
theorem dX10_difference_19 : decode cX10_difference 19 = .ok (.iload_n 1, 1) := by decide +kernel
theorem dX10_difference_20 : decode cX10_difference 20 = .ok (.iload_n 2, 1) := by decide +kernel
theorem dX10_difference_21 : decode cX10_difference 21 = .ok (.invokevirtual 258, 3) := by decide +kernel
theorem dX10_difference_24 : decode cX10_difference 24 = .ok (.lreturn, 1) := by decide +kernel
theorem dX10_groups_0 : decode cX10_groups 0 = .ok (.aload_n 0, 1) := by decide +kernel
theorem dX10_groups_1 : decode cX10_groups 1 = .ok (.iload_n 1, 1) := by decide +kernel
theorem dX10_groups_2 : decode cX10_groups 2 = .ok (.invokevirtual 98, 3) := by decide +kernel
theorem dX10_groups_5 : decode cX10_groups 5 = .ok (.aload_n 0, 1) := by decide +kernel
theorem dX10_groups_6 : decode cX10_groups 6 = .ok (.getfield 47, 3) := by decide +kernel
theorem dX10_groups_9 : decode cX10_groups 9 = .ok (.aload_n 0, 1) := by decide +kernel
theorem dX10_groups_10 : decode cX10_groups 10 = .ok (.getfield 10, 3) := by decide +kernel
theorem dX10_groups_13 : decode cX10_groups 13 = .ok (.iload_n 1, 1) := by decide +kernel
theorem dX10_groups_14 : decode cX10_groups 14 = .ok (.iconst 0, 1) := by decide +kernel
theorem dX10_groups_15 : decode cX10_groups 15 = .ok (.invokevirtual 262, 3) := by decide +kernel
theorem dX10_groups_18 : decode cX10_groups 18 = .ok (.aload_n 0, 1) := by decide +kernel
theorem dX10_groups_19 : decode cX10_groups 19 = .ok (.getfield 47, 3) := by decide +kernel
theorem dX10_groups_22 : decode cX10_groups 22 = .ok (.getfield 266, 3) := by decide +kernel
theorem dX10_groups_25 : decode cX10_groups 25 = .ok (.ireturn, 1) := by decide +kernel
theorem dX10_group_0 : decode cX10_group 0 = .ok (.aload_n 0, 1) := by decide +kernel
theorem dX10_group_1 : decode cX10_group 1 = .ok (.iload_n 1, 1) := by decide +kernel
theorem dX10_group_2 : decode cX10_group 2 = .ok (.invokevirtual 98, 3) := by decide +kernel
theorem dX10_group_5 : decode cX10_group 5 = .ok (.aload_n 0, 1) := by decide +kernel
theorem dX10_group_6 : decode cX10_group 6 = .ok (.getfield 47, 3) := by decide +kernel
theorem dX10_group_9 : decode cX10_group 9 = .ok (.aload_n 0, 1) := by decide +kernel
theorem dX10_group_10 : decode cX10_group 10 = .ok (.getfield 10, 3) := by decide +kernel
theorem dX10_group_13 : decode cX10_group 13 = .ok (.iload_n 1, 1) := by decide +kernel
theorem dX10_group_14 : decode cX10_group 14 = .ok (.iconst 0, 1) := by decide +kernel
theorem dX10_group_15 : decode cX10_group 15 = .ok (.invokevirtual 262, 3) := by decide +kernel
theorem dX10_group_18 : decode cX10_group 18 = .ok (.iload_n 2, 1) := by decide +kernel
theorem dX10_group_19 : decode cX10_group 19 = .ok (.ifCond .lt 14, 3) := by decide +kernel
theorem dX10_group_22 : decode cX10_group 22 = .ok (.iload_n 2, 1) := by decide +kernel
theorem dX10_group_23 : decode cX10_group 23 = .ok (.aload_n 0, 1) := by decide +kernel
theorem dX10_group_24 : decode cX10_group 24 = .ok (.getfield 47, 3) := by decide +kernel
theorem dX10_group_27 : decode cX10_group 27 = .ok (.getfield 266, 3) := by decide +kernel
theorem dX10_group_30 : decode cX10_group 30 = .ok (.if_icmp .lt 14, 3) := by decide +kernel
theorem dX10_group_33 : decode cX10_group 33 = .ok (.new 127, 3) := by decide +kernel
theorem dX10_group_36 : decode cX10_group 36 = .ok (.dup, 1) := by decide +kernel
theorem dX10_group_37 : decode cX10_group 37 = .ok (.ldc_w 269, 3) := by decide +kernel
theorem dX10_group_40 : decode cX10_group 40 = .ok (.invokespecial 131, 3) := by decide +kernel
theorem dX10_group_43 : decode cX10_group 43 = .ok (.athrow, 1) := by decide +kernel
theorem dX10_group_44 : decode cX10_group 44 = .ok (.aload_n 0, 1) := by decide +kernel
theorem dX10_group_45 : decode cX10_group 45 = .ok (.getfield 47, 3) := by decide +kernel
theorem dX10_group_48 : decode cX10_group 48 = .ok (.getfield 271, 3) := by decide +kernel
theorem dX10_group_51 : decode cX10_group 51 = .ok (.iload_n 2, 1) := by decide +kernel
theorem dX10_group_52 : decode cX10_group 52 = .ok (.iaload, 1) := by decide +kernel
theorem dX10_group_53 : decode cX10_group 53 = .ok (.istore 4, 2) := by decide +kernel
theorem dX10_group_55 : decode cX10_group 55 = .ok (.iload_n 3, 1) := by decide +kernel
theorem dX10_group_56 : decode cX10_group 56 = .ok (.tableswitch 126 0 6 #[44, 59, 74, 85, 96, 106, 116], 44) := by decide +kernel
theorem dX10_group_100 : decode cX10_group 100 = .ok (.aload_n 0, 1) := by decide +kernel
theorem dX10_group_101 : decode cX10_group 101 = .ok (.getfield 10, 3) := by decide +kernel
theorem dX10_group_104 : decode cX10_group 104 = .ok (.getfield 91, 3) := by decide +kernel
theorem dX10_group_107 : decode cX10_group 107 = .ok (.getfield 144, 3) := by decide +kernel
theorem dX10_group_110 : decode cX10_group 110 = .ok (.iload 4, 2) := by decide +kernel
theorem dX10_group_112 : decode cX10_group 112 = .ok (.iaload, 1) := by decide +kernel
theorem dX10_group_113 : decode cX10_group 113 = .ok (.i2l, 1) := by decide +kernel
theorem dX10_group_114 : decode cX10_group 114 = .ok (.lreturn, 1) := by decide +kernel
theorem dX10_group_115 : decode cX10_group 115 = .ok (.aload_n 0, 1) := by decide +kernel
theorem dX10_group_116 : decode cX10_group 116 = .ok (.getfield 10, 3) := by decide +kernel
theorem dX10_group_119 : decode cX10_group 119 = .ok (.getfield 91, 3) := by decide +kernel
theorem dX10_group_122 : decode cX10_group 122 = .ok (.getfield 147, 3) := by decide +kernel
theorem dX10_group_125 : decode cX10_group 125 = .ok (.iload 4, 2) := by decide +kernel
theorem dX10_group_127 : decode cX10_group 127 = .ok (.iaload, 1) := by decide +kernel
theorem dX10_group_128 : decode cX10_group 128 = .ok (.i2l, 1) := by decide +kernel
theorem dX10_group_129 : decode cX10_group 129 = .ok (.lreturn, 1) := by decide +kernel
theorem dX10_group_130 : decode cX10_group 130 = .ok (.aload_n 0, 1) := by decide +kernel
theorem dX10_group_131 : decode cX10_group 131 = .ok (.getfield 10, 3) := by decide +kernel
theorem dX10_group_134 : decode cX10_group 134 = .ok (.iload 4, 2) := by decide +kernel
theorem dX10_group_136 : decode cX10_group 136 = .ok (.invokevirtual 274, 3) := by decide +kernel
theorem dX10_group_139 : decode cX10_group 139 = .ok (.i2l, 1) := by decide +kernel
theorem dX10_group_140 : decode cX10_group 140 = .ok (.lreturn, 1) := by decide +kernel
theorem dX10_group_141 : decode cX10_group 141 = .ok (.aload_n 0, 1) := by decide +kernel
theorem dX10_group_142 : decode cX10_group 142 = .ok (.getfield 47, 3) := by decide +kernel
theorem dX10_group_145 : decode cX10_group 145 = .ok (.getfield 277, 3) := by decide +kernel
theorem dX10_group_148 : decode cX10_group 148 = .ok (.iload_n 2, 1) := by decide +kernel
theorem dX10_group_149 : decode cX10_group 149 = .ok (.iaload, 1) := by decide +kernel
theorem dX10_group_150 : decode cX10_group 150 = .ok (.i2l, 1) := by decide +kernel
theorem dX10_group_151 : decode cX10_group 151 = .ok (.lreturn, 1) := by decide +kernel
theorem dX10_group_152 : decode cX10_group 152 = .ok (.aload_n 0, 1) := by decide +kernel
theorem dX10_group_153 : decode cX10_group 153 = .ok (.getfield 47, 3) := by decide +kernel
theorem dX10_group_156 : decode cX10_group 156 = .ok (.getfield 278, 3) := by decide +kernel
theorem dX10_group_159 : decode cX10_group 159 = .ok (.iload_n 2, 1) := by decide +kernel
theorem dX10_group_160 : decode cX10_group 160 = .ok (.laload, 1) := by decide +kernel
theorem dX10_group_161 : decode cX10_group 161 = .ok (.lreturn, 1) := by decide +kernel
theorem dX10_group_162 : decode cX10_group 162 = .ok (.aload_n 0, 1) := by decide +kernel
theorem dX10_group_163 : decode cX10_group 163 = .ok (.getfield 47, 3) := by decide +kernel
theorem dX10_group_166 : decode cX10_group 166 = .ok (.getfield 282, 3) := by decide +kernel
theorem dX10_group_169 : decode cX10_group 169 = .ok (.iload_n 2, 1) := by decide +kernel
theorem dX10_group_170 : decode cX10_group 170 = .ok (.laload, 1) := by decide +kernel
theorem dX10_group_171 : decode cX10_group 171 = .ok (.lreturn, 1) := by decide +kernel
theorem dX10_group_172 : decode cX10_group 172 = .ok (.aload_n 0, 1) := by decide +kernel
theorem dX10_group_173 : decode cX10_group 173 = .ok (.getfield 47, 3) := by decide +kernel
theorem dX10_group_176 : decode cX10_group 176 = .ok (.iload_n 2, 1) := by decide +kernel
theorem dX10_group_177 : decode cX10_group 177 = .ok (.iconst 0, 1) := by decide +kernel
theorem dX10_group_178 : decode cX10_group 178 = .ok (.invokevirtual 285, 3) := by decide +kernel
theorem dX10_group_181 : decode cX10_group 181 = .ok (.lreturn, 1) := by decide +kernel
theorem dX10_group_182 : decode cX10_group 182 = .ok (.new 127, 3) := by decide +kernel
theorem dX10_group_185 : decode cX10_group 185 = .ok (.dup, 1) := by decide +kernel
theorem dX10_group_186 : decode cX10_group 186 = .ok (.ldc_w 289, 3) := by decide +kernel
theorem dX10_group_189 : decode cX10_group 189 = .ok (.invokespecial 131, 3) := by decide +kernel
theorem dX10_group_192 : decode cX10_group 192 = .ok (.athrow, 1) := by decide +kernel
theorem dX10_sum_0 : decode cX10_sum 0 = .ok (.aload_n 0, 1) := by decide +kernel
theorem dX10_sum_1 : decode cX10_sum 1 = .ok (.iload_n 1, 1) := by decide +kernel
theorem dX10_sum_2 : decode cX10_sum 2 = .ok (.invokevirtual 98, 3) := by decide +kernel
theorem dX10_sum_5 : decode cX10_sum 5 = .ok (.iload_n 2, 1) := by decide +kernel
theorem dX10_sum_6 : decode cX10_sum 6 = .ok (.iconst 0, 1) := by decide +kernel
theorem dX10_sum_7 : decode cX10_sum 7 = .ok (.iconst 2, 1) := by decide +kernel
theorem dX10_sum_8 : decode cX10_sum 8 = .ok (.invokestatic 178, 3) := by decide +kernel
theorem dX10_sum_11 : decode cX10_sum 11 = .ok (.aload_n 0, 1) := by decide +kernel
theorem dX10_sum_12 : decode cX10_sum 12 = .ok (.getfield 47, 3) := by decide +kernel
theorem dX10_sum_15 : decode cX10_sum 15 = .ok (.aload_n 0, 1) := by decide +kernel
theorem dX10_sum_16 : decode cX10_sum 16 = .ok (.getfield 10, 3) := by decide +kernel
theorem dX10_sum_19 : decode cX10_sum 19 = .ok (.iload_n 1, 1) := by decide +kernel
theorem dX10_sum_20 : decode cX10_sum 20 = .ok (.iload_n 2, 1) := by decide +kernel
theorem dX10_sum_21 : decode cX10_sum 21 = .ok (.invokevirtual 262, 3) := by decide +kernel
theorem dX10_sum_24 : decode cX10_sum 24 = .ok (.aload_n 0, 1) := by decide +kernel
theorem dX10_sum_25 : decode cX10_sum 25 = .ok (.getfield 47, 3) := by decide +kernel
theorem dX10_sum_28 : decode cX10_sum 28 = .ok (.iload_n 3, 1) := by decide +kernel
theorem dX10_sum_29 : decode cX10_sum 29 = .ok (.iconst 0, 1) := by decide +kernel
theorem dX10_sum_30 : decode cX10_sum 30 = .ok (.invokevirtual 291, 3) := by decide +kernel
theorem dX10_sum_33 : decode cX10_sum 33 = .ok (.lreturn, 1) := by decide +kernel
theorem dX10_value_0 : decode cX10_value 0 = .ok (.aload_n 0, 1) := by decide +kernel
theorem dX10_value_1 : decode cX10_value 1 = .ok (.iload_n 1, 1) := by decide +kernel
theorem dX10_value_2 : decode cX10_value 2 = .ok (.invokevirtual 98, 3) := by decide +kernel
theorem dX10_value_5 : decode cX10_value 5 = .ok (.aload_n 0, 1) := by decide +kernel
theorem dX10_value_6 : decode cX10_value 6 = .ok (.getfield 10, 3) := by decide +kernel
theorem dX10_value_9 : decode cX10_value 9 = .ok (.getfield 91, 3) := by decide +kernel
theorem dX10_value_12 : decode cX10_value 12 = .ok (.iload_n 1, 1) := by decide +kernel
theorem dX10_value_13 : decode cX10_value 13 = .ok (.invokevirtual 295, 3) := by decide +kernel
theorem dX10_value_16 : decode cX10_value 16 = .ok (.lreturn, 1) := by decide +kernel
theorem dX10_margin_0 : decode cX10_margin 0 = .ok (.aload_n 0, 1) := by decide +kernel
theorem dX10_margin_1 : decode cX10_margin 1 = .ok (.iload_n 1, 1) := by decide +kernel
theorem dX10_margin_2 : decode cX10_margin 2 = .ok (.invokevirtual 98, 3) := by decide +kernel
theorem dX10_margin_5 : decode cX10_margin 5 = .ok (.iload_n 2, 1) := by decide +kernel
theorem dX10_margin_6 : decode cX10_margin 6 = .ok (.iconst 0, 1) := by decide +kernel
theorem dX10_margin_7 : decode cX10_margin 7 = .ok (.iconst 2, 1) := by decide +kernel
theorem dX10_margin_8 : decode cX10_margin 8 = .ok (.invokestatic 178, 3) := by decide +kernel
theorem dX10_margin_11 : decode cX10_margin 11 = .ok (.aload_n 0, 1) := by decide +kernel
theorem dX10_margin_12 : decode cX10_margin 12 = .ok (.getfield 56, 3) := by decide +kernel
theorem dX10_margin_15 : decode cX10_margin 15 = .ok (.aload_n 0, 1) := by decide +kernel
theorem dX10_margin_16 : decode cX10_margin 16 = .ok (.getfield 10, 3) := by decide +kernel
theorem dX10_margin_19 : decode cX10_margin 19 = .ok (.iload_n 1, 1) := by decide +kernel
theorem dX10_margin_20 : decode cX10_margin 20 = .ok (.iload_n 2, 1) := by decide +kernel
theorem dX10_margin_21 : decode cX10_margin 21 = .ok (.iload_n 3, 1) := by decide +kernel
theorem dX10_margin_22 : decode cX10_margin 22 = .ok (.invokevirtual 299, 3) := by decide +kernel
theorem dX10_margin_25 : decode cX10_margin 25 = .ok (.ireturn, 1) := by decide +kernel
theorem dX10_negligible_0 : decode cX10_negligible 0 = .ok (.aload_n 0, 1) := by decide +kernel
theorem dX10_negligible_1 : decode cX10_negligible 1 = .ok (.iload_n 1, 1) := by decide +kernel
theorem dX10_negligible_2 : decode cX10_negligible 2 = .ok (.invokevirtual 98, 3) := by decide +kernel
theorem dX10_negligible_5 : decode cX10_negligible 5 = .ok (.aload_n 0, 1) := by decide +kernel
theorem dX10_negligible_6 : decode cX10_negligible 6 = .ok (.getfield 56, 3) := by decide +kernel
theorem dX10_negligible_9 : decode cX10_negligible 9 = .ok (.aload_n 0, 1) := by decide +kernel
theorem dX10_negligible_10 : decode cX10_negligible 10 = .ok (.getfield 10, 3) := by decide +kernel
theorem dX10_negligible_13 : decode cX10_negligible 13 = .ok (.invokevirtual 303, 3) := by decide +kernel
theorem dX10_negligible_16 : decode cX10_negligible 16 = .ok (.aload_n 0, 1) := by decide +kernel
theorem dX10_negligible_17 : decode cX10_negligible 17 = .ok (.getfield 56, 3) := by decide +kernel
theorem dX10_negligible_20 : decode cX10_negligible 20 = .ok (.getfield 306, 3) := by decide +kernel
theorem dX10_negligible_23 : decode cX10_negligible 23 = .ok (.iload_n 1, 1) := by decide +kernel
theorem dX10_negligible_24 : decode cX10_negligible 24 = .ok (.baload, 1) := by decide +kernel
theorem dX10_negligible_25 : decode cX10_negligible 25 = .ok (.ireturn, 1) := by decide +kernel
theorem dX10_duty_0 : decode cX10_duty 0 = .ok (.aload_n 0, 1) := by decide +kernel
theorem dX10_duty_1 : decode cX10_duty 1 = .ok (.iload_n 1, 1) := by decide +kernel
theorem dX10_duty_2 : decode cX10_duty 2 = .ok (.invokevirtual 98, 3) := by decide +kernel
theorem dX10_duty_5 : decode cX10_duty 5 = .ok (.aload_n 0, 1) := by decide +kernel
theorem dX10_duty_6 : decode cX10_duty 6 = .ok (.getfield 56, 3) := by decide +kernel
theorem dX10_duty_9 : decode cX10_duty 9 = .ok (.aload_n 0, 1) := by decide +kernel
theorem dX10_duty_10 : decode cX10_duty 10 = .ok (.getfield 10, 3) := by decide +kernel
theorem dX10_duty_13 : decode cX10_duty 13 = .ok (.invokevirtual 309, 3) := by decide +kernel
theorem dX10_duty_16 : decode cX10_duty 16 = .ok (.iload_n 2, 1) := by decide +kernel
theorem dX10_duty_17 : decode cX10_duty 17 = .ok (.tableswitch 71 0 3 #[31, 41, 51, 61], 31) := by decide +kernel
theorem dX10_duty_48 : decode cX10_duty 48 = .ok (.aload_n 0, 1) := by decide +kernel
theorem dX10_duty_49 : decode cX10_duty 49 = .ok (.getfield 56, 3) := by decide +kernel
theorem dX10_duty_52 : decode cX10_duty 52 = .ok (.getfield 312, 3) := by decide +kernel
theorem dX10_duty_55 : decode cX10_duty 55 = .ok (.iload_n 1, 1) := by decide +kernel
theorem dX10_duty_56 : decode cX10_duty 56 = .ok (.iaload, 1) := by decide +kernel
theorem dX10_duty_57 : decode cX10_duty 57 = .ok (.ireturn, 1) := by decide +kernel
theorem dX10_duty_58 : decode cX10_duty 58 = .ok (.aload_n 0, 1) := by decide +kernel
theorem dX10_duty_59 : decode cX10_duty 59 = .ok (.getfield 56, 3) := by decide +kernel
theorem dX10_duty_62 : decode cX10_duty 62 = .ok (.getfield 315, 3) := by decide +kernel
theorem dX10_duty_65 : decode cX10_duty 65 = .ok (.iload_n 1, 1) := by decide +kernel
theorem dX10_duty_66 : decode cX10_duty 66 = .ok (.iaload, 1) := by decide +kernel
theorem dX10_duty_67 : decode cX10_duty 67 = .ok (.ireturn, 1) := by decide +kernel
theorem dX10_duty_68 : decode cX10_duty 68 = .ok (.aload_n 0, 1) := by decide +kernel
theorem dX10_duty_69 : decode cX10_duty 69 = .ok (.getfield 56, 3) := by decide +kernel
theorem dX10_duty_72 : decode cX10_duty 72 = .ok (.getfield 318, 3) := by decide +kernel
theorem dX10_duty_75 : decode cX10_duty 75 = .ok (.iload_n 1, 1) := by decide +kernel
theorem dX10_duty_76 : decode cX10_duty 76 = .ok (.iaload, 1) := by decide +kernel
theorem dX10_duty_77 : decode cX10_duty 77 = .ok (.ireturn, 1) := by decide +kernel
theorem dX10_duty_78 : decode cX10_duty 78 = .ok (.aload_n 0, 1) := by decide +kernel
theorem dX10_duty_79 : decode cX10_duty 79 = .ok (.getfield 56, 3) := by decide +kernel
theorem dX10_duty_82 : decode cX10_duty 82 = .ok (.getfield 321, 3) := by decide +kernel
theorem dX10_duty_85 : decode cX10_duty 85 = .ok (.iload_n 1, 1) := by decide +kernel
theorem dX10_duty_86 : decode cX10_duty 86 = .ok (.iaload, 1) := by decide +kernel
theorem dX10_duty_87 : decode cX10_duty 87 = .ok (.ireturn, 1) := by decide +kernel
theorem dX10_duty_88 : decode cX10_duty 88 = .ok (.new 127, 3) := by decide +kernel
theorem dX10_duty_91 : decode cX10_duty 91 = .ok (.dup, 1) := by decide +kernel
theorem dX10_duty_92 : decode cX10_duty 92 = .ok (.ldc_w 324, 3) := by decide +kernel
theorem dX10_duty_95 : decode cX10_duty 95 = .ok (.invokespecial 131, 3) := by decide +kernel
theorem dX10_duty_98 : decode cX10_duty 98 = .ok (.athrow, 1) := by decide +kernel
theorem dX10_others_0 : decode cX10_others 0 = .ok (.aload_n 0, 1) := by decide +kernel
theorem dX10_others_1 : decode cX10_others 1 = .ok (.getfield 56, 3) := by decide +kernel
theorem dX10_others_4 : decode cX10_others 4 = .ok (.aload_n 0, 1) := by decide +kernel
theorem dX10_others_5 : decode cX10_others 5 = .ok (.getfield 10, 3) := by decide +kernel
theorem dX10_others_8 : decode cX10_others 8 = .ok (.invokevirtual 309, 3) := by decide +kernel
theorem dX10_others_11 : decode cX10_others 11 = .ok (.aload_n 0, 1) := by decide +kernel
theorem dX10_others_12 : decode cX10_others 12 = .ok (.getfield 56, 3) := by decide +kernel
theorem dX10_others_15 : decode cX10_others 15 = .ok (.aload_n 0, 1) := by decide +kernel
theorem dX10_others_16 : decode cX10_others 16 = .ok (.getfield 10, 3) := by decide +kernel
theorem dX10_others_19 : decode cX10_others 19 = .ok (.invokevirtual 326, 3) := by decide +kernel
theorem dX10_others_22 : decode cX10_others 22 = .ok (.ireturn, 1) := by decide +kernel
theorem dX10_method_0 : decode cX10_method 0 = .ok (.aload_n 0, 1) := by decide +kernel
theorem dX10_method_1 : decode cX10_method 1 = .ok (.iload_n 1, 1) := by decide +kernel
theorem dX10_method_2 : decode cX10_method 2 = .ok (.invokevirtual 98, 3) := by decide +kernel
theorem dX10_method_5 : decode cX10_method 5 = .ok (.iload_n 2, 1) := by decide +kernel
theorem dX10_method_6 : decode cX10_method 6 = .ok (.ifCond .eq 19, 3) := by decide +kernel
theorem dX10_method_9 : decode cX10_method 9 = .ok (.iload_n 2, 1) := by decide +kernel
theorem dX10_method_10 : decode cX10_method 10 = .ok (.iconst 1, 1) := by decide +kernel
theorem dX10_method_11 : decode cX10_method 11 = .ok (.if_icmp .eq 14, 3) := by decide +kernel
theorem dX10_method_14 : decode cX10_method 14 = .ok (.new 127, 3) := by decide +kernel
theorem dX10_method_17 : decode cX10_method 17 = .ok (.dup, 1) := by decide +kernel
theorem dX10_method_18 : decode cX10_method 18 = .ok (.ldc_w 330, 3) := by decide +kernel
theorem dX10_method_21 : decode cX10_method 21 = .ok (.invokespecial 131, 3) := by decide +kernel
theorem dX10_method_24 : decode cX10_method 24 = .ok (.athrow, 1) := by decide +kernel
theorem dX10_method_25 : decode cX10_method 25 = .ok (.iconst 0, 1) := by decide +kernel
theorem dX10_method_26 : decode cX10_method 26 = .ok (.istore_n 3, 1) := by decide +kernel
theorem dX10_method_27 : decode cX10_method 27 = .ok (.aload_n 0, 1) := by decide +kernel
theorem dX10_method_28 : decode cX10_method 28 = .ok (.getfield 56, 3) := by decide +kernel
theorem dX10_method_31 : decode cX10_method 31 = .ok (.aload_n 0, 1) := by decide +kernel
theorem dX10_method_32 : decode cX10_method 32 = .ok (.getfield 10, 3) := by decide +kernel
theorem dX10_method_35 : decode cX10_method 35 = .ok (.iload_n 1, 1) := by decide +kernel
theorem dX10_method_36 : decode cX10_method 36 = .ok (.iconst 0, 1) := by decide +kernel
theorem dX10_method_37 : decode cX10_method 37 = .ok (.aload_n 0, 1) := by decide +kernel
theorem dX10_method_38 : decode cX10_method 38 = .ok (.getfield 10, 3) := by decide +kernel
theorem dX10_method_41 : decode cX10_method 41 = .ok (.invokevirtual 332, 3) := by decide +kernel
theorem dX10_method_44 : decode cX10_method 44 = .ok (.invokevirtual 299, 3) := by decide +kernel
theorem dX10_method_47 : decode cX10_method 47 = .ok (.istore 4, 2) := by decide +kernel
theorem dX10_method_49 : decode cX10_method 49 = .ok (.iconst 1, 1) := by decide +kernel
theorem dX10_method_50 : decode cX10_method 50 = .ok (.istore 5, 2) := by decide +kernel
theorem dX10_method_52 : decode cX10_method 52 = .ok (.iload 5, 2) := by decide +kernel
theorem dX10_method_54 : decode cX10_method 54 = .ok (.iconst 3, 1) := by decide +kernel
theorem dX10_method_55 : decode cX10_method 55 = .ok (.if_icmp .ge 60, 3) := by decide +kernel
theorem dX10_method_58 : decode cX10_method 58 = .ok (.aload_n 0, 1) := by decide +kernel
theorem dX10_method_59 : decode cX10_method 59 = .ok (.getfield 56, 3) := by decide +kernel
theorem dX10_method_62 : decode cX10_method 62 = .ok (.aload_n 0, 1) := by decide +kernel
theorem dX10_method_63 : decode cX10_method 63 = .ok (.getfield 10, 3) := by decide +kernel
theorem dX10_method_66 : decode cX10_method 66 = .ok (.iload_n 1, 1) := by decide +kernel
theorem dX10_method_67 : decode cX10_method 67 = .ok (.iload 5, 2) := by decide +kernel
theorem dX10_method_69 : decode cX10_method 69 = .ok (.aload_n 0, 1) := by decide +kernel
theorem dX10_method_70 : decode cX10_method 70 = .ok (.getfield 10, 3) := by decide +kernel
theorem dX10_method_73 : decode cX10_method 73 = .ok (.invokevirtual 332, 3) := by decide +kernel
theorem dX10_method_76 : decode cX10_method 76 = .ok (.invokevirtual 299, 3) := by decide +kernel
theorem dX10_method_79 : decode cX10_method 79 = .ok (.istore 6, 2) := by decide +kernel
theorem dX10_method_81 : decode cX10_method 81 = .ok (.iload_n 2, 1) := by decide +kernel
theorem dX10_method_82 : decode cX10_method 82 = .ok (.ifCond .ne 13, 3) := by decide +kernel
theorem dX10_method_85 : decode cX10_method 85 = .ok (.iload 6, 2) := by decide +kernel
theorem dX10_method_87 : decode cX10_method 87 = .ok (.iload 4, 2) := by decide +kernel
theorem dX10_method_89 : decode cX10_method 89 = .ok (.if_icmp .le 20, 3) := by decide +kernel
theorem dX10_method_92 : decode cX10_method 92 = .ok (.goto 10, 3) := by decide +kernel
theorem dX10_method_95 : decode cX10_method 95 = .ok (.iload 6, 2) := by decide +kernel
theorem dX10_method_97 : decode cX10_method 97 = .ok (.iload 4, 2) := by decide +kernel
theorem dX10_method_99 : decode cX10_method 99 = .ok (.if_icmp .ge 10, 3) := by decide +kernel
theorem dX10_method_102 : decode cX10_method 102 = .ok (.iload 5, 2) := by decide +kernel
theorem dX10_method_104 : decode cX10_method 104 = .ok (.istore_n 3, 1) := by decide +kernel
theorem dX10_method_105 : decode cX10_method 105 = .ok (.iload 6, 2) := by decide +kernel
theorem dX10_method_107 : decode cX10_method 107 = .ok (.istore 4, 2) := by decide +kernel
theorem dX10_method_109 : decode cX10_method 109 = .ok (.iinc 5 1, 3) := by decide +kernel
theorem dX10_method_112 : decode cX10_method 112 = .ok (.goto (-60), 3) := by decide +kernel
theorem dX10_method_115 : decode cX10_method 115 = .ok (.iload_n 3, 1) := by decide +kernel
theorem dX10_method_116 : decode cX10_method 116 = .ok (.ireturn, 1) := by decide +kernel
theorem dX10_undertaking_0 : decode cX10_undertaking 0 = .ok (.aload_n 0, 1) := by decide +kernel
theorem dX10_undertaking_1 : decode cX10_undertaking 1 = .ok (.iload_n 1, 1) := by decide +kernel
theorem dX10_undertaking_2 : decode cX10_undertaking 2 = .ok (.invokevirtual 98, 3) := by decide +kernel
theorem dX10_undertaking_5 : decode cX10_undertaking 5 = .ok (.aload_n 0, 1) := by decide +kernel
theorem dX10_undertaking_6 : decode cX10_undertaking 6 = .ok (.getfield 10, 3) := by decide +kernel
theorem dX10_undertaking_9 : decode cX10_undertaking 9 = .ok (.getfield 91, 3) := by decide +kernel
theorem dX10_undertaking_12 : decode cX10_undertaking 12 = .ok (.iload_n 1, 1) := by decide +kernel
theorem dX10_undertaking_13 : decode cX10_undertaking 13 = .ok (.invokevirtual 336, 3) := by decide +kernel
theorem dX10_undertaking_16 : decode cX10_undertaking 16 = .ok (.ifCond .ne 14, 3) := by decide +kernel
theorem dX10_undertaking_19 : decode cX10_undertaking 19 = .ok (.new 182, 3) := by decide +kernel
theorem dX10_undertaking_22 : decode cX10_undertaking 22 = .ok (.dup, 1) := by decide +kernel
theorem dX10_undertaking_23 : decode cX10_undertaking 23 = .ok (.ldc_w 339, 3) := by decide +kernel
theorem dX10_undertaking_26 : decode cX10_undertaking 26 = .ok (.invokespecial 186, 3) := by decide +kernel
theorem dX10_undertaking_29 : decode cX10_undertaking 29 = .ok (.athrow, 1) := by decide +kernel
theorem dX10_undertaking_30 : decode cX10_undertaking 30 = .ok (.aload_n 0, 1) := by decide +kernel
theorem dX10_undertaking_31 : decode cX10_undertaking 31 = .ok (.getfield 47, 3) := by decide +kernel
theorem dX10_undertaking_34 : decode cX10_undertaking 34 = .ok (.aload_n 0, 1) := by decide +kernel
theorem dX10_undertaking_35 : decode cX10_undertaking 35 = .ok (.getfield 10, 3) := by decide +kernel
theorem dX10_undertaking_38 : decode cX10_undertaking 38 = .ok (.iload_n 1, 1) := by decide +kernel
theorem dX10_undertaking_39 : decode cX10_undertaking 39 = .ok (.aload_n 0, 1) := by decide +kernel
theorem dX10_undertaking_40 : decode cX10_undertaking 40 = .ok (.getfield 10, 3) := by decide +kernel
theorem dX10_undertaking_43 : decode cX10_undertaking 43 = .ok (.getfield 216, 3) := by decide +kernel
theorem dX10_undertaking_46 : decode cX10_undertaking 46 = .ok (.iconst 0, 1) := by decide +kernel
theorem dX10_undertaking_47 : decode cX10_undertaking 47 = .ok (.iaload, 1) := by decide +kernel
theorem dX10_undertaking_48 : decode cX10_undertaking 48 = .ok (.invokevirtual 262, 3) := by decide +kernel
theorem dX10_undertaking_51 : decode cX10_undertaking 51 = .ok (.aload_n 0, 1) := by decide +kernel
theorem dX10_undertaking_52 : decode cX10_undertaking 52 = .ok (.getfield 47, 3) := by decide +kernel
theorem dX10_undertaking_55 : decode cX10_undertaking 55 = .ok (.aload_n 0, 1) := by decide +kernel
theorem dX10_undertaking_56 : decode cX10_undertaking 56 = .ok (.getfield 10, 3) := by decide +kernel
theorem dX10_undertaking_59 : decode cX10_undertaking 59 = .ok (.invokevirtual 332, 3) := by decide +kernel
theorem dX10_undertaking_62 : decode cX10_undertaking 62 = .ok (.invokevirtual 341, 3) := by decide +kernel
theorem dX10_undertaking_65 : decode cX10_undertaking 65 = .ok (.ireturn, 1) := by decide +kernel
theorem dX10_picked_0 : decode cX10_picked 0 = .ok (.aload_n 0, 1) := by decide +kernel
theorem dX10_picked_1 : decode cX10_picked 1 = .ok (.iload_n 1, 1) := by decide +kernel
theorem dX10_picked_2 : decode cX10_picked 2 = .ok (.invokevirtual 98, 3) := by decide +kernel
theorem dX10_picked_5 : decode cX10_picked 5 = .ok (.aload_n 0, 1) := by decide +kernel
theorem dX10_picked_6 : decode cX10_picked 6 = .ok (.getfield 56, 3) := by decide +kernel
theorem dX10_picked_9 : decode cX10_picked 9 = .ok (.aload_n 0, 1) := by decide +kernel
theorem dX10_picked_10 : decode cX10_picked 10 = .ok (.getfield 10, 3) := by decide +kernel
theorem dX10_picked_13 : decode cX10_picked 13 = .ok (.getfield 91, 3) := by decide +kernel
theorem dX10_picked_16 : decode cX10_picked 16 = .ok (.iload_n 1, 1) := by decide +kernel
theorem dX10_picked_17 : decode cX10_picked 17 = .ok (.invokevirtual 345, 3) := by decide +kernel
theorem dX10_picked_20 : decode cX10_picked 20 = .ok (.ireturn, 1) := by decide +kernel
theorem dX10_collected_0 : decode cX10_collected 0 = .ok (.aload_n 0, 1) := by decide +kernel
theorem dX10_collected_1 : decode cX10_collected 1 = .ok (.iload_n 1, 1) := by decide +kernel
theorem dX10_collected_2 : decode cX10_collected 2 = .ok (.invokevirtual 252, 3) := by decide +kernel
theorem dX10_collected_5 : decode cX10_collected 5 = .ok (.iload_n 2, 1) := by decide +kernel
theorem dX10_collected_6 : decode cX10_collected 6 = .ok (.ifCond .eq 27, 3) := by decide +kernel
theorem dX10_collected_9 : decode cX10_collected 9 = .ok (.lconst 0, 1) := by decide +kernel
theorem dX10_collected_10 : decode cX10_collected 10 = .ok (.aload_n 0, 1) := by decide +kernel
theorem dX10_collected_11 : decode cX10_collected 11 = .ok (.getfield 47, 3) := by decide +kernel
theorem dX10_collected_14 : decode cX10_collected 14 = .ok (.aload_n 0, 1) := by decide +kernel
theorem dX10_collected_15 : decode cX10_collected 15 = .ok (.getfield 10, 3) := by decide +kernel
theorem dX10_collected_18 : decode cX10_collected 18 = .ok (.iload_n 1, 1) := by decide +kernel
theorem dX10_collected_19 : decode cX10_collected 19 = .ok (.aload_n 0, 1) := by decide +kernel
theorem dX10_collected_20 : decode cX10_collected 20 = .ok (.getfield 10, 3) := by decide +kernel
theorem dX10_collected_23 : decode cX10_collected 23 = .ok (.invokevirtual 349, 3) := by decide +kernel
theorem dX10_collected_26 : decode cX10_collected 26 = .ok (.invokevirtual 258, 3) := by decide +kernel
theorem dX10_collected_29 : decode cX10_collected 29 = .ok (.invokestatic 353, 3) := by decide +kernel
theorem dX10_collected_32 : decode cX10_collected 32 = .ok (.lreturn, 1) := by decide +kernel
theorem dX10_collected_33 : decode cX10_collected 33 = .ok (.aload_n 0, 1) := by decide +kernel
theorem dX10_collected_34 : decode cX10_collected 34 = .ok (.getfield 56, 3) := by decide +kernel
theorem dX10_collected_37 : decode cX10_collected 37 = .ok (.aload_n 0, 1) := by decide +kernel
theorem dX10_collected_38 : decode cX10_collected 38 = .ok (.getfield 10, 3) := by decide +kernel
theorem dX10_collected_41 : decode cX10_collected 41 = .ok (.invokevirtual 309, 3) := by decide +kernel
theorem dX10_collected_44 : decode cX10_collected 44 = .ok (.aload_n 0, 1) := by decide +kernel
theorem dX10_collected_45 : decode cX10_collected 45 = .ok (.getfield 56, 3) := by decide +kernel
theorem dX10_collected_48 : decode cX10_collected 48 = .ok (.aload_n 0, 1) := by decide +kernel
theorem dX10_collected_49 : decode cX10_collected 49 = .ok (.getfield 10, 3) := by decide +kernel
theorem dX10_collected_52 : decode cX10_collected 52 = .ok (.getfield 91, 3) := by decide +kernel
theorem dX10_collected_55 : decode cX10_collected 55 = .ok (.iload_n 1, 1) := by decide +kernel
theorem dX10_collected_56 : decode cX10_collected 56 = .ok (.invokevirtual 359, 3) := by decide +kernel
theorem dX10_collected_59 : decode cX10_collected 59 = .ok (.lreturn, 1) := by decide +kernel
theorem dX10_back_0 : decode cX10_back 0 = .ok (.aload_n 0, 1) := by decide +kernel
theorem dX10_back_1 : decode cX10_back 1 = .ok (.iload_n 1, 1) := by decide +kernel
theorem dX10_back_2 : decode cX10_back 2 = .ok (.invokevirtual 98, 3) := by decide +kernel
theorem dX10_back_5 : decode cX10_back 5 = .ok (.aload_n 0, 1) := by decide +kernel
theorem dX10_back_6 : decode cX10_back 6 = .ok (.getfield 56, 3) := by decide +kernel
theorem dX10_back_9 : decode cX10_back 9 = .ok (.aload_n 0, 1) := by decide +kernel
theorem dX10_back_10 : decode cX10_back 10 = .ok (.getfield 10, 3) := by decide +kernel
theorem dX10_back_13 : decode cX10_back 13 = .ok (.invokevirtual 309, 3) := by decide +kernel
theorem dX10_back_16 : decode cX10_back 16 = .ok (.aload_n 0, 1) := by decide +kernel
theorem dX10_back_17 : decode cX10_back 17 = .ok (.getfield 56, 3) := by decide +kernel
theorem dX10_back_20 : decode cX10_back 20 = .ok (.aload_n 0, 1) := by decide +kernel
theorem dX10_back_21 : decode cX10_back 21 = .ok (.getfield 10, 3) := by decide +kernel
theorem dX10_back_24 : decode cX10_back 24 = .ok (.getfield 91, 3) := by decide +kernel
theorem dX10_back_27 : decode cX10_back 27 = .ok (.iload_n 1, 1) := by decide +kernel
theorem dX10_back_28 : decode cX10_back 28 = .ok (.invokevirtual 363, 3) := by decide +kernel
theorem dX10_back_31 : decode cX10_back 31 = .ok (.lstore_n 2, 1) := by decide +kernel
theorem dX10_back_32 : decode cX10_back 32 = .ok (.aload_n 0, 1) := by decide +kernel
theorem dX10_back_33 : decode cX10_back 33 = .ok (.getfield 47, 3) := by decide +kernel
theorem dX10_back_36 : decode cX10_back 36 = .ok (.aload_n 0, 1) := by decide +kernel
theorem dX10_back_37 : decode cX10_back 37 = .ok (.getfield 10, 3) := by decide +kernel
theorem dX10_back_40 : decode cX10_back 40 = .ok (.iload_n 1, 1) := by decide +kernel
theorem dX10_back_41 : decode cX10_back 41 = .ok (.aload_n 0, 1) := by decide +kernel
theorem dX10_back_42 : decode cX10_back 42 = .ok (.getfield 10, 3) := by decide +kernel
theorem dX10_back_45 : decode cX10_back 45 = .ok (.invokevirtual 349, 3) := by decide +kernel
theorem dX10_back_48 : decode cX10_back 48 = .ok (.invokevirtual 262, 3) := by decide +kernel
theorem dX10_back_51 : decode cX10_back 51 = .ok (.lload_n 2, 1) := by decide +kernel
theorem dX10_back_52 : decode cX10_back 52 = .ok (.aload_n 0, 1) := by decide +kernel
theorem dX10_back_53 : decode cX10_back 53 = .ok (.getfield 47, 3) := by decide +kernel
theorem dX10_back_56 : decode cX10_back 56 = .ok (.iconst 1, 1) := by decide +kernel
theorem dX10_back_57 : decode cX10_back 57 = .ok (.iconst 0, 1) := by decide +kernel
theorem dX10_back_58 : decode cX10_back 58 = .ok (.invokevirtual 291, 3) := by decide +kernel
theorem dX10_back_61 : decode cX10_back 61 = .ok (.lsub, 1) := by decide +kernel
theorem dX10_back_62 : decode cX10_back 62 = .ok (.lreturn, 1) := by decide +kernel
theorem dX10_weight_0 : decode cX10_weight 0 = .ok (.aload_n 0, 1) := by decide +kernel
theorem dX10_weight_1 : decode cX10_weight 1 = .ok (.iload_n 1, 1) := by decide +kernel
theorem dX10_weight_2 : decode cX10_weight 2 = .ok (.invokevirtual 135, 3) := by decide +kernel
theorem dX10_weight_5 : decode cX10_weight 5 = .ok (.aload_n 0, 1) := by decide +kernel
theorem dX10_weight_6 : decode cX10_weight 6 = .ok (.getfield 10, 3) := by decide +kernel
theorem dX10_weight_9 : decode cX10_weight 9 = .ok (.getfield 91, 3) := by decide +kernel
theorem dX10_weight_12 : decode cX10_weight 12 = .ok (.getfield 141, 3) := by decide +kernel
theorem dX10_weight_15 : decode cX10_weight 15 = .ok (.iload_n 1, 1) := by decide +kernel
theorem dX10_weight_16 : decode cX10_weight 16 = .ok (.iaload, 1) := by decide +kernel
theorem dX10_weight_17 : decode cX10_weight 17 = .ok (.istore_n 2, 1) := by decide +kernel
theorem dX10_weight_18 : decode cX10_weight 18 = .ok (.aload_n 0, 1) := by decide +kernel
theorem dX10_weight_19 : decode cX10_weight 19 = .ok (.getfield 47, 3) := by decide +kernel
theorem dX10_weight_22 : decode cX10_weight 22 = .ok (.aload_n 0, 1) := by decide +kernel
theorem dX10_weight_23 : decode cX10_weight 23 = .ok (.getfield 10, 3) := by decide +kernel
theorem dX10_weight_26 : decode cX10_weight 26 = .ok (.iload_n 1, 1) := by decide +kernel
theorem dX10_weight_27 : decode cX10_weight 27 = .ok (.invokevirtual 366, 3) := by decide +kernel
theorem dX10_weight_30 : decode cX10_weight 30 = .ok (.aload_n 0, 1) := by decide +kernel
theorem dX10_weight_31 : decode cX10_weight 31 = .ok (.getfield 47, 3) := by decide +kernel
theorem dX10_weight_34 : decode cX10_weight 34 = .ok (.aload_n 0, 1) := by decide +kernel
theorem dX10_weight_35 : decode cX10_weight 35 = .ok (.getfield 10, 3) := by decide +kernel
theorem dX10_weight_38 : decode cX10_weight 38 = .ok (.iload_n 2, 1) := by decide +kernel
theorem dX10_weight_39 : decode cX10_weight 39 = .ok (.invokevirtual 370, 3) := by decide +kernel
theorem dX10_weight_42 : decode cX10_weight 42 = .ok (.isub, 1) := by decide +kernel
theorem dX10_weight_43 : decode cX10_weight 43 = .ok (.ireturn, 1) := by decide +kernel
theorem dX10_heaviest_0 : decode cX10_heaviest 0 = .ok (.aload_n 0, 1) := by decide +kernel
theorem dX10_heaviest_1 : decode cX10_heaviest 1 = .ok (.iload_n 1, 1) := by decide +kernel
theorem dX10_heaviest_2 : decode cX10_heaviest 2 = .ok (.invokevirtual 98, 3) := by decide +kernel
theorem dX10_heaviest_5 : decode cX10_heaviest 5 = .ok (.aload_n 0, 1) := by decide +kernel
theorem dX10_heaviest_6 : decode cX10_heaviest 6 = .ok (.getfield 10, 3) := by decide +kernel
theorem dX10_heaviest_9 : decode cX10_heaviest 9 = .ok (.getfield 91, 3) := by decide +kernel
theorem dX10_heaviest_12 : decode cX10_heaviest 12 = .ok (.astore_n 3, 1) := by decide +kernel
theorem dX10_heaviest_13 : decode cX10_heaviest 13 = .ok (.iconst (-1), 1) := by decide +kernel
theorem dX10_heaviest_14 : decode cX10_heaviest 14 = .ok (.istore 4, 2) := by decide +kernel
theorem dX10_heaviest_16 : decode cX10_heaviest 16 = .ok (.iconst 0, 1) := by decide +kernel
theorem dX10_heaviest_17 : decode cX10_heaviest 17 = .ok (.istore 5, 2) := by decide +kernel
theorem dX10_heaviest_19 : decode cX10_heaviest 19 = .ok (.iconst 0, 1) := by decide +kernel
theorem dX10_heaviest_20 : decode cX10_heaviest 20 = .ok (.istore 6, 2) := by decide +kernel
theorem dX10_heaviest_22 : decode cX10_heaviest 22 = .ok (.iload 6, 2) := by decide +kernel
theorem dX10_heaviest_24 : decode cX10_heaviest 24 = .ok (.aload_n 3, 1) := by decide +kernel
theorem dX10_heaviest_25 : decode cX10_heaviest 25 = .ok (.getfield 95, 3) := by decide +kernel
theorem dX10_heaviest_28 : decode cX10_heaviest 28 = .ok (.if_icmp .ge 80, 3) := by decide +kernel
theorem dX10_heaviest_31 : decode cX10_heaviest 31 = .ok (.aload_n 3, 1) := by decide +kernel
theorem dX10_heaviest_32 : decode cX10_heaviest 32 = .ok (.getfield 197, 3) := by decide +kernel
theorem dX10_heaviest_35 : decode cX10_heaviest 35 = .ok (.iload 6, 2) := by decide +kernel
theorem dX10_heaviest_37 : decode cX10_heaviest 37 = .ok (.baload, 1) := by decide +kernel
theorem dX10_heaviest_38 : decode cX10_heaviest 38 = .ok (.ifCond .eq 64, 3) := by decide +kernel
theorem dX10_heaviest_41 : decode cX10_heaviest 41 = .ok (.aload_n 3, 1) := by decide +kernel
theorem dX10_heaviest_42 : decode cX10_heaviest 42 = .ok (.getfield 141, 3) := by decide +kernel
theorem dX10_heaviest_45 : decode cX10_heaviest 45 = .ok (.iload 6, 2) := by decide +kernel
theorem dX10_heaviest_47 : decode cX10_heaviest 47 = .ok (.iaload, 1) := by decide +kernel
theorem dX10_heaviest_48 : decode cX10_heaviest 48 = .ok (.iload_n 1, 1) := by decide +kernel
theorem dX10_heaviest_49 : decode cX10_heaviest 49 = .ok (.if_icmp .ne 53, 3) := by decide +kernel
theorem dX10_heaviest_52 : decode cX10_heaviest 52 = .ok (.aload_n 0, 1) := by decide +kernel
theorem dX10_heaviest_53 : decode cX10_heaviest 53 = .ok (.getfield 47, 3) := by decide +kernel
theorem dX10_heaviest_56 : decode cX10_heaviest 56 = .ok (.aload_n 0, 1) := by decide +kernel
theorem dX10_heaviest_57 : decode cX10_heaviest 57 = .ok (.getfield 10, 3) := by decide +kernel
theorem dX10_heaviest_60 : decode cX10_heaviest 60 = .ok (.iload 6, 2) := by decide +kernel
theorem dX10_heaviest_62 : decode cX10_heaviest 62 = .ok (.invokevirtual 366, 3) := by decide +kernel
theorem dX10_heaviest_65 : decode cX10_heaviest 65 = .ok (.istore 7, 2) := by decide +kernel
theorem dX10_heaviest_67 : decode cX10_heaviest 67 = .ok (.iload 4, 2) := by decide +kernel
theorem dX10_heaviest_69 : decode cX10_heaviest 69 = .ok (.iconst (-1), 1) := by decide +kernel
theorem dX10_heaviest_70 : decode cX10_heaviest 70 = .ok (.if_icmp .eq 24, 3) := by decide +kernel
theorem dX10_heaviest_73 : decode cX10_heaviest 73 = .ok (.iload_n 2, 1) := by decide +kernel
theorem dX10_heaviest_74 : decode cX10_heaviest 74 = .ok (.ifCond .eq 13, 3) := by decide +kernel
theorem dX10_heaviest_77 : decode cX10_heaviest 77 = .ok (.iload 7, 2) := by decide +kernel
theorem dX10_heaviest_79 : decode cX10_heaviest 79 = .ok (.iload 5, 2) := by decide +kernel
theorem dX10_heaviest_81 : decode cX10_heaviest 81 = .ok (.if_icmp .ge 21, 3) := by decide +kernel
theorem dX10_heaviest_84 : decode cX10_heaviest 84 = .ok (.goto 10, 3) := by decide +kernel
theorem dX10_heaviest_87 : decode cX10_heaviest 87 = .ok (.iload 7, 2) := by decide +kernel
theorem dX10_heaviest_89 : decode cX10_heaviest 89 = .ok (.iload 5, 2) := by decide +kernel
theorem dX10_heaviest_91 : decode cX10_heaviest 91 = .ok (.if_icmp .le 11, 3) := by decide +kernel
theorem dX10_heaviest_94 : decode cX10_heaviest 94 = .ok (.iload 6, 2) := by decide +kernel
theorem dX10_heaviest_96 : decode cX10_heaviest 96 = .ok (.istore 4, 2) := by decide +kernel
theorem dX10_heaviest_98 : decode cX10_heaviest 98 = .ok (.iload 7, 2) := by decide +kernel
theorem dX10_heaviest_100 : decode cX10_heaviest 100 = .ok (.istore 5, 2) := by decide +kernel
theorem dX10_heaviest_102 : decode cX10_heaviest 102 = .ok (.iinc 6 1, 3) := by decide +kernel
theorem dX10_heaviest_105 : decode cX10_heaviest 105 = .ok (.goto (-83), 3) := by decide +kernel
theorem dX10_heaviest_108 : decode cX10_heaviest 108 = .ok (.iload 4, 2) := by decide +kernel
theorem dX10_heaviest_110 : decode cX10_heaviest 110 = .ok (.ireturn, 1) := by decide +kernel
theorem dX10_ranked_0 : decode cX10_ranked 0 = .ok (.iload_n 1, 1) := by decide +kernel
theorem dX10_ranked_1 : decode cX10_ranked 1 = .ok (.ifCond .lt 17, 3) := by decide +kernel
theorem dX10_ranked_4 : decode cX10_ranked 4 = .ok (.iload_n 1, 1) := by decide +kernel
theorem dX10_ranked_5 : decode cX10_ranked 5 = .ok (.aload_n 0, 1) := by decide +kernel
theorem dX10_ranked_6 : decode cX10_ranked 6 = .ok (.getfield 10, 3) := by decide +kernel
theorem dX10_ranked_9 : decode cX10_ranked 9 = .ok (.getfield 101, 3) := by decide +kernel
theorem dX10_ranked_12 : decode cX10_ranked 12 = .ok (.getfield 373, 3) := by decide +kernel
theorem dX10_ranked_15 : decode cX10_ranked 15 = .ok (.if_icmp .lt 5, 3) := by decide +kernel
theorem dX10_ranked_18 : decode cX10_ranked 18 = .ok (.iconst (-1), 1) := by decide +kernel
theorem dX10_ranked_19 : decode cX10_ranked 19 = .ok (.ireturn, 1) := by decide +kernel
theorem dX10_ranked_20 : decode cX10_ranked 20 = .ok (.aload_n 0, 1) := by decide +kernel
theorem dX10_ranked_21 : decode cX10_ranked 21 = .ok (.getfield 56, 3) := by decide +kernel
theorem dX10_ranked_24 : decode cX10_ranked 24 = .ok (.aload_n 0, 1) := by decide +kernel
theorem dX10_ranked_25 : decode cX10_ranked 25 = .ok (.getfield 10, 3) := by decide +kernel
theorem dX10_ranked_28 : decode cX10_ranked 28 = .ok (.invokevirtual 309, 3) := by decide +kernel
theorem dX10_ranked_31 : decode cX10_ranked 31 = .ok (.iconst 0, 1) := by decide +kernel
theorem dX10_ranked_32 : decode cX10_ranked 32 = .ok (.istore_n 2, 1) := by decide +kernel
theorem dX10_ranked_33 : decode cX10_ranked 33 = .ok (.iload_n 2, 1) := by decide +kernel
theorem dX10_ranked_34 : decode cX10_ranked 34 = .ok (.aload_n 0, 1) := by decide +kernel
theorem dX10_ranked_35 : decode cX10_ranked 35 = .ok (.getfield 10, 3) := by decide +kernel
theorem dX10_ranked_38 : decode cX10_ranked 38 = .ok (.getfield 101, 3) := by decide +kernel
theorem dX10_ranked_41 : decode cX10_ranked 41 = .ok (.getfield 373, 3) := by decide +kernel
theorem dX10_ranked_44 : decode cX10_ranked 44 = .ok (.if_icmp .ge 33, 3) := by decide +kernel
theorem dX10_ranked_47 : decode cX10_ranked 47 = .ok (.aload_n 0, 1) := by decide +kernel
theorem dX10_ranked_48 : decode cX10_ranked 48 = .ok (.getfield 56, 3) := by decide +kernel
theorem dX10_ranked_51 : decode cX10_ranked 51 = .ok (.iload_n 2, 1) := by decide +kernel
theorem dX10_ranked_52 : decode cX10_ranked 52 = .ok (.aload_n 0, 1) := by decide +kernel
theorem dX10_ranked_53 : decode cX10_ranked 53 = .ok (.getfield 10, 3) := by decide +kernel
theorem dX10_ranked_56 : decode cX10_ranked 56 = .ok (.getfield 101, 3) := by decide +kernel
theorem dX10_ranked_59 : decode cX10_ranked 59 = .ok (.getfield 373, 3) := by decide +kernel
theorem dX10_ranked_62 : decode cX10_ranked 62 = .ok (.invokevirtual 374, 3) := by decide +kernel
theorem dX10_ranked_65 : decode cX10_ranked 65 = .ok (.iload_n 1, 1) := by decide +kernel
theorem dX10_ranked_66 : decode cX10_ranked 66 = .ok (.if_icmp .ne 5, 3) := by decide +kernel
theorem dX10_ranked_69 : decode cX10_ranked 69 = .ok (.iload_n 2, 1) := by decide +kernel
theorem dX10_ranked_70 : decode cX10_ranked 70 = .ok (.ireturn, 1) := by decide +kernel
theorem dX10_ranked_71 : decode cX10_ranked 71 = .ok (.iinc 2 1, 3) := by decide +kernel
theorem dX10_ranked_74 : decode cX10_ranked 74 = .ok (.goto (-41), 3) := by decide +kernel
theorem dX10_ranked_77 : decode cX10_ranked 77 = .ok (.iconst (-1), 1) := by decide +kernel
theorem dX10_ranked_78 : decode cX10_ranked 78 = .ok (.ireturn, 1) := by decide +kernel
theorem dX10_write_0 : decode cX10_write 0 = .ok (.aload_n 0, 1) := by decide +kernel
theorem dX10_write_1 : decode cX10_write 1 = .ok (.iload_n 1, 1) := by decide +kernel
theorem dX10_write_2 : decode cX10_write 2 = .ok (.invokevirtual 98, 3) := by decide +kernel
theorem dX10_write_5 : decode cX10_write 5 = .ok (.aload_n 0, 1) := by decide +kernel
theorem dX10_write_6 : decode cX10_write 6 = .ok (.getfield 56, 3) := by decide +kernel
theorem dX10_write_9 : decode cX10_write 9 = .ok (.aload_n 0, 1) := by decide +kernel
theorem dX10_write_10 : decode cX10_write 10 = .ok (.getfield 10, 3) := by decide +kernel
theorem dX10_write_13 : decode cX10_write 13 = .ok (.invokevirtual 309, 3) := by decide +kernel
theorem dX10_write_16 : decode cX10_write 16 = .ok (.aload_n 0, 1) := by decide +kernel
theorem dX10_write_17 : decode cX10_write 17 = .ok (.getfield 63, 3) := by decide +kernel
theorem dX10_write_20 : decode cX10_write 20 = .ok (.iconst 0, 1) := by decide +kernel
theorem dX10_write_21 : decode cX10_write 21 = .ok (.putfield 377, 3) := by decide +kernel
theorem dX10_write_24 : decode cX10_write 24 = .ok (.iconst 0, 1) := by decide +kernel
theorem dX10_write_25 : decode cX10_write 25 = .ok (.istore_n 2, 1) := by decide +kernel
theorem dX10_write_26 : decode cX10_write 26 = .ok (.iload_n 2, 1) := by decide +kernel
theorem dX10_write_27 : decode cX10_write 27 = .ok (.aload_n 0, 1) := by decide +kernel
theorem dX10_write_28 : decode cX10_write 28 = .ok (.getfield 10, 3) := by decide +kernel
theorem dX10_write_31 : decode cX10_write 31 = .ok (.getfield 101, 3) := by decide +kernel
theorem dX10_write_34 : decode cX10_write 34 = .ok (.getfield 378, 3) := by decide +kernel
theorem dX10_write_37 : decode cX10_write 37 = .ok (.iload_n 1, 1) := by decide +kernel
theorem dX10_write_38 : decode cX10_write 38 = .ok (.iaload, 1) := by decide +kernel
theorem dX10_write_39 : decode cX10_write 39 = .ok (.if_icmp .ge 28, 3) := by decide +kernel
theorem dX10_write_42 : decode cX10_write 42 = .ok (.aload_n 0, 1) := by decide +kernel
theorem dX10_write_43 : decode cX10_write 43 = .ok (.getfield 63, 3) := by decide +kernel
theorem dX10_write_46 : decode cX10_write 46 = .ok (.aload_n 0, 1) := by decide +kernel
theorem dX10_write_47 : decode cX10_write 47 = .ok (.getfield 10, 3) := by decide +kernel
theorem dX10_write_50 : decode cX10_write 50 = .ok (.getfield 101, 3) := by decide +kernel
theorem dX10_write_53 : decode cX10_write 53 = .ok (.iload_n 1, 1) := by decide +kernel
theorem dX10_write_54 : decode cX10_write 54 = .ok (.iload_n 2, 1) := by decide +kernel
theorem dX10_write_55 : decode cX10_write 55 = .ok (.invokevirtual 105, 3) := by decide +kernel
theorem dX10_write_58 : decode cX10_write 58 = .ok (.invokevirtual 381, 3) := by decide +kernel
theorem dX10_write_61 : decode cX10_write 61 = .ok (.iinc 2 1, 3) := by decide +kernel
theorem dX10_write_64 : decode cX10_write 64 = .ok (.goto (-38), 3) := by decide +kernel
theorem dX10_write_67 : decode cX10_write 67 = .ok (.aload_n 0, 1) := by decide +kernel
theorem dX10_write_68 : decode cX10_write 68 = .ok (.getfield 63, 3) := by decide +kernel
theorem dX10_write_71 : decode cX10_write 71 = .ok (.bipush 32, 2) := by decide +kernel
theorem dX10_write_73 : decode cX10_write 73 = .ok (.invokevirtual 381, 3) := by decide +kernel
theorem dX10_write_76 : decode cX10_write 76 = .ok (.aload_n 0, 1) := by decide +kernel
theorem dX10_write_77 : decode cX10_write 77 = .ok (.getfield 63, 3) := by decide +kernel
theorem dX10_write_80 : decode cX10_write 80 = .ok (.aload_n 0, 1) := by decide +kernel
theorem dX10_write_81 : decode cX10_write 81 = .ok (.getfield 56, 3) := by decide +kernel
theorem dX10_write_84 : decode cX10_write 84 = .ok (.getfield 321, 3) := by decide +kernel
theorem dX10_write_87 : decode cX10_write 87 = .ok (.iload_n 1, 1) := by decide +kernel
theorem dX10_write_88 : decode cX10_write 88 = .ok (.iaload, 1) := by decide +kernel
theorem dX10_write_89 : decode cX10_write 89 = .ok (.invokevirtual 383, 3) := by decide +kernel
theorem dX10_write_92 : decode cX10_write 92 = .ok (.aload_n 0, 1) := by decide +kernel
theorem dX10_write_93 : decode cX10_write 93 = .ok (.getfield 63, 3) := by decide +kernel
theorem dX10_write_96 : decode cX10_write 96 = .ok (.bipush 37, 2) := by decide +kernel
theorem dX10_write_98 : decode cX10_write 98 = .ok (.invokevirtual 381, 3) := by decide +kernel
theorem dX10_write_101 : decode cX10_write 101 = .ok (.aload_n 0, 1) := by decide +kernel
theorem dX10_write_102 : decode cX10_write 102 = .ok (.getfield 10, 3) := by decide +kernel
theorem dX10_write_105 : decode cX10_write 105 = .ok (.getfield 219, 3) := by decide +kernel
theorem dX10_write_108 : decode cX10_write 108 = .ok (.iload_n 1, 1) := by decide +kernel
theorem dX10_write_109 : decode cX10_write 109 = .ok (.baload, 1) := by decide +kernel
theorem dX10_write_110 : decode cX10_write 110 = .ok (.ifCond .eq 13, 3) := by decide +kernel
theorem dX10_write_113 : decode cX10_write 113 = .ok (.aload_n 0, 1) := by decide +kernel
theorem dX10_write_114 : decode cX10_write 114 = .ok (.getfield 63, 3) := by decide +kernel
theorem dX10_write_117 : decode cX10_write 117 = .ok (.ldc_w 386, 3) := by decide +kernel
theorem dX10_write_120 : decode cX10_write 120 = .ok (.invokevirtual 388, 3) := by decide +kernel
theorem dX10_write_123 : decode cX10_write 123 = .ok (.aload_n 0, 1) := by decide +kernel
theorem dX10_write_124 : decode cX10_write 124 = .ok (.getfield 56, 3) := by decide +kernel
theorem dX10_write_127 : decode cX10_write 127 = .ok (.getfield 306, 3) := by decide +kernel
theorem dX10_write_130 : decode cX10_write 130 = .ok (.iload_n 1, 1) := by decide +kernel
theorem dX10_write_131 : decode cX10_write 131 = .ok (.baload, 1) := by decide +kernel
theorem dX10_write_132 : decode cX10_write 132 = .ok (.ifCond .eq 13, 3) := by decide +kernel
theorem dX10_write_135 : decode cX10_write 135 = .ok (.aload_n 0, 1) := by decide +kernel
theorem dX10_write_136 : decode cX10_write 136 = .ok (.getfield 63, 3) := by decide +kernel
theorem dX10_write_139 : decode cX10_write 139 = .ok (.ldc_w 391, 3) := by decide +kernel
theorem dX10_write_142 : decode cX10_write 142 = .ok (.invokevirtual 388, 3) := by decide +kernel
theorem dX10_write_145 : decode cX10_write 145 = .ok (.aload_n 0, 1) := by decide +kernel
theorem dX10_write_146 : decode cX10_write 146 = .ok (.getfield 63, 3) := by decide +kernel
theorem dX10_write_149 : decode cX10_write 149 = .ok (.getfield 377, 3) := by decide +kernel
theorem dX10_write_152 : decode cX10_write 152 = .ok (.ireturn, 1) := by decide +kernel
theorem dX10_octet_0 : decode cX10_octet 0 = .ok (.iload_n 1, 1) := by decide +kernel
theorem dX10_octet_1 : decode cX10_octet 1 = .ok (.ifCond .lt 14, 3) := by decide +kernel
theorem dX10_octet_4 : decode cX10_octet 4 = .ok (.iload_n 1, 1) := by decide +kernel
theorem dX10_octet_5 : decode cX10_octet 5 = .ok (.aload_n 0, 1) := by decide +kernel
theorem dX10_octet_6 : decode cX10_octet 6 = .ok (.getfield 63, 3) := by decide +kernel
theorem dX10_octet_9 : decode cX10_octet 9 = .ok (.getfield 377, 3) := by decide +kernel
theorem dX10_octet_12 : decode cX10_octet 12 = .ok (.if_icmp .lt 7, 3) := by decide +kernel
theorem dX10_octet_15 : decode cX10_octet 15 = .ok (.iconst (-1), 1) := by decide +kernel
theorem dX10_octet_16 : decode cX10_octet 16 = .ok (.goto 12, 3) := by decide +kernel
theorem dX10_octet_19 : decode cX10_octet 19 = .ok (.aload_n 0, 1) := by decide +kernel
theorem dX10_octet_20 : decode cX10_octet 20 = .ok (.getfield 63, 3) := by decide +kernel
theorem dX10_octet_23 : decode cX10_octet 23 = .ok (.getfield 393, 3) := by decide +kernel
theorem dX10_octet_26 : decode cX10_octet 26 = .ok (.iload_n 1, 1) := by decide +kernel
theorem dX10_octet_27 : decode cX10_octet 27 = .ok (.baload, 1) := by decide +kernel
theorem dX10_octet_28 : decode cX10_octet 28 = .ok (.ireturn, 1) := by decide +kernel
theorem dX10_count_0 : decode cX10_count 0 = .ok (.iload_n 1, 1) := by decide +kernel
theorem dX10_count_1 : decode cX10_count 1 = .ok (.tableswitch 147 0 12 #[67, 78, 89, 100, 111, 111, 111, 111, 111, 111, 123, 131, 139], 67) := by decide +kernel
theorem dX10_count_68 : decode cX10_count 68 = .ok (.aload_n 0, 1) := by decide +kernel
theorem dX10_count_69 : decode cX10_count 69 = .ok (.getfield 10, 3) := by decide +kernel
theorem dX10_count_72 : decode cX10_count 72 = .ok (.getfield 114, 3) := by decide +kernel
theorem dX10_count_75 : decode cX10_count 75 = .ok (.getfield 373, 3) := by decide +kernel
theorem dX10_count_78 : decode cX10_count 78 = .ok (.ireturn, 1) := by decide +kernel
theorem dX10_count_79 : decode cX10_count 79 = .ok (.aload_n 0, 1) := by decide +kernel
theorem dX10_count_80 : decode cX10_count 80 = .ok (.getfield 10, 3) := by decide +kernel
theorem dX10_count_83 : decode cX10_count 83 = .ok (.getfield 101, 3) := by decide +kernel
theorem dX10_count_86 : decode cX10_count 86 = .ok (.getfield 373, 3) := by decide +kernel
theorem dX10_count_89 : decode cX10_count 89 = .ok (.ireturn, 1) := by decide +kernel
theorem dX10_count_90 : decode cX10_count 90 = .ok (.aload_n 0, 1) := by decide +kernel
theorem dX10_count_91 : decode cX10_count 91 = .ok (.getfield 10, 3) := by decide +kernel
theorem dX10_count_94 : decode cX10_count 94 = .ok (.getfield 91, 3) := by decide +kernel
theorem dX10_count_97 : decode cX10_count 97 = .ok (.getfield 95, 3) := by decide +kernel
theorem dX10_count_100 : decode cX10_count 100 = .ok (.ireturn, 1) := by decide +kernel
theorem dX10_count_101 : decode cX10_count 101 = .ok (.aload_n 0, 1) := by decide +kernel
theorem dX10_count_102 : decode cX10_count 102 = .ok (.getfield 10, 3) := by decide +kernel
theorem dX10_count_105 : decode cX10_count 105 = .ok (.getfield 91, 3) := by decide +kernel
theorem dX10_count_108 : decode cX10_count 108 = .ok (.invokevirtual 397, 3) := by decide +kernel
theorem dX10_count_111 : decode cX10_count 111 = .ok (.ireturn, 1) := by decide +kernel
theorem dX10_count_112 : decode cX10_count 112 = .ok (.aload_n 0, 1) := by decide +kernel
theorem dX10_count_113 : decode cX10_count 113 = .ok (.getfield 10, 3) := by decide +kernel
theorem dX10_count_116 : decode cX10_count 116 = .ok (.getfield 216, 3) := by decide +kernel
theorem dX10_count_119 : decode cX10_count 119 = .ok (.iload_n 1, 1) := by decide +kernel
theorem dX10_count_120 : decode cX10_count 120 = .ok (.iconst 4, 1) := by decide +kernel
theorem dX10_count_121 : decode cX10_count 121 = .ok (.isub, 1) := by decide +kernel
theorem dX10_count_122 : decode cX10_count 122 = .ok (.iaload, 1) := by decide +kernel
theorem dX10_count_123 : decode cX10_count 123 = .ok (.ireturn, 1) := by decide +kernel
theorem dX10_count_124 : decode cX10_count 124 = .ok (.aload_n 0, 1) := by decide +kernel
theorem dX10_count_125 : decode cX10_count 125 = .ok (.getfield 31, 3) := by decide +kernel
theorem dX10_count_128 : decode cX10_count 128 = .ok (.getfield 88, 3) := by decide +kernel
theorem dX10_count_131 : decode cX10_count 131 = .ok (.ireturn, 1) := by decide +kernel
theorem dX10_count_132 : decode cX10_count 132 = .ok (.aload_n 0, 1) := by decide +kernel
theorem dX10_count_133 : decode cX10_count 133 = .ok (.getfield 63, 3) := by decide +kernel
theorem dX10_count_136 : decode cX10_count 136 = .ok (.getfield 377, 3) := by decide +kernel
theorem dX10_count_139 : decode cX10_count 139 = .ok (.ireturn, 1) := by decide +kernel
theorem dX10_count_140 : decode cX10_count 140 = .ok (.aload_n 0, 1) := by decide +kernel
theorem dX10_count_141 : decode cX10_count 141 = .ok (.getfield 10, 3) := by decide +kernel
theorem dX10_count_144 : decode cX10_count 144 = .ok (.invokevirtual 400, 3) := by decide +kernel
theorem dX10_count_147 : decode cX10_count 147 = .ok (.ireturn, 1) := by decide +kernel
theorem dX10_count_148 : decode cX10_count 148 = .ok (.iconst (-1), 1) := by decide +kernel
theorem dX10_count_149 : decode cX10_count 149 = .ok (.ireturn, 1) := by decide +kernel
theorem dX10_needFirm_0 : decode cX10_needFirm 0 = .ok (.iload_n 1, 1) := by decide +kernel
theorem dX10_needFirm_1 : decode cX10_needFirm 1 = .ok (.ifCond .lt 17, 3) := by decide +kernel
theorem dX10_needFirm_4 : decode cX10_needFirm 4 = .ok (.iload_n 1, 1) := by decide +kernel
theorem dX10_needFirm_5 : decode cX10_needFirm 5 = .ok (.aload_n 0, 1) := by decide +kernel
theorem dX10_needFirm_6 : decode cX10_needFirm 6 = .ok (.getfield 10, 3) := by decide +kernel
theorem dX10_needFirm_9 : decode cX10_needFirm 9 = .ok (.getfield 101, 3) := by decide +kernel
theorem dX10_needFirm_12 : decode cX10_needFirm 12 = .ok (.getfield 373, 3) := by decide +kernel
theorem dX10_needFirm_15 : decode cX10_needFirm 15 = .ok (.if_icmp .lt 14, 3) := by decide +kernel
theorem dX10_needFirm_18 : decode cX10_needFirm 18 = .ok (.new 403, 3) := by decide +kernel
theorem dX10_needFirm_21 : decode cX10_needFirm 21 = .ok (.dup, 1) := by decide +kernel
theorem dX10_needFirm_22 : decode cX10_needFirm 22 = .ok (.ldc_w 405, 3) := by decide +kernel
theorem dX10_needFirm_25 : decode cX10_needFirm 25 = .ok (.invokespecial 407, 3) := by decide +kernel
theorem dX10_needFirm_28 : decode cX10_needFirm 28 = .ok (.athrow, 1) := by decide +kernel
theorem dX10_needFirm_29 : decode cX10_needFirm 29 = .ok (.return_, 1) := by decide +kernel
theorem dX10_needModel_0 : decode cX10_needModel 0 = .ok (.iload_n 1, 1) := by decide +kernel
theorem dX10_needModel_1 : decode cX10_needModel 1 = .ok (.ifCond .lt 17, 3) := by decide +kernel
theorem dX10_needModel_4 : decode cX10_needModel 4 = .ok (.iload_n 1, 1) := by decide +kernel
theorem dX10_needModel_5 : decode cX10_needModel 5 = .ok (.aload_n 0, 1) := by decide +kernel
theorem dX10_needModel_6 : decode cX10_needModel 6 = .ok (.getfield 10, 3) := by decide +kernel
theorem dX10_needModel_9 : decode cX10_needModel 9 = .ok (.getfield 114, 3) := by decide +kernel
theorem dX10_needModel_12 : decode cX10_needModel 12 = .ok (.getfield 373, 3) := by decide +kernel
theorem dX10_needModel_15 : decode cX10_needModel 15 = .ok (.if_icmp .lt 14, 3) := by decide +kernel
theorem dX10_needModel_18 : decode cX10_needModel 18 = .ok (.new 403, 3) := by decide +kernel
theorem dX10_needModel_21 : decode cX10_needModel 21 = .ok (.dup, 1) := by decide +kernel
theorem dX10_needModel_22 : decode cX10_needModel 22 = .ok (.ldc_w 408, 3) := by decide +kernel
theorem dX10_needModel_25 : decode cX10_needModel 25 = .ok (.invokespecial 407, 3) := by decide +kernel
theorem dX10_needModel_28 : decode cX10_needModel 28 = .ok (.athrow, 1) := by decide +kernel
theorem dX10_needModel_29 : decode cX10_needModel 29 = .ok (.return_, 1) := by decide +kernel
theorem dX10_needSale_0 : decode cX10_needSale 0 = .ok (.iload_n 1, 1) := by decide +kernel
theorem dX10_needSale_1 : decode cX10_needSale 1 = .ok (.ifCond .lt 32, 3) := by decide +kernel
theorem dX10_needSale_4 : decode cX10_needSale 4 = .ok (.iload_n 1, 1) := by decide +kernel
theorem dX10_needSale_5 : decode cX10_needSale 5 = .ok (.aload_n 0, 1) := by decide +kernel
theorem dX10_needSale_6 : decode cX10_needSale 6 = .ok (.getfield 10, 3) := by decide +kernel
theorem dX10_needSale_9 : decode cX10_needSale 9 = .ok (.getfield 91, 3) := by decide +kernel
theorem dX10_needSale_12 : decode cX10_needSale 12 = .ok (.getfield 95, 3) := by decide +kernel
theorem dX10_needSale_15 : decode cX10_needSale 15 = .ok (.if_icmp .ge 18, 3) := by decide +kernel
theorem dX10_needSale_18 : decode cX10_needSale 18 = .ok (.aload_n 0, 1) := by decide +kernel
theorem dX10_needSale_19 : decode cX10_needSale 19 = .ok (.getfield 10, 3) := by decide +kernel
theorem dX10_needSale_22 : decode cX10_needSale 22 = .ok (.getfield 91, 3) := by decide +kernel
theorem dX10_needSale_25 : decode cX10_needSale 25 = .ok (.getfield 197, 3) := by decide +kernel
theorem dX10_needSale_28 : decode cX10_needSale 28 = .ok (.iload_n 1, 1) := by decide +kernel
theorem dX10_needSale_29 : decode cX10_needSale 29 = .ok (.baload, 1) := by decide +kernel
theorem dX10_needSale_30 : decode cX10_needSale 30 = .ok (.ifCond .ne 14, 3) := by decide +kernel
theorem dX10_needSale_33 : decode cX10_needSale 33 = .ok (.new 403, 3) := by decide +kernel
theorem dX10_needSale_36 : decode cX10_needSale 36 = .ok (.dup, 1) := by decide +kernel
theorem dX10_needSale_37 : decode cX10_needSale 37 = .ok (.ldc_w 410, 3) := by decide +kernel
theorem dX10_needSale_40 : decode cX10_needSale 40 = .ok (.invokespecial 407, 3) := by decide +kernel
theorem dX10_needSale_43 : decode cX10_needSale 43 = .ok (.athrow, 1) := by decide +kernel
theorem dX10_needSale_44 : decode cX10_needSale 44 = .ok (.return_, 1) := by decide +kernel
theorem dX10_needExport_0 : decode cX10_needExport 0 = .ok (.aload_n 0, 1) := by decide +kernel
theorem dX10_needExport_1 : decode cX10_needExport 1 = .ok (.iload_n 1, 1) := by decide +kernel
theorem dX10_needExport_2 : decode cX10_needExport 2 = .ok (.invokevirtual 135, 3) := by decide +kernel
theorem dX10_needExport_5 : decode cX10_needExport 5 = .ok (.aload_n 0, 1) := by decide +kernel
theorem dX10_needExport_6 : decode cX10_needExport 6 = .ok (.getfield 10, 3) := by decide +kernel
theorem dX10_needExport_9 : decode cX10_needExport 9 = .ok (.getfield 91, 3) := by decide +kernel
theorem dX10_needExport_12 : decode cX10_needExport 12 = .ok (.getfield 138, 3) := by decide +kernel
theorem dX10_needExport_15 : decode cX10_needExport 15 = .ok (.iload_n 1, 1) := by decide +kernel
theorem dX10_needExport_16 : decode cX10_needExport 16 = .ok (.iaload, 1) := by decide +kernel
theorem dX10_needExport_17 : decode cX10_needExport 17 = .ok (.iconst 1, 1) := by decide +kernel
theorem dX10_needExport_18 : decode cX10_needExport 18 = .ok (.if_icmp .eq 14, 3) := by decide +kernel
theorem dX10_needExport_21 : decode cX10_needExport 21 = .ok (.new 81, 3) := by decide +kernel
theorem dX10_needExport_24 : decode cX10_needExport 24 = .ok (.dup, 1) := by decide +kernel
theorem dX10_needExport_25 : decode cX10_needExport 25 = .ok (.ldc_w 412, 3) := by decide +kernel
theorem dX10_needExport_28 : decode cX10_needExport 28 = .ok (.invokespecial 85, 3) := by decide +kernel
theorem dX10_needExport_31 : decode cX10_needExport 31 = .ok (.athrow, 1) := by decide +kernel
theorem dX10_needExport_32 : decode cX10_needExport 32 = .ok (.return_, 1) := by decide +kernel
theorem dX10_needWithin_0 : decode cX10_needWithin 0 = .ok (.iload_n 0, 1) := by decide +kernel
theorem dX10_needWithin_1 : decode cX10_needWithin 1 = .ok (.iload_n 1, 1) := by decide +kernel
theorem dX10_needWithin_2 : decode cX10_needWithin 2 = .ok (.if_icmp .lt 8, 3) := by decide +kernel
theorem dX10_needWithin_5 : decode cX10_needWithin 5 = .ok (.iload_n 0, 1) := by decide +kernel
theorem dX10_needWithin_6 : decode cX10_needWithin 6 = .ok (.iload_n 2, 1) := by decide +kernel
theorem dX10_needWithin_7 : decode cX10_needWithin 7 = .ok (.if_icmp .le 14, 3) := by decide +kernel
theorem dX10_needWithin_10 : decode cX10_needWithin 10 = .ok (.new 81, 3) := by decide +kernel
theorem dX10_needWithin_13 : decode cX10_needWithin 13 = .ok (.dup, 1) := by decide +kernel
theorem dX10_needWithin_14 : decode cX10_needWithin 14 = .ok (.ldc_w 414, 3) := by decide +kernel
theorem dX10_needWithin_17 : decode cX10_needWithin 17 = .ok (.invokespecial 85, 3) := by decide +kernel
theorem dX10_needWithin_20 : decode cX10_needWithin 20 = .ok (.athrow, 1) := by decide +kernel
theorem dX10_needWithin_21 : decode cX10_needWithin 21 = .ok (.return_, 1) := by decide +kernel
theorem dX10_mostOfSetting_0 : decode cX10_mostOfSetting 0 = .ok (.iload_n 0, 1) := by decide +kernel
theorem dX10_mostOfSetting_1 : decode cX10_mostOfSetting 1 = .ok (.ifCond .ne 7, 3) := by decide +kernel
theorem dX10_mostOfSetting_4 : decode cX10_mostOfSetting 4 = .ok (.iconst 2, 1) := by decide +kernel
theorem dX10_mostOfSetting_5 : decode cX10_mostOfSetting 5 = .ok (.goto 19, 3) := by decide +kernel
theorem dX10_mostOfSetting_8 : decode cX10_mostOfSetting 8 = .ok (.iload_n 0, 1) := by decide +kernel
theorem dX10_mostOfSetting_9 : decode cX10_mostOfSetting 9 = .ok (.iconst 4, 1) := by decide +kernel
theorem dX10_mostOfSetting_10 : decode cX10_mostOfSetting 10 = .ok (.if_icmp .eq 8, 3) := by decide +kernel
theorem dX10_mostOfSetting_13 : decode cX10_mostOfSetting 13 = .ok (.iload_n 0, 1) := by decide +kernel
theorem dX10_mostOfSetting_14 : decode cX10_mostOfSetting 14 = .ok (.iconst 5, 1) := by decide +kernel
theorem dX10_mostOfSetting_15 : decode cX10_mostOfSetting 15 = .ok (.if_icmp .ne 8, 3) := by decide +kernel
theorem dX10_mostOfSetting_18 : decode cX10_mostOfSetting 18 = .ok (.bipush 99, 2) := by decide +kernel
theorem dX10_mostOfSetting_20 : decode cX10_mostOfSetting 20 = .ok (.goto 4, 3) := by decide +kernel
theorem dX10_mostOfSetting_23 : decode cX10_mostOfSetting 23 = .ok (.iconst 1, 1) := by decide +kernel
theorem dX10_mostOfSetting_24 : decode cX10_mostOfSetting 24 = .ok (.ireturn, 1) := by decide +kernel
