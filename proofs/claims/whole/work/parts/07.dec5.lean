theorem dL_read_0 : decode cL_read 0 = .ok (.aload_n 1, 1) := by decide +kernel
theorem dL_read_1 : decode cL_read 1 = .ok (.iconst 0, 1) := by decide +kernel
theorem dL_read_2 : decode cL_read 2 = .ok (.aload_n 0, 1) := by decide +kernel
theorem dL_read_3 : decode cL_read 3 = .ok (.invokevirtual 7, 3) := by decide +kernel
theorem dL_read_6 : decode cL_read 6 = .ok (.i2l, 1) := by decide +kernel
theorem dL_read_7 : decode cL_read 7 = .ok (.lastore, 1) := by decide +kernel
theorem dL_read_8 : decode cL_read 8 = .ok (.goto 6, 3) := by decide +kernel
theorem dL_read_11 : decode cL_read 11 = .ok (.astore_n 2, 1) := by decide +kernel
theorem dL_read_12 : decode cL_read 12 = .ok (.iconst 1, 1) := by decide +kernel
theorem dL_read_13 : decode cL_read 13 = .ok (.ireturn, 1) := by decide +kernel
theorem dL_read_14 : decode cL_read 14 = .ok (.iconst 0, 1) := by decide +kernel
theorem dL_read_15 : decode cL_read 15 = .ok (.ireturn, 1) := by decide +kernel
theorem dL_name_0 : decode cL_name 0 = .ok (.aload 4, 2) := by decide +kernel
theorem dL_name_2 : decode cL_name 2 = .ok (.iconst 0, 1) := by decide +kernel
theorem dL_name_3 : decode cL_name 3 = .ok (.aload_n 0, 1) := by decide +kernel
theorem dL_name_4 : decode cL_name 4 = .ok (.iload_n 1, 1) := by decide +kernel
theorem dL_name_5 : decode cL_name 5 = .ok (.iload_n 2, 1) := by decide +kernel
theorem dL_name_6 : decode cL_name 6 = .ok (.iload_n 3, 1) := by decide +kernel
theorem dL_name_7 : decode cL_name 7 = .ok (.invokevirtual 15, 3) := by decide +kernel
theorem dL_name_10 : decode cL_name 10 = .ok (.i2l, 1) := by decide +kernel
theorem dL_name_11 : decode cL_name 11 = .ok (.lastore, 1) := by decide +kernel
theorem dL_name_12 : decode cL_name 12 = .ok (.goto 7, 3) := by decide +kernel
theorem dL_name_15 : decode cL_name 15 = .ok (.astore 5, 2) := by decide +kernel
theorem dL_name_17 : decode cL_name 17 = .ok (.iconst 1, 1) := by decide +kernel
theorem dL_name_18 : decode cL_name 18 = .ok (.ireturn, 1) := by decide +kernel
theorem dL_name_19 : decode cL_name 19 = .ok (.iconst 0, 1) := by decide +kernel
theorem dL_name_20 : decode cL_name 20 = .ok (.ireturn, 1) := by decide +kernel
theorem dL_model_0 : decode cL_model 0 = .ok (.aload_n 3, 1) := by decide +kernel
theorem dL_model_1 : decode cL_model 1 = .ok (.iconst 0, 1) := by decide +kernel
theorem dL_model_2 : decode cL_model 2 = .ok (.aload_n 0, 1) := by decide +kernel
theorem dL_model_3 : decode cL_model 3 = .ok (.iload_n 1, 1) := by decide +kernel
theorem dL_model_4 : decode cL_model 4 = .ok (.iload_n 2, 1) := by decide +kernel
theorem dL_model_5 : decode cL_model 5 = .ok (.invokevirtual 21, 3) := by decide +kernel
theorem dL_model_8 : decode cL_model 8 = .ok (.i2l, 1) := by decide +kernel
theorem dL_model_9 : decode cL_model 9 = .ok (.lastore, 1) := by decide +kernel
theorem dL_model_10 : decode cL_model 10 = .ok (.goto 11, 3) := by decide +kernel
theorem dL_model_13 : decode cL_model 13 = .ok (.astore 4, 2) := by decide +kernel
theorem dL_model_15 : decode cL_model 15 = .ok (.iconst 1, 1) := by decide +kernel
theorem dL_model_16 : decode cL_model 16 = .ok (.ireturn, 1) := by decide +kernel
theorem dL_model_17 : decode cL_model 17 = .ok (.astore 4, 2) := by decide +kernel
theorem dL_model_19 : decode cL_model 19 = .ok (.iconst 2, 1) := by decide +kernel
theorem dL_model_20 : decode cL_model 20 = .ok (.ireturn, 1) := by decide +kernel
theorem dL_model_21 : decode cL_model 21 = .ok (.iconst 0, 1) := by decide +kernel
theorem dL_model_22 : decode cL_model 22 = .ok (.ireturn, 1) := by decide +kernel
theorem dL_cost_0 : decode cL_cost 0 = .ok (.aload_n 3, 1) := by decide +kernel
theorem dL_cost_1 : decode cL_cost 1 = .ok (.iconst 0, 1) := by decide +kernel
theorem dL_cost_2 : decode cL_cost 2 = .ok (.aload_n 0, 1) := by decide +kernel
theorem dL_cost_3 : decode cL_cost 3 = .ok (.iload_n 1, 1) := by decide +kernel
theorem dL_cost_4 : decode cL_cost 4 = .ok (.iload_n 2, 1) := by decide +kernel
theorem dL_cost_5 : decode cL_cost 5 = .ok (.invokevirtual 27, 3) := by decide +kernel
theorem dL_cost_8 : decode cL_cost 8 = .ok (.i2l, 1) := by decide +kernel
theorem dL_cost_9 : decode cL_cost 9 = .ok (.lastore, 1) := by decide +kernel
theorem dL_cost_10 : decode cL_cost 10 = .ok (.goto 7, 3) := by decide +kernel
theorem dL_cost_13 : decode cL_cost 13 = .ok (.astore 4, 2) := by decide +kernel
theorem dL_cost_15 : decode cL_cost 15 = .ok (.iconst 1, 1) := by decide +kernel
theorem dL_cost_16 : decode cL_cost 16 = .ok (.ireturn, 1) := by decide +kernel
theorem dL_cost_17 : decode cL_cost 17 = .ok (.iconst 0, 1) := by decide +kernel
theorem dL_cost_18 : decode cL_cost 18 = .ok (.ireturn, 1) := by decide +kernel
theorem dL_sale_0 : decode cL_sale 0 = .ok (.aload_n 3, 1) := by decide +kernel
theorem dL_sale_1 : decode cL_sale 1 = .ok (.iconst 0, 1) := by decide +kernel
theorem dL_sale_2 : decode cL_sale 2 = .ok (.aload_n 0, 1) := by decide +kernel
theorem dL_sale_3 : decode cL_sale 3 = .ok (.iload_n 1, 1) := by decide +kernel
theorem dL_sale_4 : decode cL_sale 4 = .ok (.iload_n 2, 1) := by decide +kernel
theorem dL_sale_5 : decode cL_sale 5 = .ok (.invokevirtual 30, 3) := by decide +kernel
theorem dL_sale_8 : decode cL_sale 8 = .ok (.i2l, 1) := by decide +kernel
theorem dL_sale_9 : decode cL_sale 9 = .ok (.lastore, 1) := by decide +kernel
theorem dL_sale_10 : decode cL_sale 10 = .ok (.goto 11, 3) := by decide +kernel
theorem dL_sale_13 : decode cL_sale 13 = .ok (.astore 4, 2) := by decide +kernel
theorem dL_sale_15 : decode cL_sale 15 = .ok (.iconst 1, 1) := by decide +kernel
theorem dL_sale_16 : decode cL_sale 16 = .ok (.ireturn, 1) := by decide +kernel
theorem dL_sale_17 : decode cL_sale 17 = .ok (.astore 4, 2) := by decide +kernel
theorem dL_sale_19 : decode cL_sale 19 = .ok (.iconst 2, 1) := by decide +kernel
theorem dL_sale_20 : decode cL_sale 20 = .ok (.ireturn, 1) := by decide +kernel
theorem dL_sale_21 : decode cL_sale 21 = .ok (.iconst 0, 1) := by decide +kernel
theorem dL_sale_22 : decode cL_sale 22 = .ok (.ireturn, 1) := by decide +kernel
theorem dL_put_0 : decode cL_put 0 = .ok (.aload 8, 2) := by decide +kernel
theorem dL_put_2 : decode cL_put 2 = .ok (.iconst 0, 1) := by decide +kernel
theorem dL_put_3 : decode cL_put 3 = .ok (.aload_n 0, 1) := by decide +kernel
theorem dL_put_4 : decode cL_put 4 = .ok (.iload_n 1, 1) := by decide +kernel
theorem dL_put_5 : decode cL_put 5 = .ok (.iload_n 2, 1) := by decide +kernel
theorem dL_put_6 : decode cL_put 6 = .ok (.iload_n 3, 1) := by decide +kernel
theorem dL_put_7 : decode cL_put 7 = .ok (.iload 4, 2) := by decide +kernel
theorem dL_put_9 : decode cL_put 9 = .ok (.iload 5, 2) := by decide +kernel
theorem dL_put_11 : decode cL_put 11 = .ok (.iload 6, 2) := by decide +kernel
theorem dL_put_13 : decode cL_put 13 = .ok (.iload 7, 2) := by decide +kernel
theorem dL_put_15 : decode cL_put 15 = .ok (.invokevirtual 33, 3) := by decide +kernel
theorem dL_put_18 : decode cL_put 18 = .ok (.i2l, 1) := by decide +kernel
theorem dL_put_19 : decode cL_put 19 = .ok (.lastore, 1) := by decide +kernel
theorem dL_put_20 : decode cL_put 20 = .ok (.goto 15, 3) := by decide +kernel
theorem dL_put_23 : decode cL_put 23 = .ok (.astore 9, 2) := by decide +kernel
theorem dL_put_25 : decode cL_put 25 = .ok (.iconst 1, 1) := by decide +kernel
theorem dL_put_26 : decode cL_put 26 = .ok (.ireturn, 1) := by decide +kernel
theorem dL_put_27 : decode cL_put 27 = .ok (.astore 9, 2) := by decide +kernel
theorem dL_put_29 : decode cL_put 29 = .ok (.iconst 2, 1) := by decide +kernel
theorem dL_put_30 : decode cL_put 30 = .ok (.ireturn, 1) := by decide +kernel
theorem dL_put_31 : decode cL_put 31 = .ok (.astore 9, 2) := by decide +kernel
theorem dL_put_33 : decode cL_put 33 = .ok (.iconst 3, 1) := by decide +kernel
theorem dL_put_34 : decode cL_put 34 = .ok (.ireturn, 1) := by decide +kernel
theorem dL_put_35 : decode cL_put 35 = .ok (.iconst 0, 1) := by decide +kernel
theorem dL_put_36 : decode cL_put 36 = .ok (.ireturn, 1) := by decide +kernel
theorem dL_drop_0 : decode cL_drop 0 = .ok (.aload_n 0, 1) := by decide +kernel
theorem dL_drop_1 : decode cL_drop 1 = .ok (.iload_n 1, 1) := by decide +kernel
theorem dL_drop_2 : decode cL_drop 2 = .ok (.invokevirtual 39, 3) := by decide +kernel
theorem dL_drop_5 : decode cL_drop 5 = .ok (.goto 6, 3) := by decide +kernel
theorem dL_drop_8 : decode cL_drop 8 = .ok (.astore_n 2, 1) := by decide +kernel
theorem dL_drop_9 : decode cL_drop 9 = .ok (.iconst 1, 1) := by decide +kernel
theorem dL_drop_10 : decode cL_drop 10 = .ok (.ireturn, 1) := by decide +kernel
theorem dL_drop_11 : decode cL_drop 11 = .ok (.iconst 0, 1) := by decide +kernel
theorem dL_drop_12 : decode cL_drop 12 = .ok (.ireturn, 1) := by decide +kernel
theorem dL_price_0 : decode cL_price 0 = .ok (.aload_n 3, 1) := by decide +kernel
theorem dL_price_1 : decode cL_price 1 = .ok (.iconst 0, 1) := by decide +kernel
theorem dL_price_2 : decode cL_price 2 = .ok (.aload_n 0, 1) := by decide +kernel
theorem dL_price_3 : decode cL_price 3 = .ok (.iload_n 1, 1) := by decide +kernel
theorem dL_price_4 : decode cL_price 4 = .ok (.iload_n 2, 1) := by decide +kernel
theorem dL_price_5 : decode cL_price 5 = .ok (.invokevirtual 43, 3) := by decide +kernel
theorem dL_price_8 : decode cL_price 8 = .ok (.i2l, 1) := by decide +kernel
theorem dL_price_9 : decode cL_price 9 = .ok (.lastore, 1) := by decide +kernel
theorem dL_price_10 : decode cL_price 10 = .ok (.goto 11, 3) := by decide +kernel
theorem dL_price_13 : decode cL_price 13 = .ok (.astore 4, 2) := by decide +kernel
theorem dL_price_15 : decode cL_price 15 = .ok (.iconst 1, 1) := by decide +kernel
theorem dL_price_16 : decode cL_price 16 = .ok (.ireturn, 1) := by decide +kernel
theorem dL_price_17 : decode cL_price 17 = .ok (.astore 4, 2) := by decide +kernel
theorem dL_price_19 : decode cL_price 19 = .ok (.iconst 2, 1) := by decide +kernel
theorem dL_price_20 : decode cL_price 20 = .ok (.ireturn, 1) := by decide +kernel
theorem dL_price_21 : decode cL_price 21 = .ok (.iconst 0, 1) := by decide +kernel
theorem dL_price_22 : decode cL_price 22 = .ok (.ireturn, 1) := by decide +kernel
theorem dL_costs_0 : decode cL_costs 0 = .ok (.aload 4, 2) := by decide +kernel
theorem dL_costs_2 : decode cL_costs 2 = .ok (.iconst 0, 1) := by decide +kernel
theorem dL_costs_3 : decode cL_costs 3 = .ok (.aload_n 0, 1) := by decide +kernel
theorem dL_costs_4 : decode cL_costs 4 = .ok (.iload_n 1, 1) := by decide +kernel
theorem dL_costs_5 : decode cL_costs 5 = .ok (.iload_n 2, 1) := by decide +kernel
theorem dL_costs_6 : decode cL_costs 6 = .ok (.iload_n 3, 1) := by decide +kernel
theorem dL_costs_7 : decode cL_costs 7 = .ok (.invokevirtual 46, 3) := by decide +kernel
theorem dL_costs_10 : decode cL_costs 10 = .ok (.i2l, 1) := by decide +kernel
theorem dL_costs_11 : decode cL_costs 11 = .ok (.lastore, 1) := by decide +kernel
theorem dL_costs_12 : decode cL_costs 12 = .ok (.goto 11, 3) := by decide +kernel
theorem dL_costs_15 : decode cL_costs 15 = .ok (.astore 5, 2) := by decide +kernel
theorem dL_costs_17 : decode cL_costs 17 = .ok (.iconst 1, 1) := by decide +kernel
theorem dL_costs_18 : decode cL_costs 18 = .ok (.ireturn, 1) := by decide +kernel
theorem dL_costs_19 : decode cL_costs 19 = .ok (.astore 5, 2) := by decide +kernel
theorem dL_costs_21 : decode cL_costs 21 = .ok (.iconst 2, 1) := by decide +kernel
theorem dL_costs_22 : decode cL_costs 22 = .ok (.ireturn, 1) := by decide +kernel
theorem dL_costs_23 : decode cL_costs 23 = .ok (.iconst 0, 1) := by decide +kernel
theorem dL_costs_24 : decode cL_costs 24 = .ok (.ireturn, 1) := by decide +kernel
theorem dL_set_0 : decode cL_set 0 = .ok (.aload_n 3, 1) := by decide +kernel
theorem dL_set_1 : decode cL_set 1 = .ok (.iconst 0, 1) := by decide +kernel
theorem dL_set_2 : decode cL_set 2 = .ok (.aload_n 0, 1) := by decide +kernel
theorem dL_set_3 : decode cL_set 3 = .ok (.iload_n 1, 1) := by decide +kernel
theorem dL_set_4 : decode cL_set 4 = .ok (.iload_n 2, 1) := by decide +kernel
theorem dL_set_5 : decode cL_set 5 = .ok (.invokevirtual 50, 3) := by decide +kernel
theorem dL_set_8 : decode cL_set 8 = .ok (.i2l, 1) := by decide +kernel
theorem dL_set_9 : decode cL_set 9 = .ok (.lastore, 1) := by decide +kernel
theorem dL_set_10 : decode cL_set 10 = .ok (.goto 11, 3) := by decide +kernel
theorem dL_set_13 : decode cL_set 13 = .ok (.astore 4, 2) := by decide +kernel
theorem dL_set_15 : decode cL_set 15 = .ok (.iconst 1, 1) := by decide +kernel
theorem dL_set_16 : decode cL_set 16 = .ok (.ireturn, 1) := by decide +kernel
theorem dL_set_17 : decode cL_set 17 = .ok (.astore 4, 2) := by decide +kernel
theorem dL_set_19 : decode cL_set 19 = .ok (.iconst 2, 1) := by decide +kernel
theorem dL_set_20 : decode cL_set 20 = .ok (.ireturn, 1) := by decide +kernel
theorem dL_set_21 : decode cL_set 21 = .ok (.iconst 0, 1) := by decide +kernel
theorem dL_set_22 : decode cL_set 22 = .ok (.ireturn, 1) := by decide +kernel
theorem dL_silent_0 : decode cL_silent 0 = .ok (.aload_n 3, 1) := by decide +kernel
theorem dL_silent_1 : decode cL_silent 1 = .ok (.iconst 0, 1) := by decide +kernel
theorem dL_silent_2 : decode cL_silent 2 = .ok (.aload_n 0, 1) := by decide +kernel
theorem dL_silent_3 : decode cL_silent 3 = .ok (.iload_n 1, 1) := by decide +kernel
theorem dL_silent_4 : decode cL_silent 4 = .ok (.iload_n 2, 1) := by decide +kernel
theorem dL_silent_5 : decode cL_silent 5 = .ok (.invokevirtual 53, 3) := by decide +kernel
theorem dL_silent_8 : decode cL_silent 8 = .ok (.ifCond .eq 7, 3) := by decide +kernel
theorem dL_silent_11 : decode cL_silent 11 = .ok (.lconst 1, 1) := by decide +kernel
theorem dL_silent_12 : decode cL_silent 12 = .ok (.goto 4, 3) := by decide +kernel
theorem dL_silent_15 : decode cL_silent 15 = .ok (.lconst 0, 1) := by decide +kernel
theorem dL_silent_16 : decode cL_silent 16 = .ok (.lastore, 1) := by decide +kernel
theorem dL_silent_17 : decode cL_silent 17 = .ok (.goto 7, 3) := by decide +kernel
theorem dL_silent_20 : decode cL_silent 20 = .ok (.astore 4, 2) := by decide +kernel
theorem dL_silent_22 : decode cL_silent 22 = .ok (.iconst 1, 1) := by decide +kernel
theorem dL_silent_23 : decode cL_silent 23 = .ok (.ireturn, 1) := by decide +kernel
theorem dL_silent_24 : decode cL_silent 24 = .ok (.iconst 0, 1) := by decide +kernel
theorem dL_silent_25 : decode cL_silent 25 = .ok (.ireturn, 1) := by decide +kernel
theorem dL_base_0 : decode cL_base 0 = .ok (.aload_n 2, 1) := by decide +kernel
theorem dL_base_1 : decode cL_base 1 = .ok (.iconst 0, 1) := by decide +kernel
theorem dL_base_2 : decode cL_base 2 = .ok (.aload_n 0, 1) := by decide +kernel
theorem dL_base_3 : decode cL_base 3 = .ok (.iload_n 1, 1) := by decide +kernel
theorem dL_base_4 : decode cL_base 4 = .ok (.invokevirtual 57, 3) := by decide +kernel
theorem dL_base_7 : decode cL_base 7 = .ok (.i2l, 1) := by decide +kernel
theorem dL_base_8 : decode cL_base 8 = .ok (.lastore, 1) := by decide +kernel
theorem dL_base_9 : decode cL_base 9 = .ok (.goto 6, 3) := by decide +kernel
theorem dL_base_12 : decode cL_base 12 = .ok (.astore_n 3, 1) := by decide +kernel
theorem dL_base_13 : decode cL_base 13 = .ok (.iconst 1, 1) := by decide +kernel
theorem dL_base_14 : decode cL_base 14 = .ok (.ireturn, 1) := by decide +kernel
theorem dL_base_15 : decode cL_base 15 = .ok (.iconst 0, 1) := by decide +kernel
theorem dL_base_16 : decode cL_base 16 = .ok (.ireturn, 1) := by decide +kernel
theorem dL_below_0 : decode cL_below 0 = .ok (.aload 4, 2) := by decide +kernel
theorem dL_below_2 : decode cL_below 2 = .ok (.iconst 0, 1) := by decide +kernel
theorem dL_below_3 : decode cL_below 3 = .ok (.aload_n 0, 1) := by decide +kernel
theorem dL_below_4 : decode cL_below 4 = .ok (.iload_n 1, 1) := by decide +kernel
theorem dL_below_5 : decode cL_below 5 = .ok (.iload_n 2, 1) := by decide +kernel
theorem dL_below_6 : decode cL_below 6 = .ok (.iload_n 3, 1) := by decide +kernel
theorem dL_below_7 : decode cL_below 7 = .ok (.invokevirtual 61, 3) := by decide +kernel
theorem dL_below_10 : decode cL_below 10 = .ok (.i2l, 1) := by decide +kernel
theorem dL_below_11 : decode cL_below 11 = .ok (.lastore, 1) := by decide +kernel
theorem dL_below_12 : decode cL_below 12 = .ok (.goto 11, 3) := by decide +kernel
theorem dL_below_15 : decode cL_below 15 = .ok (.astore 5, 2) := by decide +kernel
theorem dL_below_17 : decode cL_below 17 = .ok (.iconst 1, 1) := by decide +kernel
theorem dL_below_18 : decode cL_below 18 = .ok (.ireturn, 1) := by decide +kernel
theorem dL_below_19 : decode cL_below 19 = .ok (.astore 5, 2) := by decide +kernel
theorem dL_below_21 : decode cL_below 21 = .ok (.iconst 2, 1) := by decide +kernel
theorem dL_below_22 : decode cL_below 22 = .ok (.ireturn, 1) := by decide +kernel
theorem dL_below_23 : decode cL_below 23 = .ok (.iconst 0, 1) := by decide +kernel
theorem dL_below_24 : decode cL_below 24 = .ok (.ireturn, 1) := by decide +kernel
theorem dL_worth_0 : decode cL_worth 0 = .ok (.aload 5, 2) := by decide +kernel
theorem dL_worth_2 : decode cL_worth 2 = .ok (.iconst 0, 1) := by decide +kernel
theorem dL_worth_3 : decode cL_worth 3 = .ok (.aload_n 0, 1) := by decide +kernel
theorem dL_worth_4 : decode cL_worth 4 = .ok (.iload_n 1, 1) := by decide +kernel
theorem dL_worth_5 : decode cL_worth 5 = .ok (.iload_n 2, 1) := by decide +kernel
theorem dL_worth_6 : decode cL_worth 6 = .ok (.iload_n 3, 1) := by decide +kernel
theorem dL_worth_7 : decode cL_worth 7 = .ok (.iload 4, 2) := by decide +kernel
theorem dL_worth_9 : decode cL_worth 9 = .ok (.invokevirtual 64, 3) := by decide +kernel
theorem dL_worth_12 : decode cL_worth 12 = .ok (.lastore, 1) := by decide +kernel
theorem dL_worth_13 : decode cL_worth 13 = .ok (.goto 11, 3) := by decide +kernel
theorem dL_worth_16 : decode cL_worth 16 = .ok (.astore 6, 2) := by decide +kernel
theorem dL_worth_18 : decode cL_worth 18 = .ok (.iconst 1, 1) := by decide +kernel
theorem dL_worth_19 : decode cL_worth 19 = .ok (.ireturn, 1) := by decide +kernel
theorem dL_worth_20 : decode cL_worth 20 = .ok (.astore 6, 2) := by decide +kernel
theorem dL_worth_22 : decode cL_worth 22 = .ok (.iconst 2, 1) := by decide +kernel
theorem dL_worth_23 : decode cL_worth 23 = .ok (.ireturn, 1) := by decide +kernel
theorem dL_worth_24 : decode cL_worth 24 = .ok (.iconst 0, 1) := by decide +kernel
theorem dL_worth_25 : decode cL_worth 25 = .ok (.ireturn, 1) := by decide +kernel
theorem dL_found_0 : decode cL_found 0 = .ok (.aload 5, 2) := by decide +kernel
theorem dL_found_2 : decode cL_found 2 = .ok (.iconst 0, 1) := by decide +kernel
theorem dL_found_3 : decode cL_found 3 = .ok (.aload_n 0, 1) := by decide +kernel
theorem dL_found_4 : decode cL_found 4 = .ok (.iload_n 1, 1) := by decide +kernel
theorem dL_found_5 : decode cL_found 5 = .ok (.iload_n 2, 1) := by decide +kernel
theorem dL_found_6 : decode cL_found 6 = .ok (.iload_n 3, 1) := by decide +kernel
theorem dL_found_7 : decode cL_found 7 = .ok (.iload 4, 2) := by decide +kernel
theorem dL_found_9 : decode cL_found 9 = .ok (.invokevirtual 68, 3) := by decide +kernel
theorem dL_found_12 : decode cL_found 12 = .ok (.i2l, 1) := by decide +kernel
theorem dL_found_13 : decode cL_found 13 = .ok (.lastore, 1) := by decide +kernel
theorem dL_found_14 : decode cL_found 14 = .ok (.goto 15, 3) := by decide +kernel
theorem dL_found_17 : decode cL_found 17 = .ok (.astore 6, 2) := by decide +kernel
theorem dL_found_19 : decode cL_found 19 = .ok (.iconst 1, 1) := by decide +kernel
theorem dL_found_20 : decode cL_found 20 = .ok (.ireturn, 1) := by decide +kernel
theorem dL_found_21 : decode cL_found 21 = .ok (.astore 6, 2) := by decide +kernel
theorem dL_found_23 : decode cL_found 23 = .ok (.iconst 2, 1) := by decide +kernel
theorem dL_found_24 : decode cL_found 24 = .ok (.ireturn, 1) := by decide +kernel
theorem dL_found_25 : decode cL_found 25 = .ok (.astore 6, 2) := by decide +kernel
theorem dL_found_27 : decode cL_found 27 = .ok (.iconst 3, 1) := by decide +kernel
theorem dL_found_28 : decode cL_found 28 = .ok (.ireturn, 1) := by decide +kernel
theorem dL_found_29 : decode cL_found 29 = .ok (.iconst 0, 1) := by decide +kernel
theorem dL_found_30 : decode cL_found 30 = .ok (.ireturn, 1) := by decide +kernel
theorem dL_match_0 : decode cL_match 0 = .ok (.aload_n 2, 1) := by decide +kernel
theorem dL_match_1 : decode cL_match 1 = .ok (.iconst 0, 1) := by decide +kernel
theorem dL_match_2 : decode cL_match 2 = .ok (.aload_n 0, 1) := by decide +kernel
theorem dL_match_3 : decode cL_match 3 = .ok (.iload_n 1, 1) := by decide +kernel
theorem dL_match_4 : decode cL_match 4 = .ok (.invokevirtual 72, 3) := by decide +kernel
theorem dL_match_7 : decode cL_match 7 = .ok (.i2l, 1) := by decide +kernel
theorem dL_match_8 : decode cL_match 8 = .ok (.lastore, 1) := by decide +kernel
theorem dL_match_9 : decode cL_match 9 = .ok (.goto 9, 3) := by decide +kernel
theorem dL_match_12 : decode cL_match 12 = .ok (.astore_n 3, 1) := by decide +kernel
theorem dL_match_13 : decode cL_match 13 = .ok (.iconst 1, 1) := by decide +kernel
theorem dL_match_14 : decode cL_match 14 = .ok (.ireturn, 1) := by decide +kernel
theorem dL_match_15 : decode cL_match 15 = .ok (.astore_n 3, 1) := by decide +kernel
theorem dL_match_16 : decode cL_match 16 = .ok (.iconst 2, 1) := by decide +kernel
theorem dL_match_17 : decode cL_match 17 = .ok (.ireturn, 1) := by decide +kernel
theorem dL_match_18 : decode cL_match 18 = .ok (.iconst 0, 1) := by decide +kernel
theorem dL_match_19 : decode cL_match 19 = .ok (.ireturn, 1) := by decide +kernel
theorem dL_difference_0 : decode cL_difference 0 = .ok (.aload_n 3, 1) := by decide +kernel
theorem dL_difference_1 : decode cL_difference 1 = .ok (.iconst 0, 1) := by decide +kernel
theorem dL_difference_2 : decode cL_difference 2 = .ok (.aload_n 0, 1) := by decide +kernel
theorem dL_difference_3 : decode cL_difference 3 = .ok (.iload_n 1, 1) := by decide +kernel
theorem dL_difference_4 : decode cL_difference 4 = .ok (.iload_n 2, 1) := by decide +kernel
theorem dL_difference_5 : decode cL_difference 5 = .ok (.invokevirtual 75, 3) := by decide +kernel
theorem dL_difference_8 : decode cL_difference 8 = .ok (.lastore, 1) := by decide +kernel
theorem dL_difference_9 : decode cL_difference 9 = .ok (.goto 11, 3) := by decide +kernel
theorem dL_difference_12 : decode cL_difference 12 = .ok (.astore 4, 2) := by decide +kernel
theorem dL_difference_14 : decode cL_difference 14 = .ok (.iconst 1, 1) := by decide +kernel
theorem dL_difference_15 : decode cL_difference 15 = .ok (.ireturn, 1) := by decide +kernel
theorem dL_difference_16 : decode cL_difference 16 = .ok (.astore 4, 2) := by decide +kernel
theorem dL_difference_18 : decode cL_difference 18 = .ok (.iconst 2, 1) := by decide +kernel
theorem dL_difference_19 : decode cL_difference 19 = .ok (.ireturn, 1) := by decide +kernel
theorem dL_difference_20 : decode cL_difference 20 = .ok (.iconst 0, 1) := by decide +kernel
theorem dL_difference_21 : decode cL_difference 21 = .ok (.ireturn, 1) := by decide +kernel
theorem dL_groups_0 : decode cL_groups 0 = .ok (.aload_n 2, 1) := by decide +kernel
theorem dL_groups_1 : decode cL_groups 1 = .ok (.iconst 0, 1) := by decide +kernel
theorem dL_groups_2 : decode cL_groups 2 = .ok (.aload_n 0, 1) := by decide +kernel
theorem dL_groups_3 : decode cL_groups 3 = .ok (.iload_n 1, 1) := by decide +kernel
theorem dL_groups_4 : decode cL_groups 4 = .ok (.invokevirtual 79, 3) := by decide +kernel
theorem dL_groups_7 : decode cL_groups 7 = .ok (.i2l, 1) := by decide +kernel
theorem dL_groups_8 : decode cL_groups 8 = .ok (.lastore, 1) := by decide +kernel
theorem dL_groups_9 : decode cL_groups 9 = .ok (.goto 6, 3) := by decide +kernel
theorem dL_groups_12 : decode cL_groups 12 = .ok (.astore_n 3, 1) := by decide +kernel
theorem dL_groups_13 : decode cL_groups 13 = .ok (.iconst 1, 1) := by decide +kernel
theorem dL_groups_14 : decode cL_groups 14 = .ok (.ireturn, 1) := by decide +kernel
theorem dL_groups_15 : decode cL_groups 15 = .ok (.iconst 0, 1) := by decide +kernel
theorem dL_groups_16 : decode cL_groups 16 = .ok (.ireturn, 1) := by decide +kernel
theorem dL_group_0 : decode cL_group 0 = .ok (.aload 4, 2) := by decide +kernel
theorem dL_group_2 : decode cL_group 2 = .ok (.iconst 0, 1) := by decide +kernel
theorem dL_group_3 : decode cL_group 3 = .ok (.aload_n 0, 1) := by decide +kernel
theorem dL_group_4 : decode cL_group 4 = .ok (.iload_n 1, 1) := by decide +kernel
theorem dL_group_5 : decode cL_group 5 = .ok (.iload_n 2, 1) := by decide +kernel
theorem dL_group_6 : decode cL_group 6 = .ok (.iload_n 3, 1) := by decide +kernel
theorem dL_group_7 : decode cL_group 7 = .ok (.invokevirtual 82, 3) := by decide +kernel
theorem dL_group_10 : decode cL_group 10 = .ok (.lastore, 1) := by decide +kernel
theorem dL_group_11 : decode cL_group 11 = .ok (.goto 11, 3) := by decide +kernel
theorem dL_group_14 : decode cL_group 14 = .ok (.astore 5, 2) := by decide +kernel
theorem dL_group_16 : decode cL_group 16 = .ok (.iconst 1, 1) := by decide +kernel
theorem dL_group_17 : decode cL_group 17 = .ok (.ireturn, 1) := by decide +kernel
theorem dL_group_18 : decode cL_group 18 = .ok (.astore 5, 2) := by decide +kernel
theorem dL_group_20 : decode cL_group 20 = .ok (.iconst 2, 1) := by decide +kernel
theorem dL_group_21 : decode cL_group 21 = .ok (.ireturn, 1) := by decide +kernel
theorem dL_group_22 : decode cL_group 22 = .ok (.iconst 0, 1) := by decide +kernel
theorem dL_group_23 : decode cL_group 23 = .ok (.ireturn, 1) := by decide +kernel
theorem dL_sum_0 : decode cL_sum 0 = .ok (.aload 4, 2) := by decide +kernel
theorem dL_sum_2 : decode cL_sum 2 = .ok (.iconst 0, 1) := by decide +kernel
theorem dL_sum_3 : decode cL_sum 3 = .ok (.aload_n 0, 1) := by decide +kernel
theorem dL_sum_4 : decode cL_sum 4 = .ok (.iload_n 1, 1) := by decide +kernel
theorem dL_sum_5 : decode cL_sum 5 = .ok (.iload_n 2, 1) := by decide +kernel
theorem dL_sum_6 : decode cL_sum 6 = .ok (.iload_n 3, 1) := by decide +kernel
theorem dL_sum_7 : decode cL_sum 7 = .ok (.invokevirtual 86, 3) := by decide +kernel
theorem dL_sum_10 : decode cL_sum 10 = .ok (.lastore, 1) := by decide +kernel
theorem dL_sum_11 : decode cL_sum 11 = .ok (.goto 11, 3) := by decide +kernel
theorem dL_sum_14 : decode cL_sum 14 = .ok (.astore 5, 2) := by decide +kernel
theorem dL_sum_16 : decode cL_sum 16 = .ok (.iconst 1, 1) := by decide +kernel
theorem dL_sum_17 : decode cL_sum 17 = .ok (.ireturn, 1) := by decide +kernel
theorem dL_sum_18 : decode cL_sum 18 = .ok (.astore 5, 2) := by decide +kernel
theorem dL_sum_20 : decode cL_sum 20 = .ok (.iconst 2, 1) := by decide +kernel
theorem dL_sum_21 : decode cL_sum 21 = .ok (.ireturn, 1) := by decide +kernel
theorem dL_sum_22 : decode cL_sum 22 = .ok (.iconst 0, 1) := by decide +kernel
theorem dL_sum_23 : decode cL_sum 23 = .ok (.ireturn, 1) := by decide +kernel
theorem dL_value_0 : decode cL_value 0 = .ok (.aload_n 2, 1) := by decide +kernel
theorem dL_value_1 : decode cL_value 1 = .ok (.iconst 0, 1) := by decide +kernel
theorem dL_value_2 : decode cL_value 2 = .ok (.aload_n 0, 1) := by decide +kernel
theorem dL_value_3 : decode cL_value 3 = .ok (.iload_n 1, 1) := by decide +kernel
theorem dL_value_4 : decode cL_value 4 = .ok (.invokevirtual 90, 3) := by decide +kernel
theorem dL_value_7 : decode cL_value 7 = .ok (.lastore, 1) := by decide +kernel
theorem dL_value_8 : decode cL_value 8 = .ok (.goto 6, 3) := by decide +kernel
theorem dL_value_11 : decode cL_value 11 = .ok (.astore_n 3, 1) := by decide +kernel
theorem dL_value_12 : decode cL_value 12 = .ok (.iconst 1, 1) := by decide +kernel
theorem dL_value_13 : decode cL_value 13 = .ok (.ireturn, 1) := by decide +kernel
theorem dL_value_14 : decode cL_value 14 = .ok (.iconst 0, 1) := by decide +kernel
theorem dL_value_15 : decode cL_value 15 = .ok (.ireturn, 1) := by decide +kernel
theorem dL_margin_0 : decode cL_margin 0 = .ok (.aload 4, 2) := by decide +kernel
theorem dL_margin_2 : decode cL_margin 2 = .ok (.iconst 0, 1) := by decide +kernel
theorem dL_margin_3 : decode cL_margin 3 = .ok (.aload_n 0, 1) := by decide +kernel
theorem dL_margin_4 : decode cL_margin 4 = .ok (.iload_n 1, 1) := by decide +kernel
theorem dL_margin_5 : decode cL_margin 5 = .ok (.iload_n 2, 1) := by decide +kernel
theorem dL_margin_6 : decode cL_margin 6 = .ok (.iload_n 3, 1) := by decide +kernel
theorem dL_margin_7 : decode cL_margin 7 = .ok (.invokevirtual 94, 3) := by decide +kernel
theorem dL_margin_10 : decode cL_margin 10 = .ok (.i2l, 1) := by decide +kernel
theorem dL_margin_11 : decode cL_margin 11 = .ok (.lastore, 1) := by decide +kernel
theorem dL_margin_12 : decode cL_margin 12 = .ok (.goto 11, 3) := by decide +kernel
theorem dL_margin_15 : decode cL_margin 15 = .ok (.astore 5, 2) := by decide +kernel
theorem dL_margin_17 : decode cL_margin 17 = .ok (.iconst 1, 1) := by decide +kernel
theorem dL_margin_18 : decode cL_margin 18 = .ok (.ireturn, 1) := by decide +kernel
theorem dL_margin_19 : decode cL_margin 19 = .ok (.astore 5, 2) := by decide +kernel
theorem dL_margin_21 : decode cL_margin 21 = .ok (.iconst 2, 1) := by decide +kernel
theorem dL_margin_22 : decode cL_margin 22 = .ok (.ireturn, 1) := by decide +kernel
theorem dL_margin_23 : decode cL_margin 23 = .ok (.iconst 0, 1) := by decide +kernel
theorem dL_margin_24 : decode cL_margin 24 = .ok (.ireturn, 1) := by decide +kernel
theorem dL_negligible_0 : decode cL_negligible 0 = .ok (.aload_n 2, 1) := by decide +kernel
theorem dL_negligible_1 : decode cL_negligible 1 = .ok (.iconst 0, 1) := by decide +kernel
theorem dL_negligible_2 : decode cL_negligible 2 = .ok (.aload_n 0, 1) := by decide +kernel
theorem dL_negligible_3 : decode cL_negligible 3 = .ok (.iload_n 1, 1) := by decide +kernel
theorem dL_negligible_4 : decode cL_negligible 4 = .ok (.invokevirtual 98, 3) := by decide +kernel
theorem dL_negligible_7 : decode cL_negligible 7 = .ok (.ifCond .eq 7, 3) := by decide +kernel
theorem dL_negligible_10 : decode cL_negligible 10 = .ok (.lconst 1, 1) := by decide +kernel
theorem dL_negligible_11 : decode cL_negligible 11 = .ok (.goto 4, 3) := by decide +kernel
theorem dL_negligible_14 : decode cL_negligible 14 = .ok (.lconst 0, 1) := by decide +kernel
theorem dL_negligible_15 : decode cL_negligible 15 = .ok (.lastore, 1) := by decide +kernel
theorem dL_negligible_16 : decode cL_negligible 16 = .ok (.goto 6, 3) := by decide +kernel
theorem dL_negligible_19 : decode cL_negligible 19 = .ok (.astore_n 3, 1) := by decide +kernel
theorem dL_negligible_20 : decode cL_negligible 20 = .ok (.iconst 1, 1) := by decide +kernel
theorem dL_negligible_21 : decode cL_negligible 21 = .ok (.ireturn, 1) := by decide +kernel
theorem dL_negligible_22 : decode cL_negligible 22 = .ok (.iconst 0, 1) := by decide +kernel
theorem dL_negligible_23 : decode cL_negligible 23 = .ok (.ireturn, 1) := by decide +kernel
theorem dL_duty_0 : decode cL_duty 0 = .ok (.aload_n 3, 1) := by decide +kernel
theorem dL_duty_1 : decode cL_duty 1 = .ok (.iconst 0, 1) := by decide +kernel
theorem dL_duty_2 : decode cL_duty 2 = .ok (.aload_n 0, 1) := by decide +kernel
theorem dL_duty_3 : decode cL_duty 3 = .ok (.iload_n 1, 1) := by decide +kernel
theorem dL_duty_4 : decode cL_duty 4 = .ok (.iload_n 2, 1) := by decide +kernel
theorem dL_duty_5 : decode cL_duty 5 = .ok (.invokevirtual 102, 3) := by decide +kernel
theorem dL_duty_8 : decode cL_duty 8 = .ok (.i2l, 1) := by decide +kernel
theorem dL_duty_9 : decode cL_duty 9 = .ok (.lastore, 1) := by decide +kernel
theorem dL_duty_10 : decode cL_duty 10 = .ok (.goto 11, 3) := by decide +kernel
theorem dL_duty_13 : decode cL_duty 13 = .ok (.astore 4, 2) := by decide +kernel
theorem dL_duty_15 : decode cL_duty 15 = .ok (.iconst 1, 1) := by decide +kernel
theorem dL_duty_16 : decode cL_duty 16 = .ok (.ireturn, 1) := by decide +kernel
theorem dL_duty_17 : decode cL_duty 17 = .ok (.astore 4, 2) := by decide +kernel
theorem dL_duty_19 : decode cL_duty 19 = .ok (.iconst 2, 1) := by decide +kernel
theorem dL_duty_20 : decode cL_duty 20 = .ok (.ireturn, 1) := by decide +kernel
theorem dL_duty_21 : decode cL_duty 21 = .ok (.iconst 0, 1) := by decide +kernel
theorem dL_duty_22 : decode cL_duty 22 = .ok (.ireturn, 1) := by decide +kernel
theorem dL_method_0 : decode cL_method 0 = .ok (.aload_n 3, 1) := by decide +kernel
theorem dL_method_1 : decode cL_method 1 = .ok (.iconst 0, 1) := by decide +kernel
theorem dL_method_2 : decode cL_method 2 = .ok (.aload_n 0, 1) := by decide +kernel
theorem dL_method_3 : decode cL_method 3 = .ok (.iload_n 1, 1) := by decide +kernel
theorem dL_method_4 : decode cL_method 4 = .ok (.iload_n 2, 1) := by decide +kernel
theorem dL_method_5 : decode cL_method 5 = .ok (.invokevirtual 105, 3) := by decide +kernel
theorem dL_method_8 : decode cL_method 8 = .ok (.i2l, 1) := by decide +kernel
theorem dL_method_9 : decode cL_method 9 = .ok (.lastore, 1) := by decide +kernel
theorem dL_method_10 : decode cL_method 10 = .ok (.goto 11, 3) := by decide +kernel
theorem dL_method_13 : decode cL_method 13 = .ok (.astore 4, 2) := by decide +kernel
theorem dL_method_15 : decode cL_method 15 = .ok (.iconst 1, 1) := by decide +kernel
theorem dL_method_16 : decode cL_method 16 = .ok (.ireturn, 1) := by decide +kernel
theorem dL_method_17 : decode cL_method 17 = .ok (.astore 4, 2) := by decide +kernel
theorem dL_method_19 : decode cL_method 19 = .ok (.iconst 2, 1) := by decide +kernel
theorem dL_method_20 : decode cL_method 20 = .ok (.ireturn, 1) := by decide +kernel
theorem dL_method_21 : decode cL_method 21 = .ok (.iconst 0, 1) := by decide +kernel
theorem dL_method_22 : decode cL_method 22 = .ok (.ireturn, 1) := by decide +kernel
theorem dL_undertaking_0 : decode cL_undertaking 0 = .ok (.aload_n 2, 1) := by decide +kernel
theorem dL_undertaking_1 : decode cL_undertaking 1 = .ok (.iconst 0, 1) := by decide +kernel
theorem dL_undertaking_2 : decode cL_undertaking 2 = .ok (.aload_n 0, 1) := by decide +kernel
theorem dL_undertaking_3 : decode cL_undertaking 3 = .ok (.iload_n 1, 1) := by decide +kernel
theorem dL_undertaking_4 : decode cL_undertaking 4 = .ok (.invokevirtual 108, 3) := by decide +kernel
theorem dL_undertaking_7 : decode cL_undertaking 7 = .ok (.i2l, 1) := by decide +kernel
theorem dL_undertaking_8 : decode cL_undertaking 8 = .ok (.lastore, 1) := by decide +kernel
theorem dL_undertaking_9 : decode cL_undertaking 9 = .ok (.goto 9, 3) := by decide +kernel
theorem dL_undertaking_12 : decode cL_undertaking 12 = .ok (.astore_n 3, 1) := by decide +kernel
theorem dL_undertaking_13 : decode cL_undertaking 13 = .ok (.iconst 1, 1) := by decide +kernel
theorem dL_undertaking_14 : decode cL_undertaking 14 = .ok (.ireturn, 1) := by decide +kernel
theorem dL_undertaking_15 : decode cL_undertaking 15 = .ok (.astore_n 3, 1) := by decide +kernel
theorem dL_undertaking_16 : decode cL_undertaking 16 = .ok (.iconst 2, 1) := by decide +kernel
theorem dL_undertaking_17 : decode cL_undertaking 17 = .ok (.ireturn, 1) := by decide +kernel
theorem dL_undertaking_18 : decode cL_undertaking 18 = .ok (.iconst 0, 1) := by decide +kernel
theorem dL_undertaking_19 : decode cL_undertaking 19 = .ok (.ireturn, 1) := by decide +kernel
theorem dL_picked_0 : decode cL_picked 0 = .ok (.aload_n 2, 1) := by decide +kernel
theorem dL_picked_1 : decode cL_picked 1 = .ok (.iconst 0, 1) := by decide +kernel
theorem dL_picked_2 : decode cL_picked 2 = .ok (.aload_n 0, 1) := by decide +kernel
theorem dL_picked_3 : decode cL_picked 3 = .ok (.iload_n 1, 1) := by decide +kernel
theorem dL_picked_4 : decode cL_picked 4 = .ok (.invokevirtual 111, 3) := by decide +kernel
theorem dL_picked_7 : decode cL_picked 7 = .ok (.i2l, 1) := by decide +kernel
theorem dL_picked_8 : decode cL_picked 8 = .ok (.lastore, 1) := by decide +kernel
theorem dL_picked_9 : decode cL_picked 9 = .ok (.goto 6, 3) := by decide +kernel
theorem dL_picked_12 : decode cL_picked 12 = .ok (.astore_n 3, 1) := by decide +kernel
theorem dL_picked_13 : decode cL_picked 13 = .ok (.iconst 1, 1) := by decide +kernel
theorem dL_picked_14 : decode cL_picked 14 = .ok (.ireturn, 1) := by decide +kernel
theorem dL_picked_15 : decode cL_picked 15 = .ok (.iconst 0, 1) := by decide +kernel
theorem dL_picked_16 : decode cL_picked 16 = .ok (.ireturn, 1) := by decide +kernel
theorem dL_collected_0 : decode cL_collected 0 = .ok (.aload_n 3, 1) := by decide +kernel
theorem dL_collected_1 : decode cL_collected 1 = .ok (.iconst 0, 1) := by decide +kernel
theorem dL_collected_2 : decode cL_collected 2 = .ok (.aload_n 0, 1) := by decide +kernel
theorem dL_collected_3 : decode cL_collected 3 = .ok (.iload_n 1, 1) := by decide +kernel
theorem dL_collected_4 : decode cL_collected 4 = .ok (.iload_n 2, 1) := by decide +kernel
theorem dL_collected_5 : decode cL_collected 5 = .ok (.invokevirtual 114, 3) := by decide +kernel
theorem dL_collected_8 : decode cL_collected 8 = .ok (.lastore, 1) := by decide +kernel
theorem dL_collected_9 : decode cL_collected 9 = .ok (.goto 11, 3) := by decide +kernel
theorem dL_collected_12 : decode cL_collected 12 = .ok (.astore 4, 2) := by decide +kernel
theorem dL_collected_14 : decode cL_collected 14 = .ok (.iconst 1, 1) := by decide +kernel
theorem dL_collected_15 : decode cL_collected 15 = .ok (.ireturn, 1) := by decide +kernel
theorem dL_collected_16 : decode cL_collected 16 = .ok (.astore 4, 2) := by decide +kernel
theorem dL_collected_18 : decode cL_collected 18 = .ok (.iconst 2, 1) := by decide +kernel
theorem dL_collected_19 : decode cL_collected 19 = .ok (.ireturn, 1) := by decide +kernel
theorem dL_collected_20 : decode cL_collected 20 = .ok (.iconst 0, 1) := by decide +kernel
theorem dL_collected_21 : decode cL_collected 21 = .ok (.ireturn, 1) := by decide +kernel
theorem dL_back_0 : decode cL_back 0 = .ok (.aload_n 2, 1) := by decide +kernel
theorem dL_back_1 : decode cL_back 1 = .ok (.iconst 0, 1) := by decide +kernel
theorem dL_back_2 : decode cL_back 2 = .ok (.aload_n 0, 1) := by decide +kernel
theorem dL_back_3 : decode cL_back 3 = .ok (.iload_n 1, 1) := by decide +kernel
theorem dL_back_4 : decode cL_back 4 = .ok (.invokevirtual 118, 3) := by decide +kernel
theorem dL_back_7 : decode cL_back 7 = .ok (.lastore, 1) := by decide +kernel
theorem dL_back_8 : decode cL_back 8 = .ok (.goto 6, 3) := by decide +kernel
theorem dL_back_11 : decode cL_back 11 = .ok (.astore_n 3, 1) := by decide +kernel
theorem dL_back_12 : decode cL_back 12 = .ok (.iconst 1, 1) := by decide +kernel
theorem dL_back_13 : decode cL_back 13 = .ok (.ireturn, 1) := by decide +kernel
theorem dL_back_14 : decode cL_back 14 = .ok (.iconst 0, 1) := by decide +kernel
theorem dL_back_15 : decode cL_back 15 = .ok (.ireturn, 1) := by decide +kernel
theorem dL_weight_0 : decode cL_weight 0 = .ok (.aload_n 2, 1) := by decide +kernel
theorem dL_weight_1 : decode cL_weight 1 = .ok (.iconst 0, 1) := by decide +kernel
theorem dL_weight_2 : decode cL_weight 2 = .ok (.aload_n 0, 1) := by decide +kernel
theorem dL_weight_3 : decode cL_weight 3 = .ok (.iload_n 1, 1) := by decide +kernel
theorem dL_weight_4 : decode cL_weight 4 = .ok (.invokevirtual 121, 3) := by decide +kernel
theorem dL_weight_7 : decode cL_weight 7 = .ok (.i2l, 1) := by decide +kernel
theorem dL_weight_8 : decode cL_weight 8 = .ok (.lastore, 1) := by decide +kernel
theorem dL_weight_9 : decode cL_weight 9 = .ok (.goto 6, 3) := by decide +kernel
theorem dL_weight_12 : decode cL_weight 12 = .ok (.astore_n 3, 1) := by decide +kernel
theorem dL_weight_13 : decode cL_weight 13 = .ok (.iconst 1, 1) := by decide +kernel
theorem dL_weight_14 : decode cL_weight 14 = .ok (.ireturn, 1) := by decide +kernel
theorem dL_weight_15 : decode cL_weight 15 = .ok (.iconst 0, 1) := by decide +kernel
theorem dL_weight_16 : decode cL_weight 16 = .ok (.ireturn, 1) := by decide +kernel
theorem dL_heaviest_0 : decode cL_heaviest 0 = .ok (.aload_n 3, 1) := by decide +kernel
theorem dL_heaviest_1 : decode cL_heaviest 1 = .ok (.iconst 0, 1) := by decide +kernel
theorem dL_heaviest_2 : decode cL_heaviest 2 = .ok (.aload_n 0, 1) := by decide +kernel
theorem dL_heaviest_3 : decode cL_heaviest 3 = .ok (.iload_n 1, 1) := by decide +kernel
theorem dL_heaviest_4 : decode cL_heaviest 4 = .ok (.iload_n 2, 1) := by decide +kernel
theorem dL_heaviest_5 : decode cL_heaviest 5 = .ok (.invokevirtual 124, 3) := by decide +kernel
theorem dL_heaviest_8 : decode cL_heaviest 8 = .ok (.i2l, 1) := by decide +kernel
theorem dL_heaviest_9 : decode cL_heaviest 9 = .ok (.lastore, 1) := by decide +kernel
theorem dL_heaviest_10 : decode cL_heaviest 10 = .ok (.goto 7, 3) := by decide +kernel
theorem dL_heaviest_13 : decode cL_heaviest 13 = .ok (.astore 4, 2) := by decide +kernel
theorem dL_heaviest_15 : decode cL_heaviest 15 = .ok (.iconst 1, 1) := by decide +kernel
theorem dL_heaviest_16 : decode cL_heaviest 16 = .ok (.ireturn, 1) := by decide +kernel
theorem dL_heaviest_17 : decode cL_heaviest 17 = .ok (.iconst 0, 1) := by decide +kernel
theorem dL_heaviest_18 : decode cL_heaviest 18 = .ok (.ireturn, 1) := by decide +kernel
theorem dL_write_0 : decode cL_write 0 = .ok (.aload_n 2, 1) := by decide +kernel
theorem dL_write_1 : decode cL_write 1 = .ok (.iconst 0, 1) := by decide +kernel
theorem dL_write_2 : decode cL_write 2 = .ok (.aload_n 0, 1) := by decide +kernel
theorem dL_write_3 : decode cL_write 3 = .ok (.iload_n 1, 1) := by decide +kernel
theorem dL_write_4 : decode cL_write 4 = .ok (.invokevirtual 128, 3) := by decide +kernel
theorem dL_write_7 : decode cL_write 7 = .ok (.i2l, 1) := by decide +kernel
theorem dL_write_8 : decode cL_write 8 = .ok (.lastore, 1) := by decide +kernel
theorem dL_write_9 : decode cL_write 9 = .ok (.goto 6, 3) := by decide +kernel
theorem dL_write_12 : decode cL_write 12 = .ok (.astore_n 3, 1) := by decide +kernel
theorem dL_write_13 : decode cL_write 13 = .ok (.iconst 1, 1) := by decide +kernel
theorem dL_write_14 : decode cL_write 14 = .ok (.ireturn, 1) := by decide +kernel
theorem dL_write_15 : decode cL_write 15 = .ok (.iconst 0, 1) := by decide +kernel
theorem dL_write_16 : decode cL_write 16 = .ok (.ireturn, 1) := by decide +kernel
