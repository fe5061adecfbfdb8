theorem dX0_init_0 : decode cX0_init 0 = .ok (.aload_n 0, 1) := by decide +kernel
theorem dX0_init_1 : decode cX0_init 1 = .ok (.invokespecial 3, 3) := by decide +kernel
theorem dX0_init_4 : decode cX0_init 4 = .ok (.aload_n 0, 1) := by decide +kernel
theorem dX0_init_5 : decode cX0_init 5 = .ok (.bipush 16, 2) := by decide +kernel
theorem dX0_init_7 : decode cX0_init 7 = .ok (.newarray .int, 2) := by decide +kernel
theorem dX0_init_9 : decode cX0_init 9 = .ok (.putfield 11, 3) := by decide +kernel
theorem dX0_init_12 : decode cX0_init 12 = .ok (.aload_n 0, 1) := by decide +kernel
theorem dX0_init_13 : decode cX0_init 13 = .ok (.bipush 16, 2) := by decide +kernel
theorem dX0_init_15 : decode cX0_init 15 = .ok (.newarray .int, 2) := by decide +kernel
theorem dX0_init_17 : decode cX0_init 17 = .ok (.putfield 15, 3) := by decide +kernel
theorem dX0_init_20 : decode cX0_init 20 = .ok (.aload_n 0, 1) := by decide +kernel
theorem dX0_init_21 : decode cX0_init 21 = .ok (.bipush 16, 2) := by decide +kernel
theorem dX0_init_23 : decode cX0_init 23 = .ok (.newarray .int, 2) := by decide +kernel
theorem dX0_init_25 : decode cX0_init 25 = .ok (.putfield 18, 3) := by decide +kernel
theorem dX0_init_28 : decode cX0_init 28 = .ok (.return_, 1) := by decide +kernel
theorem dX0_keep_0 : decode cX0_keep 0 = .ok (.aload_n 0, 1) := by decide +kernel
theorem dX0_keep_1 : decode cX0_keep 1 = .ok (.getfield 11, 3) := by decide +kernel
theorem dX0_keep_4 : decode cX0_keep 4 = .ok (.aload_n 0, 1) := by decide +kernel
theorem dX0_keep_5 : decode cX0_keep 5 = .ok (.getfield 21, 3) := by decide +kernel
theorem dX0_keep_8 : decode cX0_keep 8 = .ok (.iload_n 1, 1) := by decide +kernel
theorem dX0_keep_9 : decode cX0_keep 9 = .ok (.iastore, 1) := by decide +kernel
theorem dX0_keep_10 : decode cX0_keep 10 = .ok (.aload_n 0, 1) := by decide +kernel
theorem dX0_keep_11 : decode cX0_keep 11 = .ok (.getfield 15, 3) := by decide +kernel
theorem dX0_keep_14 : decode cX0_keep 14 = .ok (.aload_n 0, 1) := by decide +kernel
theorem dX0_keep_15 : decode cX0_keep 15 = .ok (.getfield 21, 3) := by decide +kernel
theorem dX0_keep_18 : decode cX0_keep 18 = .ok (.iload_n 2, 1) := by decide +kernel
theorem dX0_keep_19 : decode cX0_keep 19 = .ok (.iastore, 1) := by decide +kernel
theorem dX0_keep_20 : decode cX0_keep 20 = .ok (.aload_n 0, 1) := by decide +kernel
theorem dX0_keep_21 : decode cX0_keep 21 = .ok (.getfield 18, 3) := by decide +kernel
theorem dX0_keep_24 : decode cX0_keep 24 = .ok (.aload_n 0, 1) := by decide +kernel
theorem dX0_keep_25 : decode cX0_keep 25 = .ok (.getfield 21, 3) := by decide +kernel
theorem dX0_keep_28 : decode cX0_keep 28 = .ok (.iload_n 3, 1) := by decide +kernel
theorem dX0_keep_29 : decode cX0_keep 29 = .ok (.iastore, 1) := by decide +kernel
theorem dX0_keep_30 : decode cX0_keep 30 = .ok (.aload_n 0, 1) := by decide +kernel
theorem dX0_keep_31 : decode cX0_keep 31 = .ok (.aload_n 0, 1) := by decide +kernel
theorem dX0_keep_32 : decode cX0_keep 32 = .ok (.getfield 21, 3) := by decide +kernel
theorem dX0_keep_35 : decode cX0_keep 35 = .ok (.iconst 1, 1) := by decide +kernel
theorem dX0_keep_36 : decode cX0_keep 36 = .ok (.iadd, 1) := by decide +kernel
theorem dX0_keep_37 : decode cX0_keep 37 = .ok (.bipush 16, 2) := by decide +kernel
theorem dX0_keep_39 : decode cX0_keep 39 = .ok (.irem, 1) := by decide +kernel
theorem dX0_keep_40 : decode cX0_keep 40 = .ok (.putfield 21, 3) := by decide +kernel
theorem dX0_keep_43 : decode cX0_keep 43 = .ok (.aload_n 0, 1) := by decide +kernel
theorem dX0_keep_44 : decode cX0_keep 44 = .ok (.bipush 16, 2) := by decide +kernel
theorem dX0_keep_46 : decode cX0_keep 46 = .ok (.aload_n 0, 1) := by decide +kernel
theorem dX0_keep_47 : decode cX0_keep 47 = .ok (.getfield 25, 3) := by decide +kernel
theorem dX0_keep_50 : decode cX0_keep 50 = .ok (.iconst 1, 1) := by decide +kernel
theorem dX0_keep_51 : decode cX0_keep 51 = .ok (.iadd, 1) := by decide +kernel
theorem dX0_keep_52 : decode cX0_keep 52 = .ok (.invokestatic 28, 3) := by decide +kernel
theorem dX0_keep_55 : decode cX0_keep 55 = .ok (.putfield 25, 3) := by decide +kernel
theorem dX0_keep_58 : decode cX0_keep 58 = .ok (.return_, 1) := by decide +kernel
theorem dX0_takeBack_0 : decode cX0_takeBack 0 = .ok (.aload_n 0, 1) := by decide +kernel
theorem dX0_takeBack_1 : decode cX0_takeBack 1 = .ok (.getfield 25, 3) := by decide +kernel
theorem dX0_takeBack_4 : decode cX0_takeBack 4 = .ok (.ifCond .ne 4, 3) := by decide +kernel
theorem dX0_takeBack_7 : decode cX0_takeBack 7 = .ok (.return_, 1) := by decide +kernel
theorem dX0_takeBack_8 : decode cX0_takeBack 8 = .ok (.aload_n 0, 1) := by decide +kernel
theorem dX0_takeBack_9 : decode cX0_takeBack 9 = .ok (.aload_n 0, 1) := by decide +kernel
theorem dX0_takeBack_10 : decode cX0_takeBack 10 = .ok (.getfield 21, 3) := by decide +kernel
theorem dX0_takeBack_13 : decode cX0_takeBack 13 = .ok (.bipush 16, 2) := by decide +kernel
theorem dX0_takeBack_15 : decode cX0_takeBack 15 = .ok (.iadd, 1) := by decide +kernel
theorem dX0_takeBack_16 : decode cX0_takeBack 16 = .ok (.iconst 1, 1) := by decide +kernel
theorem dX0_takeBack_17 : decode cX0_takeBack 17 = .ok (.isub, 1) := by decide +kernel
theorem dX0_takeBack_18 : decode cX0_takeBack 18 = .ok (.bipush 16, 2) := by decide +kernel
theorem dX0_takeBack_20 : decode cX0_takeBack 20 = .ok (.irem, 1) := by decide +kernel
theorem dX0_takeBack_21 : decode cX0_takeBack 21 = .ok (.putfield 21, 3) := by decide +kernel
theorem dX0_takeBack_24 : decode cX0_takeBack 24 = .ok (.aload_n 0, 1) := by decide +kernel
theorem dX0_takeBack_25 : decode cX0_takeBack 25 = .ok (.dup, 1) := by decide +kernel
theorem dX0_takeBack_26 : decode cX0_takeBack 26 = .ok (.getfield 25, 3) := by decide +kernel
theorem dX0_takeBack_29 : decode cX0_takeBack 29 = .ok (.iconst 1, 1) := by decide +kernel
theorem dX0_takeBack_30 : decode cX0_takeBack 30 = .ok (.isub, 1) := by decide +kernel
theorem dX0_takeBack_31 : decode cX0_takeBack 31 = .ok (.putfield 25, 3) := by decide +kernel
theorem dX0_takeBack_34 : decode cX0_takeBack 34 = .ok (.aload_n 0, 1) := by decide +kernel
theorem dX0_takeBack_35 : decode cX0_takeBack 35 = .ok (.getfield 15, 3) := by decide +kernel
theorem dX0_takeBack_38 : decode cX0_takeBack 38 = .ok (.aload_n 0, 1) := by decide +kernel
theorem dX0_takeBack_39 : decode cX0_takeBack 39 = .ok (.getfield 21, 3) := by decide +kernel
theorem dX0_takeBack_42 : decode cX0_takeBack 42 = .ok (.iaload, 1) := by decide +kernel
theorem dX0_takeBack_43 : decode cX0_takeBack 43 = .ok (.istore_n 2, 1) := by decide +kernel
theorem dX0_takeBack_44 : decode cX0_takeBack 44 = .ok (.aload_n 0, 1) := by decide +kernel
theorem dX0_takeBack_45 : decode cX0_takeBack 45 = .ok (.getfield 11, 3) := by decide +kernel
theorem dX0_takeBack_48 : decode cX0_takeBack 48 = .ok (.aload_n 0, 1) := by decide +kernel
theorem dX0_takeBack_49 : decode cX0_takeBack 49 = .ok (.getfield 21, 3) := by decide +kernel
theorem dX0_takeBack_52 : decode cX0_takeBack 52 = .ok (.iaload, 1) := by decide +kernel
theorem dX0_takeBack_53 : decode cX0_takeBack 53 = .ok (.tableswitch 111 0 4 #[35, 46, 59, 76, 93], 35) := by decide +kernel
theorem dX0_takeBack_88 : decode cX0_takeBack 88 = .ok (.aload_n 1, 1) := by decide +kernel
theorem dX0_takeBack_89 : decode cX0_takeBack 89 = .ok (.getfield 34, 3) := by decide +kernel
theorem dX0_takeBack_92 : decode cX0_takeBack 92 = .ok (.iload_n 2, 1) := by decide +kernel
theorem dX0_takeBack_93 : decode cX0_takeBack 93 = .ok (.putfield 40, 3) := by decide +kernel
theorem dX0_takeBack_96 : decode cX0_takeBack 96 = .ok (.goto 91, 3) := by decide +kernel
theorem dX0_takeBack_99 : decode cX0_takeBack 99 = .ok (.aload_n 1, 1) := by decide +kernel
theorem dX0_takeBack_100 : decode cX0_takeBack 100 = .ok (.getfield 34, 3) := by decide +kernel
theorem dX0_takeBack_103 : decode cX0_takeBack 103 = .ok (.getfield 43, 3) := by decide +kernel
theorem dX0_takeBack_106 : decode cX0_takeBack 106 = .ok (.iload_n 2, 1) := by decide +kernel
theorem dX0_takeBack_107 : decode cX0_takeBack 107 = .ok (.iconst 1, 1) := by decide +kernel
theorem dX0_takeBack_108 : decode cX0_takeBack 108 = .ok (.bastore, 1) := by decide +kernel
theorem dX0_takeBack_109 : decode cX0_takeBack 109 = .ok (.goto 78, 3) := by decide +kernel
theorem dX0_takeBack_112 : decode cX0_takeBack 112 = .ok (.aload_n 1, 1) := by decide +kernel
theorem dX0_takeBack_113 : decode cX0_takeBack 113 = .ok (.iload_n 2, 1) := by decide +kernel
theorem dX0_takeBack_114 : decode cX0_takeBack 114 = .ok (.aload_n 0, 1) := by decide +kernel
theorem dX0_takeBack_115 : decode cX0_takeBack 115 = .ok (.getfield 18, 3) := by decide +kernel
theorem dX0_takeBack_118 : decode cX0_takeBack 118 = .ok (.aload_n 0, 1) := by decide +kernel
theorem dX0_takeBack_119 : decode cX0_takeBack 119 = .ok (.getfield 21, 3) := by decide +kernel
theorem dX0_takeBack_122 : decode cX0_takeBack 122 = .ok (.iaload, 1) := by decide +kernel
theorem dX0_takeBack_123 : decode cX0_takeBack 123 = .ok (.invokevirtual 47, 3) := by decide +kernel
theorem dX0_takeBack_126 : decode cX0_takeBack 126 = .ok (.goto 61, 3) := by decide +kernel
theorem dX0_takeBack_129 : decode cX0_takeBack 129 = .ok (.aload_n 1, 1) := by decide +kernel
theorem dX0_takeBack_130 : decode cX0_takeBack 130 = .ok (.iload_n 2, 1) := by decide +kernel
theorem dX0_takeBack_131 : decode cX0_takeBack 131 = .ok (.aload_n 0, 1) := by decide +kernel
theorem dX0_takeBack_132 : decode cX0_takeBack 132 = .ok (.getfield 18, 3) := by decide +kernel
theorem dX0_takeBack_135 : decode cX0_takeBack 135 = .ok (.aload_n 0, 1) := by decide +kernel
theorem dX0_takeBack_136 : decode cX0_takeBack 136 = .ok (.getfield 21, 3) := by decide +kernel
theorem dX0_takeBack_139 : decode cX0_takeBack 139 = .ok (.iaload, 1) := by decide +kernel
theorem dX0_takeBack_140 : decode cX0_takeBack 140 = .ok (.invokevirtual 51, 3) := by decide +kernel
theorem dX0_takeBack_143 : decode cX0_takeBack 143 = .ok (.goto 44, 3) := by decide +kernel
theorem dX0_takeBack_146 : decode cX0_takeBack 146 = .ok (.aload_n 1, 1) := by decide +kernel
theorem dX0_takeBack_147 : decode cX0_takeBack 147 = .ok (.getfield 54, 3) := by decide +kernel
theorem dX0_takeBack_150 : decode cX0_takeBack 150 = .ok (.iload_n 2, 1) := by decide +kernel
theorem dX0_takeBack_151 : decode cX0_takeBack 151 = .ok (.aload_n 0, 1) := by decide +kernel
theorem dX0_takeBack_152 : decode cX0_takeBack 152 = .ok (.getfield 18, 3) := by decide +kernel
theorem dX0_takeBack_155 : decode cX0_takeBack 155 = .ok (.aload_n 0, 1) := by decide +kernel
theorem dX0_takeBack_156 : decode cX0_takeBack 156 = .ok (.getfield 21, 3) := by decide +kernel
theorem dX0_takeBack_159 : decode cX0_takeBack 159 = .ok (.iaload, 1) := by decide +kernel
theorem dX0_takeBack_160 : decode cX0_takeBack 160 = .ok (.iastore, 1) := by decide +kernel
theorem dX0_takeBack_161 : decode cX0_takeBack 161 = .ok (.goto 26, 3) := by decide +kernel
theorem dX0_takeBack_164 : decode cX0_takeBack 164 = .ok (.aload_n 1, 1) := by decide +kernel
theorem dX0_takeBack_165 : decode cX0_takeBack 165 = .ok (.getfield 57, 3) := by decide +kernel
theorem dX0_takeBack_168 : decode cX0_takeBack 168 = .ok (.iload_n 2, 1) := by decide +kernel
theorem dX0_takeBack_169 : decode cX0_takeBack 169 = .ok (.aload_n 0, 1) := by decide +kernel
theorem dX0_takeBack_170 : decode cX0_takeBack 170 = .ok (.getfield 18, 3) := by decide +kernel
theorem dX0_takeBack_173 : decode cX0_takeBack 173 = .ok (.aload_n 0, 1) := by decide +kernel
theorem dX0_takeBack_174 : decode cX0_takeBack 174 = .ok (.getfield 21, 3) := by decide +kernel
theorem dX0_takeBack_177 : decode cX0_takeBack 177 = .ok (.iaload, 1) := by decide +kernel
theorem dX0_takeBack_178 : decode cX0_takeBack 178 = .ok (.ifCond .eq 7, 3) := by decide +kernel
theorem dX0_takeBack_181 : decode cX0_takeBack 181 = .ok (.iconst 1, 1) := by decide +kernel
theorem dX0_takeBack_182 : decode cX0_takeBack 182 = .ok (.goto 4, 3) := by decide +kernel
theorem dX0_takeBack_185 : decode cX0_takeBack 185 = .ok (.iconst 0, 1) := by decide +kernel
theorem dX0_takeBack_186 : decode cX0_takeBack 186 = .ok (.bastore, 1) := by decide +kernel
theorem dX0_takeBack_187 : decode cX0_takeBack 187 = .ok (.return_, 1) := by decide +kernel
theorem dX1_init_0 : decode cX1_init 0 = .ok (.aload_n 0, 1) := by decide +kernel
theorem dX1_init_1 : decode cX1_init 1 = .ok (.invokespecial 3, 3) := by decide +kernel
theorem dX1_init_4 : decode cX1_init 4 = .ok (.aload_n 0, 1) := by decide +kernel
theorem dX1_init_5 : decode cX1_init 5 = .ok (.new 9, 3) := by decide +kernel
theorem dX1_init_8 : decode cX1_init 8 = .ok (.dup, 1) := by decide +kernel
theorem dX1_init_9 : decode cX1_init 9 = .ok (.invokespecial 11, 3) := by decide +kernel
theorem dX1_init_12 : decode cX1_init 12 = .ok (.putfield 12, 3) := by decide +kernel
theorem dX1_init_15 : decode cX1_init 15 = .ok (.aload_n 0, 1) := by decide +kernel
theorem dX1_init_16 : decode cX1_init 16 = .ok (.new 9, 3) := by decide +kernel
theorem dX1_init_19 : decode cX1_init 19 = .ok (.dup, 1) := by decide +kernel
theorem dX1_init_20 : decode cX1_init 20 = .ok (.invokespecial 11, 3) := by decide +kernel
theorem dX1_init_23 : decode cX1_init 23 = .ok (.putfield 18, 3) := by decide +kernel
theorem dX1_init_26 : decode cX1_init 26 = .ok (.aload_n 0, 1) := by decide +kernel
theorem dX1_init_27 : decode cX1_init 27 = .ok (.bipush 6, 2) := by decide +kernel
theorem dX1_init_29 : decode cX1_init 29 = .ok (.newarray .int, 2) := by decide +kernel
theorem dX1_init_31 : decode cX1_init 31 = .ok (.putfield 21, 3) := by decide +kernel
theorem dX1_init_34 : decode cX1_init 34 = .ok (.aload_n 0, 1) := by decide +kernel
theorem dX1_init_35 : decode cX1_init 35 = .ok (.bipush 6, 2) := by decide +kernel
theorem dX1_init_37 : decode cX1_init 37 = .ok (.newarray .int, 2) := by decide +kernel
theorem dX1_init_39 : decode cX1_init 39 = .ok (.putfield 25, 3) := by decide +kernel
theorem dX1_init_42 : decode cX1_init 42 = .ok (.aload_n 0, 1) := by decide +kernel
theorem dX1_init_43 : decode cX1_init 43 = .ok (.bipush 6, 2) := by decide +kernel
theorem dX1_init_45 : decode cX1_init 45 = .ok (.newarray .int, 2) := by decide +kernel
theorem dX1_init_47 : decode cX1_init 47 = .ok (.putfield 28, 3) := by decide +kernel
theorem dX1_init_50 : decode cX1_init 50 = .ok (.aload_n 0, 1) := by decide +kernel
theorem dX1_init_51 : decode cX1_init 51 = .ok (.bipush 24, 2) := by decide +kernel
theorem dX1_init_53 : decode cX1_init 53 = .ok (.newarray .int, 2) := by decide +kernel
theorem dX1_init_55 : decode cX1_init 55 = .ok (.putfield 31, 3) := by decide +kernel
theorem dX1_init_58 : decode cX1_init 58 = .ok (.aload_n 0, 1) := by decide +kernel
theorem dX1_init_59 : decode cX1_init 59 = .ok (.iconst 4, 1) := by decide +kernel
theorem dX1_init_60 : decode cX1_init 60 = .ok (.newarray .boolean, 2) := by decide +kernel
theorem dX1_init_62 : decode cX1_init 62 = .ok (.putfield 34, 3) := by decide +kernel
theorem dX1_init_65 : decode cX1_init 65 = .ok (.aload_n 0, 1) := by decide +kernel
theorem dX1_init_66 : decode cX1_init 66 = .ok (.new 38, 3) := by decide +kernel
theorem dX1_init_69 : decode cX1_init 69 = .ok (.dup, 1) := by decide +kernel
theorem dX1_init_70 : decode cX1_init 70 = .ok (.invokespecial 40, 3) := by decide +kernel
theorem dX1_init_73 : decode cX1_init 73 = .ok (.putfield 41, 3) := by decide +kernel
theorem dX1_init_76 : decode cX1_init 76 = .ok (.aload_n 0, 1) := by decide +kernel
theorem dX1_init_77 : decode cX1_init 77 = .ok (.new 45, 3) := by decide +kernel
theorem dX1_init_80 : decode cX1_init 80 = .ok (.dup, 1) := by decide +kernel
theorem dX1_init_81 : decode cX1_init 81 = .ok (.invokespecial 47, 3) := by decide +kernel
theorem dX1_init_84 : decode cX1_init 84 = .ok (.putfield 48, 3) := by decide +kernel
theorem dX1_init_87 : decode cX1_init 87 = .ok (.aload_n 0, 1) := by decide +kernel
theorem dX1_init_88 : decode cX1_init 88 = .ok (.bipush 6, 2) := by decide +kernel
theorem dX1_init_90 : decode cX1_init 90 = .ok (.newarray .int, 2) := by decide +kernel
theorem dX1_init_92 : decode cX1_init 92 = .ok (.putfield 52, 3) := by decide +kernel
theorem dX1_init_95 : decode cX1_init 95 = .ok (.aload_n 0, 1) := by decide +kernel
theorem dX1_init_96 : decode cX1_init 96 = .ok (.getfield 52, 3) := by decide +kernel
theorem dX1_init_99 : decode cX1_init 99 = .ok (.iconst 4, 1) := by decide +kernel
theorem dX1_init_100 : decode cX1_init 100 = .ok (.bipush 10, 2) := by decide +kernel
theorem dX1_init_102 : decode cX1_init 102 = .ok (.iastore, 1) := by decide +kernel
theorem dX1_init_103 : decode cX1_init 103 = .ok (.return_, 1) := by decide +kernel
theorem dX1_clear_0 : decode cX1_clear 0 = .ok (.aload_n 0, 1) := by decide +kernel
theorem dX1_clear_1 : decode cX1_clear 1 = .ok (.getfield 12, 3) := by decide +kernel
theorem dX1_clear_4 : decode cX1_clear 4 = .ok (.iconst 0, 1) := by decide +kernel
theorem dX1_clear_5 : decode cX1_clear 5 = .ok (.putfield 55, 3) := by decide +kernel
theorem dX1_clear_8 : decode cX1_clear 8 = .ok (.aload_n 0, 1) := by decide +kernel
theorem dX1_clear_9 : decode cX1_clear 9 = .ok (.getfield 18, 3) := by decide +kernel
theorem dX1_clear_12 : decode cX1_clear 12 = .ok (.iconst 0, 1) := by decide +kernel
theorem dX1_clear_13 : decode cX1_clear 13 = .ok (.putfield 55, 3) := by decide +kernel
theorem dX1_clear_16 : decode cX1_clear 16 = .ok (.aload_n 0, 1) := by decide +kernel
theorem dX1_clear_17 : decode cX1_clear 17 = .ok (.getfield 48, 3) := by decide +kernel
theorem dX1_clear_20 : decode cX1_clear 20 = .ok (.iconst 0, 1) := by decide +kernel
theorem dX1_clear_21 : decode cX1_clear 21 = .ok (.putfield 59, 3) := by decide +kernel
theorem dX1_clear_24 : decode cX1_clear 24 = .ok (.aload_n 0, 1) := by decide +kernel
theorem dX1_clear_25 : decode cX1_clear 25 = .ok (.getfield 41, 3) := by decide +kernel
theorem dX1_clear_28 : decode cX1_clear 28 = .ok (.invokevirtual 60, 3) := by decide +kernel
theorem dX1_clear_31 : decode cX1_clear 31 = .ok (.iconst 0, 1) := by decide +kernel
theorem dX1_clear_32 : decode cX1_clear 32 = .ok (.istore_n 1, 1) := by decide +kernel
theorem dX1_clear_33 : decode cX1_clear 33 = .ok (.iload_n 1, 1) := by decide +kernel
theorem dX1_clear_34 : decode cX1_clear 34 = .ok (.bipush 24, 2) := by decide +kernel
theorem dX1_clear_36 : decode cX1_clear 36 = .ok (.if_icmp .ge 16, 3) := by decide +kernel
theorem dX1_clear_39 : decode cX1_clear 39 = .ok (.aload_n 0, 1) := by decide +kernel
theorem dX1_clear_40 : decode cX1_clear 40 = .ok (.getfield 31, 3) := by decide +kernel
theorem dX1_clear_43 : decode cX1_clear 43 = .ok (.iload_n 1, 1) := by decide +kernel
theorem dX1_clear_44 : decode cX1_clear 44 = .ok (.iconst 0, 1) := by decide +kernel
theorem dX1_clear_45 : decode cX1_clear 45 = .ok (.iastore, 1) := by decide +kernel
theorem dX1_clear_46 : decode cX1_clear 46 = .ok (.iinc 1 1, 3) := by decide +kernel
theorem dX1_clear_49 : decode cX1_clear 49 = .ok (.goto (-16), 3) := by decide +kernel
theorem dX1_clear_52 : decode cX1_clear 52 = .ok (.iconst 0, 1) := by decide +kernel
theorem dX1_clear_53 : decode cX1_clear 53 = .ok (.istore_n 1, 1) := by decide +kernel
theorem dX1_clear_54 : decode cX1_clear 54 = .ok (.iload_n 1, 1) := by decide +kernel
theorem dX1_clear_55 : decode cX1_clear 55 = .ok (.iconst 4, 1) := by decide +kernel
theorem dX1_clear_56 : decode cX1_clear 56 = .ok (.if_icmp .ge 16, 3) := by decide +kernel
theorem dX1_clear_59 : decode cX1_clear 59 = .ok (.aload_n 0, 1) := by decide +kernel
theorem dX1_clear_60 : decode cX1_clear 60 = .ok (.getfield 34, 3) := by decide +kernel
theorem dX1_clear_63 : decode cX1_clear 63 = .ok (.iload_n 1, 1) := by decide +kernel
theorem dX1_clear_64 : decode cX1_clear 64 = .ok (.iconst 0, 1) := by decide +kernel
theorem dX1_clear_65 : decode cX1_clear 65 = .ok (.bastore, 1) := by decide +kernel
theorem dX1_clear_66 : decode cX1_clear 66 = .ok (.iinc 1 1, 3) := by decide +kernel
theorem dX1_clear_69 : decode cX1_clear 69 = .ok (.goto (-15), 3) := by decide +kernel
theorem dX1_clear_72 : decode cX1_clear 72 = .ok (.iconst 0, 1) := by decide +kernel
theorem dX1_clear_73 : decode cX1_clear 73 = .ok (.istore_n 1, 1) := by decide +kernel
theorem dX1_clear_74 : decode cX1_clear 74 = .ok (.iload_n 1, 1) := by decide +kernel
theorem dX1_clear_75 : decode cX1_clear 75 = .ok (.bipush 6, 2) := by decide +kernel
theorem dX1_clear_77 : decode cX1_clear 77 = .ok (.if_icmp .ge 16, 3) := by decide +kernel
theorem dX1_clear_80 : decode cX1_clear 80 = .ok (.aload_n 0, 1) := by decide +kernel
theorem dX1_clear_81 : decode cX1_clear 81 = .ok (.getfield 52, 3) := by decide +kernel
theorem dX1_clear_84 : decode cX1_clear 84 = .ok (.iload_n 1, 1) := by decide +kernel
theorem dX1_clear_85 : decode cX1_clear 85 = .ok (.iconst 0, 1) := by decide +kernel
theorem dX1_clear_86 : decode cX1_clear 86 = .ok (.iastore, 1) := by decide +kernel
theorem dX1_clear_87 : decode cX1_clear 87 = .ok (.iinc 1 1, 3) := by decide +kernel
theorem dX1_clear_90 : decode cX1_clear 90 = .ok (.goto (-16), 3) := by decide +kernel
theorem dX1_clear_93 : decode cX1_clear 93 = .ok (.aload_n 0, 1) := by decide +kernel
theorem dX1_clear_94 : decode cX1_clear 94 = .ok (.getfield 52, 3) := by decide +kernel
theorem dX1_clear_97 : decode cX1_clear 97 = .ok (.iconst 4, 1) := by decide +kernel
theorem dX1_clear_98 : decode cX1_clear 98 = .ok (.bipush 10, 2) := by decide +kernel
theorem dX1_clear_100 : decode cX1_clear 100 = .ok (.iastore, 1) := by decide +kernel
theorem dX1_clear_101 : decode cX1_clear 101 = .ok (.return_, 1) := by decide +kernel
theorem dX1_costOf_0 : decode cX1_costOf 0 = .ok (.aload_n 0, 1) := by decide +kernel
theorem dX1_costOf_1 : decode cX1_costOf 1 = .ok (.getfield 31, 3) := by decide +kernel
theorem dX1_costOf_4 : decode cX1_costOf 4 = .ok (.iload_n 1, 1) := by decide +kernel
theorem dX1_costOf_5 : decode cX1_costOf 5 = .ok (.bipush 6, 2) := by decide +kernel
theorem dX1_costOf_7 : decode cX1_costOf 7 = .ok (.imul, 1) := by decide +kernel
theorem dX1_costOf_8 : decode cX1_costOf 8 = .ok (.iload_n 2, 1) := by decide +kernel
theorem dX1_costOf_9 : decode cX1_costOf 9 = .ok (.iadd, 1) := by decide +kernel
theorem dX1_costOf_10 : decode cX1_costOf 10 = .ok (.iaload, 1) := by decide +kernel
theorem dX1_costOf_11 : decode cX1_costOf 11 = .ok (.istore_n 3, 1) := by decide +kernel
theorem dX1_costOf_12 : decode cX1_costOf 12 = .ok (.iload_n 3, 1) := by decide +kernel
theorem dX1_costOf_13 : decode cX1_costOf 13 = .ok (.ifCond .le 7, 3) := by decide +kernel
theorem dX1_costOf_16 : decode cX1_costOf 16 = .ok (.iload_n 3, 1) := by decide +kernel
theorem dX1_costOf_17 : decode cX1_costOf 17 = .ok (.goto 9, 3) := by decide +kernel
theorem dX1_costOf_20 : decode cX1_costOf 20 = .ok (.aload_n 0, 1) := by decide +kernel
theorem dX1_costOf_21 : decode cX1_costOf 21 = .ok (.getfield 21, 3) := by decide +kernel
theorem dX1_costOf_24 : decode cX1_costOf 24 = .ok (.iload_n 2, 1) := by decide +kernel
theorem dX1_costOf_25 : decode cX1_costOf 25 = .ok (.iaload, 1) := by decide +kernel
theorem dX1_costOf_26 : decode cX1_costOf 26 = .ok (.ireturn, 1) := by decide +kernel
theorem dX1_workOut_0 : decode cX1_workOut 0 = .ok (.aload_n 0, 1) := by decide +kernel
theorem dX1_workOut_1 : decode cX1_workOut 1 = .ok (.aload_n 0, 1) := by decide +kernel
theorem dX1_workOut_2 : decode cX1_workOut 2 = .ok (.getfield 48, 3) := by decide +kernel
theorem dX1_workOut_5 : decode cX1_workOut 5 = .ok (.getfield 63, 3) := by decide +kernel
theorem dX1_workOut_8 : decode cX1_workOut 8 = .ok (.iload_n 1, 1) := by decide +kernel
theorem dX1_workOut_9 : decode cX1_workOut 9 = .ok (.iaload, 1) := by decide +kernel
theorem dX1_workOut_10 : decode cX1_workOut 10 = .ok (.aload_n 0, 1) := by decide +kernel
theorem dX1_workOut_11 : decode cX1_workOut 11 = .ok (.getfield 48, 3) := by decide +kernel
theorem dX1_workOut_14 : decode cX1_workOut 14 = .ok (.getfield 66, 3) := by decide +kernel
theorem dX1_workOut_17 : decode cX1_workOut 17 = .ok (.iload_n 1, 1) := by decide +kernel
theorem dX1_workOut_18 : decode cX1_workOut 18 = .ok (.iaload, 1) := by decide +kernel
theorem dX1_workOut_19 : decode cX1_workOut 19 = .ok (.invokevirtual 69, 3) := by decide +kernel
theorem dX1_workOut_22 : decode cX1_workOut 22 = .ok (.istore_n 2, 1) := by decide +kernel
theorem dX1_workOut_23 : decode cX1_workOut 23 = .ok (.aload_n 0, 1) := by decide +kernel
theorem dX1_workOut_24 : decode cX1_workOut 24 = .ok (.getfield 41, 3) := by decide +kernel
theorem dX1_workOut_27 : decode cX1_workOut 27 = .ok (.aload_n 0, 1) := by decide +kernel
theorem dX1_workOut_28 : decode cX1_workOut 28 = .ok (.getfield 48, 3) := by decide +kernel
theorem dX1_workOut_31 : decode cX1_workOut 31 = .ok (.iload_n 1, 1) := by decide +kernel
theorem dX1_workOut_32 : decode cX1_workOut 32 = .ok (.iload_n 2, 1) := by decide +kernel
theorem dX1_workOut_33 : decode cX1_workOut 33 = .ok (.invokevirtual 73, 3) := by decide +kernel
theorem dX1_workOut_36 : decode cX1_workOut 36 = .ok (.istore_n 3, 1) := by decide +kernel
theorem dX1_workOut_37 : decode cX1_workOut 37 = .ok (.aload_n 0, 1) := by decide +kernel
theorem dX1_workOut_38 : decode cX1_workOut 38 = .ok (.getfield 48, 3) := by decide +kernel
theorem dX1_workOut_41 : decode cX1_workOut 41 = .ok (.getfield 77, 3) := by decide +kernel
theorem dX1_workOut_44 : decode cX1_workOut 44 = .ok (.iload_n 1, 1) := by decide +kernel
theorem dX1_workOut_45 : decode cX1_workOut 45 = .ok (.iload_n 3, 1) := by decide +kernel
theorem dX1_workOut_46 : decode cX1_workOut 46 = .ok (.iastore, 1) := by decide +kernel
theorem dX1_workOut_47 : decode cX1_workOut 47 = .ok (.aload_n 0, 1) := by decide +kernel
theorem dX1_workOut_48 : decode cX1_workOut 48 = .ok (.getfield 48, 3) := by decide +kernel
theorem dX1_workOut_51 : decode cX1_workOut 51 = .ok (.getfield 80, 3) := by decide +kernel
theorem dX1_workOut_54 : decode cX1_workOut 54 = .ok (.iload_n 1, 1) := by decide +kernel
theorem dX1_workOut_55 : decode cX1_workOut 55 = .ok (.iconst 0, 1) := by decide +kernel
theorem dX1_workOut_56 : decode cX1_workOut 56 = .ok (.ldc 83, 2) := by decide +kernel
theorem dX1_workOut_58 : decode cX1_workOut 58 = .ok (.aload_n 0, 1) := by decide +kernel
theorem dX1_workOut_59 : decode cX1_workOut 59 = .ok (.getfield 48, 3) := by decide +kernel
theorem dX1_workOut_62 : decode cX1_workOut 62 = .ok (.getfield 84, 3) := by decide +kernel
theorem dX1_workOut_65 : decode cX1_workOut 65 = .ok (.iload_n 1, 1) := by decide +kernel
theorem dX1_workOut_66 : decode cX1_workOut 66 = .ok (.iaload, 1) := by decide +kernel
theorem dX1_workOut_67 : decode cX1_workOut 67 = .ok (.iload_n 3, 1) := by decide +kernel
theorem dX1_workOut_68 : decode cX1_workOut 68 = .ok (.isub, 1) := by decide +kernel
theorem dX1_workOut_69 : decode cX1_workOut 69 = .ok (.invokestatic 87, 3) := by decide +kernel
theorem dX1_workOut_72 : decode cX1_workOut 72 = .ok (.invokestatic 92, 3) := by decide +kernel
theorem dX1_workOut_75 : decode cX1_workOut 75 = .ok (.iastore, 1) := by decide +kernel
theorem dX1_workOut_76 : decode cX1_workOut 76 = .ok (.return_, 1) := by decide +kernel
theorem dX1_workOutAll_0 : decode cX1_workOutAll 0 = .ok (.iconst 0, 1) := by decide +kernel
theorem dX1_workOutAll_1 : decode cX1_workOutAll 1 = .ok (.istore_n 1, 1) := by decide +kernel
theorem dX1_workOutAll_2 : decode cX1_workOutAll 2 = .ok (.iload_n 1, 1) := by decide +kernel
theorem dX1_workOutAll_3 : decode cX1_workOutAll 3 = .ok (.aload_n 0, 1) := by decide +kernel
theorem dX1_workOutAll_4 : decode cX1_workOutAll 4 = .ok (.getfield 48, 3) := by decide +kernel
theorem dX1_workOutAll_7 : decode cX1_workOutAll 7 = .ok (.getfield 59, 3) := by decide +kernel
theorem dX1_workOutAll_10 : decode cX1_workOutAll 10 = .ok (.if_icmp .ge 14, 3) := by decide +kernel
theorem dX1_workOutAll_13 : decode cX1_workOutAll 13 = .ok (.aload_n 0, 1) := by decide +kernel
theorem dX1_workOutAll_14 : decode cX1_workOutAll 14 = .ok (.iload_n 1, 1) := by decide +kernel
theorem dX1_workOutAll_15 : decode cX1_workOutAll 15 = .ok (.invokevirtual 95, 3) := by decide +kernel
theorem dX1_workOutAll_18 : decode cX1_workOutAll 18 = .ok (.iinc 1 1, 3) := by decide +kernel
theorem dX1_workOutAll_21 : decode cX1_workOutAll 21 = .ok (.goto (-19), 3) := by decide +kernel
theorem dX1_workOutAll_24 : decode cX1_workOutAll 24 = .ok (.return_, 1) := by decide +kernel
theorem dX1_tellPrice_0 : decode cX1_tellPrice 0 = .ok (.aload_n 0, 1) := by decide +kernel
theorem dX1_tellPrice_1 : decode cX1_tellPrice 1 = .ok (.getfield 48, 3) := by decide +kernel
theorem dX1_tellPrice_4 : decode cX1_tellPrice 4 = .ok (.getfield 84, 3) := by decide +kernel
theorem dX1_tellPrice_7 : decode cX1_tellPrice 7 = .ok (.iload_n 1, 1) := by decide +kernel
theorem dX1_tellPrice_8 : decode cX1_tellPrice 8 = .ok (.iload_n 2, 1) := by decide +kernel
theorem dX1_tellPrice_9 : decode cX1_tellPrice 9 = .ok (.iastore, 1) := by decide +kernel
theorem dX1_tellPrice_10 : decode cX1_tellPrice 10 = .ok (.aload_n 0, 1) := by decide +kernel
theorem dX1_tellPrice_11 : decode cX1_tellPrice 11 = .ok (.iload_n 1, 1) := by decide +kernel
theorem dX1_tellPrice_12 : decode cX1_tellPrice 12 = .ok (.invokevirtual 95, 3) := by decide +kernel
theorem dX1_tellPrice_15 : decode cX1_tellPrice 15 = .ok (.return_, 1) := by decide +kernel
theorem dX1_tellCost_0 : decode cX1_tellCost 0 = .ok (.aload_n 0, 1) := by decide +kernel
theorem dX1_tellCost_1 : decode cX1_tellCost 1 = .ok (.getfield 31, 3) := by decide +kernel
theorem dX1_tellCost_4 : decode cX1_tellCost 4 = .ok (.iload_n 1, 1) := by decide +kernel
theorem dX1_tellCost_5 : decode cX1_tellCost 5 = .ok (.iload_n 2, 1) := by decide +kernel
theorem dX1_tellCost_6 : decode cX1_tellCost 6 = .ok (.iastore, 1) := by decide +kernel
theorem dX1_tellCost_7 : decode cX1_tellCost 7 = .ok (.iconst 0, 1) := by decide +kernel
theorem dX1_tellCost_8 : decode cX1_tellCost 8 = .ok (.istore_n 3, 1) := by decide +kernel
theorem dX1_tellCost_9 : decode cX1_tellCost 9 = .ok (.iload_n 3, 1) := by decide +kernel
theorem dX1_tellCost_10 : decode cX1_tellCost 10 = .ok (.aload_n 0, 1) := by decide +kernel
theorem dX1_tellCost_11 : decode cX1_tellCost 11 = .ok (.getfield 48, 3) := by decide +kernel
theorem dX1_tellCost_14 : decode cX1_tellCost 14 = .ok (.getfield 59, 3) := by decide +kernel
theorem dX1_tellCost_17 : decode cX1_tellCost 17 = .ok (.if_icmp .ge 40, 3) := by decide +kernel
theorem dX1_tellCost_20 : decode cX1_tellCost 20 = .ok (.aload_n 0, 1) := by decide +kernel
theorem dX1_tellCost_21 : decode cX1_tellCost 21 = .ok (.getfield 48, 3) := by decide +kernel
theorem dX1_tellCost_24 : decode cX1_tellCost 24 = .ok (.getfield 63, 3) := by decide +kernel
theorem dX1_tellCost_27 : decode cX1_tellCost 27 = .ok (.iload_n 3, 1) := by decide +kernel
theorem dX1_tellCost_28 : decode cX1_tellCost 28 = .ok (.iaload, 1) := by decide +kernel
theorem dX1_tellCost_29 : decode cX1_tellCost 29 = .ok (.bipush 6, 2) := by decide +kernel
theorem dX1_tellCost_31 : decode cX1_tellCost 31 = .ok (.imul, 1) := by decide +kernel
theorem dX1_tellCost_32 : decode cX1_tellCost 32 = .ok (.aload_n 0, 1) := by decide +kernel
theorem dX1_tellCost_33 : decode cX1_tellCost 33 = .ok (.getfield 48, 3) := by decide +kernel
theorem dX1_tellCost_36 : decode cX1_tellCost 36 = .ok (.getfield 66, 3) := by decide +kernel
theorem dX1_tellCost_39 : decode cX1_tellCost 39 = .ok (.iload_n 3, 1) := by decide +kernel
theorem dX1_tellCost_40 : decode cX1_tellCost 40 = .ok (.iaload, 1) := by decide +kernel
theorem dX1_tellCost_41 : decode cX1_tellCost 41 = .ok (.iadd, 1) := by decide +kernel
theorem dX1_tellCost_42 : decode cX1_tellCost 42 = .ok (.iload_n 1, 1) := by decide +kernel
theorem dX1_tellCost_43 : decode cX1_tellCost 43 = .ok (.if_icmp .ne 8, 3) := by decide +kernel
theorem dX1_tellCost_46 : decode cX1_tellCost 46 = .ok (.aload_n 0, 1) := by decide +kernel
theorem dX1_tellCost_47 : decode cX1_tellCost 47 = .ok (.iload_n 3, 1) := by decide +kernel
theorem dX1_tellCost_48 : decode cX1_tellCost 48 = .ok (.invokevirtual 95, 3) := by decide +kernel
theorem dX1_tellCost_51 : decode cX1_tellCost 51 = .ok (.iinc 3 1, 3) := by decide +kernel
theorem dX1_tellCost_54 : decode cX1_tellCost 54 = .ok (.goto (-45), 3) := by decide +kernel
theorem dX1_tellCost_57 : decode cX1_tellCost 57 = .ok (.return_, 1) := by decide +kernel
theorem dX1_isZeroing_0 : decode cX1_isZeroing 0 = .ok (.aload_n 0, 1) := by decide +kernel
theorem dX1_isZeroing_1 : decode cX1_isZeroing 1 = .ok (.getfield 52, 3) := by decide +kernel
theorem dX1_isZeroing_4 : decode cX1_isZeroing 4 = .ok (.iconst 1, 1) := by decide +kernel
theorem dX1_isZeroing_5 : decode cX1_isZeroing 5 = .ok (.iaload, 1) := by decide +kernel
theorem dX1_isZeroing_6 : decode cX1_isZeroing 6 = .ok (.ifCond .eq 7, 3) := by decide +kernel
theorem dX1_isZeroing_9 : decode cX1_isZeroing 9 = .ok (.iconst 1, 1) := by decide +kernel
theorem dX1_isZeroing_10 : decode cX1_isZeroing 10 = .ok (.goto 4, 3) := by decide +kernel
theorem dX1_isZeroing_13 : decode cX1_isZeroing 13 = .ok (.iconst 0, 1) := by decide +kernel
theorem dX1_isZeroing_14 : decode cX1_isZeroing 14 = .ok (.ireturn, 1) := by decide +kernel
theorem dX1_methodOwed_0 : decode cX1_methodOwed 0 = .ok (.aload_n 0, 1) := by decide +kernel
theorem dX1_methodOwed_1 : decode cX1_methodOwed 1 = .ok (.getfield 52, 3) := by decide +kernel
theorem dX1_methodOwed_4 : decode cX1_methodOwed 4 = .ok (.iconst 0, 1) := by decide +kernel
theorem dX1_methodOwed_5 : decode cX1_methodOwed 5 = .ok (.iaload, 1) := by decide +kernel
theorem dX1_methodOwed_6 : decode cX1_methodOwed 6 = .ok (.iconst 2, 1) := by decide +kernel
theorem dX1_methodOwed_7 : decode cX1_methodOwed 7 = .ok (.if_icmp .ne 7, 3) := by decide +kernel
theorem dX1_methodOwed_10 : decode cX1_methodOwed 10 = .ok (.iconst 2, 1) := by decide +kernel
theorem dX1_methodOwed_11 : decode cX1_methodOwed 11 = .ok (.goto 4, 3) := by decide +kernel
theorem dX1_methodOwed_14 : decode cX1_methodOwed 14 = .ok (.iconst 1, 1) := by decide +kernel
theorem dX1_methodOwed_15 : decode cX1_methodOwed 15 = .ok (.ireturn, 1) := by decide +kernel
theorem dX1_monthToCompare_0 : decode cX1_monthToCompare 0 = .ok (.aload_n 0, 1) := by decide +kernel
theorem dX1_monthToCompare_1 : decode cX1_monthToCompare 1 = .ok (.getfield 52, 3) := by decide +kernel
theorem dX1_monthToCompare_4 : decode cX1_monthToCompare 4 = .ok (.iconst 3, 1) := by decide +kernel
theorem dX1_monthToCompare_5 : decode cX1_monthToCompare 5 = .ok (.iaload, 1) := by decide +kernel
theorem dX1_monthToCompare_6 : decode cX1_monthToCompare 6 = .ok (.ifCond .eq 15, 3) := by decide +kernel
theorem dX1_monthToCompare_9 : decode cX1_monthToCompare 9 = .ok (.aload_n 0, 1) := by decide +kernel
theorem dX1_monthToCompare_10 : decode cX1_monthToCompare 10 = .ok (.getfield 48, 3) := by decide +kernel
theorem dX1_monthToCompare_13 : decode cX1_monthToCompare 13 = .ok (.getfield 99, 3) := by decide +kernel
theorem dX1_monthToCompare_16 : decode cX1_monthToCompare 16 = .ok (.iload_n 1, 1) := by decide +kernel
theorem dX1_monthToCompare_17 : decode cX1_monthToCompare 17 = .ok (.iaload, 1) := by decide +kernel
theorem dX1_monthToCompare_18 : decode cX1_monthToCompare 18 = .ok (.goto 4, 3) := by decide +kernel
theorem dX1_monthToCompare_21 : decode cX1_monthToCompare 21 = .ok (.iconst (-1), 1) := by decide +kernel
theorem dX1_monthToCompare_22 : decode cX1_monthToCompare 22 = .ok (.ireturn, 1) := by decide +kernel
theorem dX1_countSilent_0 : decode cX1_countSilent 0 = .ok (.iconst 0, 1) := by decide +kernel
theorem dX1_countSilent_1 : decode cX1_countSilent 1 = .ok (.istore_n 1, 1) := by decide +kernel
theorem dX1_countSilent_2 : decode cX1_countSilent 2 = .ok (.iconst 0, 1) := by decide +kernel
theorem dX1_countSilent_3 : decode cX1_countSilent 3 = .ok (.istore_n 2, 1) := by decide +kernel
theorem dX1_countSilent_4 : decode cX1_countSilent 4 = .ok (.iload_n 2, 1) := by decide +kernel
theorem dX1_countSilent_5 : decode cX1_countSilent 5 = .ok (.aload_n 0, 1) := by decide +kernel
theorem dX1_countSilent_6 : decode cX1_countSilent 6 = .ok (.getfield 18, 3) := by decide +kernel
theorem dX1_countSilent_9 : decode cX1_countSilent 9 = .ok (.getfield 55, 3) := by decide +kernel
theorem dX1_countSilent_12 : decode cX1_countSilent 12 = .ok (.if_icmp .ge 21, 3) := by decide +kernel
theorem dX1_countSilent_15 : decode cX1_countSilent 15 = .ok (.aload_n 0, 1) := by decide +kernel
theorem dX1_countSilent_16 : decode cX1_countSilent 16 = .ok (.getfield 34, 3) := by decide +kernel
theorem dX1_countSilent_19 : decode cX1_countSilent 19 = .ok (.iload_n 2, 1) := by decide +kernel
theorem dX1_countSilent_20 : decode cX1_countSilent 20 = .ok (.baload, 1) := by decide +kernel
theorem dX1_countSilent_21 : decode cX1_countSilent 21 = .ok (.ifCond .eq 6, 3) := by decide +kernel
theorem dX1_countSilent_24 : decode cX1_countSilent 24 = .ok (.iinc 1 1, 3) := by decide +kernel
theorem dX1_countSilent_27 : decode cX1_countSilent 27 = .ok (.iinc 2 1, 3) := by decide +kernel
theorem dX1_countSilent_30 : decode cX1_countSilent 30 = .ok (.goto (-26), 3) := by decide +kernel
theorem dX1_countSilent_33 : decode cX1_countSilent 33 = .ok (.iload_n 1, 1) := by decide +kernel
theorem dX1_countSilent_34 : decode cX1_countSilent 34 = .ok (.ireturn, 1) := by decide +kernel
theorem dX2_init_0 : decode cX2_init 0 = .ok (.aload_n 0, 1) := by decide +kernel
theorem dX2_init_1 : decode cX2_init 1 = .ok (.invokespecial 3, 3) := by decide +kernel
theorem dX2_init_4 : decode cX2_init 4 = .ok (.aload_n 0, 1) := by decide +kernel
theorem dX2_init_5 : decode cX2_init 5 = .ok (.bipush 40, 2) := by decide +kernel
theorem dX2_init_7 : decode cX2_init 7 = .ok (.newarray .int, 2) := by decide +kernel
theorem dX2_init_9 : decode cX2_init 9 = .ok (.putfield 9, 3) := by decide +kernel
theorem dX2_init_12 : decode cX2_init 12 = .ok (.aload_n 0, 1) := by decide +kernel
theorem dX2_init_13 : decode cX2_init 13 = .ok (.bipush 40, 2) := by decide +kernel
theorem dX2_init_15 : decode cX2_init 15 = .ok (.newarray .int, 2) := by decide +kernel
theorem dX2_init_17 : decode cX2_init 17 = .ok (.putfield 15, 3) := by decide +kernel
theorem dX2_init_20 : decode cX2_init 20 = .ok (.aload_n 0, 1) := by decide +kernel
theorem dX2_init_21 : decode cX2_init 21 = .ok (.bipush 40, 2) := by decide +kernel
theorem dX2_init_23 : decode cX2_init 23 = .ok (.newarray .long, 2) := by decide +kernel
theorem dX2_init_25 : decode cX2_init 25 = .ok (.putfield 18, 3) := by decide +kernel
theorem dX2_init_28 : decode cX2_init 28 = .ok (.aload_n 0, 1) := by decide +kernel
theorem dX2_init_29 : decode cX2_init 29 = .ok (.bipush 40, 2) := by decide +kernel
theorem dX2_init_31 : decode cX2_init 31 = .ok (.newarray .long, 2) := by decide +kernel
theorem dX2_init_33 : decode cX2_init 33 = .ok (.putfield 22, 3) := by decide +kernel
theorem dX2_init_36 : decode cX2_init 36 = .ok (.aload_n 0, 1) := by decide +kernel
theorem dX2_init_37 : decode cX2_init 37 = .ok (.aload_n 1, 1) := by decide +kernel
theorem dX2_init_38 : decode cX2_init 38 = .ok (.putfield 25, 3) := by decide +kernel
theorem dX2_init_41 : decode cX2_init 41 = .ok (.return_, 1) := by decide +kernel
theorem dX2_gather_0 : decode cX2_gather 0 = .ok (.aload_n 0, 1) := by decide +kernel
theorem dX2_gather_1 : decode cX2_gather 1 = .ok (.getfield 25, 3) := by decide +kernel
theorem dX2_gather_4 : decode cX2_gather 4 = .ok (.aload_n 1, 1) := by decide +kernel
theorem dX2_gather_5 : decode cX2_gather 5 = .ok (.iload_n 2, 1) := by decide +kernel
theorem dX2_gather_6 : decode cX2_gather 6 = .ok (.invokevirtual 29, 3) := by decide +kernel
theorem dX2_gather_9 : decode cX2_gather 9 = .ok (.aload_n 0, 1) := by decide +kernel
theorem dX2_gather_10 : decode cX2_gather 10 = .ok (.iconst 0, 1) := by decide +kernel
theorem dX2_gather_11 : decode cX2_gather 11 = .ok (.putfield 35, 3) := by decide +kernel
theorem dX2_gather_14 : decode cX2_gather 14 = .ok (.aload_n 0, 1) := by decide +kernel
theorem dX2_gather_15 : decode cX2_gather 15 = .ok (.lconst 0, 1) := by decide +kernel
theorem dX2_gather_16 : decode cX2_gather 16 = .ok (.putfield 39, 3) := by decide +kernel
theorem dX2_gather_19 : decode cX2_gather 19 = .ok (.aload_n 0, 1) := by decide +kernel
theorem dX2_gather_20 : decode cX2_gather 20 = .ok (.lconst 0, 1) := by decide +kernel
theorem dX2_gather_21 : decode cX2_gather 21 = .ok (.putfield 43, 3) := by decide +kernel
theorem dX2_gather_24 : decode cX2_gather 24 = .ok (.iconst 0, 1) := by decide +kernel
theorem dX2_gather_25 : decode cX2_gather 25 = .ok (.istore 4, 2) := by decide +kernel
theorem dX2_gather_27 : decode cX2_gather 27 = .ok (.iload 4, 2) := by decide +kernel
theorem dX2_gather_29 : decode cX2_gather 29 = .ok (.aload_n 1, 1) := by decide +kernel
theorem dX2_gather_30 : decode cX2_gather 30 = .ok (.getfield 46, 3) := by decide +kernel
theorem dX2_gather_33 : decode cX2_gather 33 = .ok (.getfield 52, 3) := by decide +kernel
theorem dX2_gather_36 : decode cX2_gather 36 = .ok (.if_icmp .ge 39, 3) := by decide +kernel
theorem dX2_gather_39 : decode cX2_gather 39 = .ok (.aload_n 1, 1) := by decide +kernel
theorem dX2_gather_40 : decode cX2_gather 40 = .ok (.getfield 46, 3) := by decide +kernel
theorem dX2_gather_43 : decode cX2_gather 43 = .ok (.iload 4, 2) := by decide +kernel
theorem dX2_gather_45 : decode cX2_gather 45 = .ok (.iload_n 2, 1) := by decide +kernel
theorem dX2_gather_46 : decode cX2_gather 46 = .ok (.iconst 1, 1) := by decide +kernel
theorem dX2_gather_47 : decode cX2_gather 47 = .ok (.invokevirtual 57, 3) := by decide +kernel
theorem dX2_gather_50 : decode cX2_gather 50 = .ok (.ifCond .eq 19, 3) := by decide +kernel
theorem dX2_gather_53 : decode cX2_gather 53 = .ok (.aload_n 0, 1) := by decide +kernel
theorem dX2_gather_54 : decode cX2_gather 54 = .ok (.aload_n 1, 1) := by decide +kernel
theorem dX2_gather_55 : decode cX2_gather 55 = .ok (.iload 4, 2) := by decide +kernel
theorem dX2_gather_57 : decode cX2_gather 57 = .ok (.iload_n 3, 1) := by decide +kernel
theorem dX2_gather_58 : decode cX2_gather 58 = .ok (.ifCond .ne 7, 3) := by decide +kernel
theorem dX2_gather_61 : decode cX2_gather 61 = .ok (.iconst 1, 1) := by decide +kernel
theorem dX2_gather_62 : decode cX2_gather 62 = .ok (.goto 4, 3) := by decide +kernel
theorem dX2_gather_65 : decode cX2_gather 65 = .ok (.iconst 0, 1) := by decide +kernel
theorem dX2_gather_66 : decode cX2_gather 66 = .ok (.invokevirtual 61, 3) := by decide +kernel
theorem dX2_gather_69 : decode cX2_gather 69 = .ok (.iinc 4 1, 3) := by decide +kernel
theorem dX2_gather_72 : decode cX2_gather 72 = .ok (.goto (-45), 3) := by decide +kernel
theorem dX2_gather_75 : decode cX2_gather 75 = .ok (.iconst 0, 1) := by decide +kernel
theorem dX2_gather_76 : decode cX2_gather 76 = .ok (.istore 4, 2) := by decide +kernel
theorem dX2_gather_78 : decode cX2_gather 78 = .ok (.iload 4, 2) := by decide +kernel
theorem dX2_gather_80 : decode cX2_gather 80 = .ok (.aload_n 0, 1) := by decide +kernel
theorem dX2_gather_81 : decode cX2_gather 81 = .ok (.getfield 35, 3) := by decide +kernel
theorem dX2_gather_84 : decode cX2_gather 84 = .ok (.if_icmp .ge 66, 3) := by decide +kernel
theorem dX2_gather_87 : decode cX2_gather 87 = .ok (.aload_n 0, 1) := by decide +kernel
theorem dX2_gather_88 : decode cX2_gather 88 = .ok (.getfield 18, 3) := by decide +kernel
theorem dX2_gather_91 : decode cX2_gather 91 = .ok (.iload 4, 2) := by decide +kernel
theorem dX2_gather_93 : decode cX2_gather 93 = .ok (.aload_n 0, 1) := by decide +kernel
theorem dX2_gather_94 : decode cX2_gather 94 = .ok (.getfield 15, 3) := by decide +kernel
theorem dX2_gather_97 : decode cX2_gather 97 = .ok (.iload 4, 2) := by decide +kernel
theorem dX2_gather_99 : decode cX2_gather 99 = .ok (.iaload, 1) := by decide +kernel
theorem dX2_gather_100 : decode cX2_gather 100 = .ok (.ifCond .le 22, 3) := by decide +kernel
theorem dX2_gather_103 : decode cX2_gather 103 = .ok (.aload_n 0, 1) := by decide +kernel
theorem dX2_gather_104 : decode cX2_gather 104 = .ok (.getfield 18, 3) := by decide +kernel
theorem dX2_gather_107 : decode cX2_gather 107 = .ok (.iload 4, 2) := by decide +kernel
theorem dX2_gather_109 : decode cX2_gather 109 = .ok (.laload, 1) := by decide +kernel
theorem dX2_gather_110 : decode cX2_gather 110 = .ok (.aload_n 0, 1) := by decide +kernel
theorem dX2_gather_111 : decode cX2_gather 111 = .ok (.getfield 15, 3) := by decide +kernel
theorem dX2_gather_114 : decode cX2_gather 114 = .ok (.iload 4, 2) := by decide +kernel
theorem dX2_gather_116 : decode cX2_gather 116 = .ok (.iaload, 1) := by decide +kernel
theorem dX2_gather_117 : decode cX2_gather 117 = .ok (.i2l, 1) := by decide +kernel
theorem dX2_gather_118 : decode cX2_gather 118 = .ok (.ldiv, 1) := by decide +kernel
theorem dX2_gather_119 : decode cX2_gather 119 = .ok (.goto 4, 3) := by decide +kernel
theorem dX2_gather_122 : decode cX2_gather 122 = .ok (.lconst 0, 1) := by decide +kernel
theorem dX2_gather_123 : decode cX2_gather 123 = .ok (.lastore, 1) := by decide +kernel
theorem dX2_gather_124 : decode cX2_gather 124 = .ok (.aload_n 0, 1) := by decide +kernel
theorem dX2_gather_125 : decode cX2_gather 125 = .ok (.getfield 22, 3) := by decide +kernel
theorem dX2_gather_128 : decode cX2_gather 128 = .ok (.iload 4, 2) := by decide +kernel
theorem dX2_gather_130 : decode cX2_gather 130 = .ok (.aload_n 0, 1) := by decide +kernel
theorem dX2_gather_131 : decode cX2_gather 131 = .ok (.aload_n 1, 1) := by decide +kernel
theorem dX2_gather_132 : decode cX2_gather 132 = .ok (.aload_n 0, 1) := by decide +kernel
theorem dX2_gather_133 : decode cX2_gather 133 = .ok (.getfield 9, 3) := by decide +kernel
theorem dX2_gather_136 : decode cX2_gather 136 = .ok (.iload 4, 2) := by decide +kernel
theorem dX2_gather_138 : decode cX2_gather 138 = .ok (.iaload, 1) := by decide +kernel
theorem dX2_gather_139 : decode cX2_gather 139 = .ok (.iload_n 3, 1) := by decide +kernel
theorem dX2_gather_140 : decode cX2_gather 140 = .ok (.invokevirtual 65, 3) := by decide +kernel
theorem dX2_gather_143 : decode cX2_gather 143 = .ok (.lastore, 1) := by decide +kernel
theorem dX2_gather_144 : decode cX2_gather 144 = .ok (.iinc 4 1, 3) := by decide +kernel
theorem dX2_gather_147 : decode cX2_gather 147 = .ok (.goto (-69), 3) := by decide +kernel
theorem dX2_gather_150 : decode cX2_gather 150 = .ok (.return_, 1) := by decide +kernel
theorem dX2_addExport_0 : decode cX2_addExport 0 = .ok (.iload_n 3, 1) := by decide +kernel
theorem dX2_addExport_1 : decode cX2_addExport 1 = .ok (.ifCond .eq 12, 3) := by decide +kernel
theorem dX2_addExport_4 : decode cX2_addExport 4 = .ok (.aload_n 0, 1) := by decide +kernel
theorem dX2_addExport_5 : decode cX2_addExport 5 = .ok (.aload_n 1, 1) := by decide +kernel
theorem dX2_addExport_6 : decode cX2_addExport 6 = .ok (.iload_n 2, 1) := by decide +kernel
theorem dX2_addExport_7 : decode cX2_addExport 7 = .ok (.invokevirtual 69, 3) := by decide +kernel
theorem dX2_addExport_10 : decode cX2_addExport 10 = .ok (.goto 7, 3) := by decide +kernel
theorem dX2_addExport_13 : decode cX2_addExport 13 = .ok (.aload_n 0, 1) := by decide +kernel
theorem dX2_addExport_14 : decode cX2_addExport 14 = .ok (.getfield 35, 3) := by decide +kernel
theorem dX2_addExport_17 : decode cX2_addExport 17 = .ok (.istore 4, 2) := by decide +kernel
theorem dX2_addExport_19 : decode cX2_addExport 19 = .ok (.iload 4, 2) := by decide +kernel
theorem dX2_addExport_21 : decode cX2_addExport 21 = .ok (.bipush 40, 2) := by decide +kernel
theorem dX2_addExport_23 : decode cX2_addExport 23 = .ok (.if_icmp .lt 4, 3) := by decide +kernel
theorem dX2_addExport_26 : decode cX2_addExport 26 = .ok (.return_, 1) := by decide +kernel
theorem dX2_addExport_27 : decode cX2_addExport 27 = .ok (.iload 4, 2) := by decide +kernel
theorem dX2_addExport_29 : decode cX2_addExport 29 = .ok (.aload_n 0, 1) := by decide +kernel
theorem dX2_addExport_30 : decode cX2_addExport 30 = .ok (.getfield 35, 3) := by decide +kernel
theorem dX2_addExport_33 : decode cX2_addExport 33 = .ok (.if_icmp .ne 37, 3) := by decide +kernel
theorem dX2_addExport_36 : decode cX2_addExport 36 = .ok (.aload_n 0, 1) := by decide +kernel
theorem dX2_addExport_37 : decode cX2_addExport 37 = .ok (.getfield 9, 3) := by decide +kernel
theorem dX2_addExport_40 : decode cX2_addExport 40 = .ok (.iload 4, 2) := by decide +kernel
theorem dX2_addExport_42 : decode cX2_addExport 42 = .ok (.iload_n 2, 1) := by decide +kernel
theorem dX2_addExport_43 : decode cX2_addExport 43 = .ok (.iastore, 1) := by decide +kernel
theorem dX2_addExport_44 : decode cX2_addExport 44 = .ok (.aload_n 0, 1) := by decide +kernel
theorem dX2_addExport_45 : decode cX2_addExport 45 = .ok (.getfield 15, 3) := by decide +kernel
theorem dX2_addExport_48 : decode cX2_addExport 48 = .ok (.iload 4, 2) := by decide +kernel
theorem dX2_addExport_50 : decode cX2_addExport 50 = .ok (.iconst 0, 1) := by decide +kernel
theorem dX2_addExport_51 : decode cX2_addExport 51 = .ok (.iastore, 1) := by decide +kernel
theorem dX2_addExport_52 : decode cX2_addExport 52 = .ok (.aload_n 0, 1) := by decide +kernel
theorem dX2_addExport_53 : decode cX2_addExport 53 = .ok (.getfield 18, 3) := by decide +kernel
theorem dX2_addExport_56 : decode cX2_addExport 56 = .ok (.iload 4, 2) := by decide +kernel
theorem dX2_addExport_58 : decode cX2_addExport 58 = .ok (.lconst 0, 1) := by decide +kernel
theorem dX2_addExport_59 : decode cX2_addExport 59 = .ok (.lastore, 1) := by decide +kernel
theorem dX2_addExport_60 : decode cX2_addExport 60 = .ok (.aload_n 0, 1) := by decide +kernel
theorem dX2_addExport_61 : decode cX2_addExport 61 = .ok (.dup, 1) := by decide +kernel
theorem dX2_addExport_62 : decode cX2_addExport 62 = .ok (.getfield 35, 3) := by decide +kernel
theorem dX2_addExport_65 : decode cX2_addExport 65 = .ok (.iconst 1, 1) := by decide +kernel
theorem dX2_addExport_66 : decode cX2_addExport 66 = .ok (.iadd, 1) := by decide +kernel
theorem dX2_addExport_67 : decode cX2_addExport 67 = .ok (.putfield 35, 3) := by decide +kernel
theorem dX2_addExport_70 : decode cX2_addExport 70 = .ok (.aload_n 0, 1) := by decide +kernel
theorem dX2_addExport_71 : decode cX2_addExport 71 = .ok (.getfield 15, 3) := by decide +kernel
theorem dX2_addExport_74 : decode cX2_addExport 74 = .ok (.iload 4, 2) := by decide +kernel
theorem dX2_addExport_76 : decode cX2_addExport 76 = .ok (.dup2, 1) := by decide +kernel
theorem dX2_addExport_77 : decode cX2_addExport 77 = .ok (.iaload, 1) := by decide +kernel
theorem dX2_addExport_78 : decode cX2_addExport 78 = .ok (.aload_n 1, 1) := by decide +kernel
theorem dX2_addExport_79 : decode cX2_addExport 79 = .ok (.getfield 46, 3) := by decide +kernel
theorem dX2_addExport_82 : decode cX2_addExport 82 = .ok (.getfield 73, 3) := by decide +kernel
theorem dX2_addExport_85 : decode cX2_addExport 85 = .ok (.iload_n 2, 1) := by decide +kernel
theorem dX2_addExport_86 : decode cX2_addExport 86 = .ok (.iaload, 1) := by decide +kernel
theorem dX2_addExport_87 : decode cX2_addExport 87 = .ok (.iadd, 1) := by decide +kernel
theorem dX2_addExport_88 : decode cX2_addExport 88 = .ok (.iastore, 1) := by decide +kernel
theorem dX2_addExport_89 : decode cX2_addExport 89 = .ok (.aload_n 0, 1) := by decide +kernel
theorem dX2_addExport_90 : decode cX2_addExport 90 = .ok (.getfield 18, 3) := by decide +kernel
theorem dX2_addExport_93 : decode cX2_addExport 93 = .ok (.iload 4, 2) := by decide +kernel
theorem dX2_addExport_95 : decode cX2_addExport 95 = .ok (.dup2, 1) := by decide +kernel
theorem dX2_addExport_96 : decode cX2_addExport 96 = .ok (.laload, 1) := by decide +kernel
theorem dX2_addExport_97 : decode cX2_addExport 97 = .ok (.aload_n 1, 1) := by decide +kernel
theorem dX2_addExport_98 : decode cX2_addExport 98 = .ok (.getfield 46, 3) := by decide +kernel
theorem dX2_addExport_101 : decode cX2_addExport 101 = .ok (.iload_n 2, 1) := by decide +kernel
theorem dX2_addExport_102 : decode cX2_addExport 102 = .ok (.invokevirtual 74, 3) := by decide +kernel
theorem dX2_addExport_105 : decode cX2_addExport 105 = .ok (.ladd, 1) := by decide +kernel
theorem dX2_addExport_106 : decode cX2_addExport 106 = .ok (.lastore, 1) := by decide +kernel
theorem dX2_addExport_107 : decode cX2_addExport 107 = .ok (.aload_n 0, 1) := by decide +kernel
theorem dX2_addExport_108 : decode cX2_addExport 108 = .ok (.dup, 1) := by decide +kernel
theorem dX2_addExport_109 : decode cX2_addExport 109 = .ok (.getfield 39, 3) := by decide +kernel
theorem dX2_addExport_112 : decode cX2_addExport 112 = .ok (.aload_n 1, 1) := by decide +kernel
theorem dX2_addExport_113 : decode cX2_addExport 113 = .ok (.getfield 46, 3) := by decide +kernel
theorem dX2_addExport_116 : decode cX2_addExport 116 = .ok (.iload_n 2, 1) := by decide +kernel
theorem dX2_addExport_117 : decode cX2_addExport 117 = .ok (.invokevirtual 74, 3) := by decide +kernel
theorem dX2_addExport_120 : decode cX2_addExport 120 = .ok (.ladd, 1) := by decide +kernel
theorem dX2_addExport_121 : decode cX2_addExport 121 = .ok (.putfield 39, 3) := by decide +kernel
theorem dX2_addExport_124 : decode cX2_addExport 124 = .ok (.aload_n 0, 1) := by decide +kernel
theorem dX2_addExport_125 : decode cX2_addExport 125 = .ok (.dup, 1) := by decide +kernel
theorem dX2_addExport_126 : decode cX2_addExport 126 = .ok (.getfield 43, 3) := by decide +kernel
theorem dX2_addExport_129 : decode cX2_addExport 129 = .ok (.aload_n 1, 1) := by decide +kernel
theorem dX2_addExport_130 : decode cX2_addExport 130 = .ok (.getfield 46, 3) := by decide +kernel
theorem dX2_addExport_133 : decode cX2_addExport 133 = .ok (.getfield 73, 3) := by decide +kernel
theorem dX2_addExport_136 : decode cX2_addExport 136 = .ok (.iload_n 2, 1) := by decide +kernel
theorem dX2_addExport_137 : decode cX2_addExport 137 = .ok (.iaload, 1) := by decide +kernel
theorem dX2_addExport_138 : decode cX2_addExport 138 = .ok (.i2l, 1) := by decide +kernel
theorem dX2_addExport_139 : decode cX2_addExport 139 = .ok (.ladd, 1) := by decide +kernel
theorem dX2_addExport_140 : decode cX2_addExport 140 = .ok (.putfield 43, 3) := by decide +kernel
theorem dX2_addExport_143 : decode cX2_addExport 143 = .ok (.return_, 1) := by decide +kernel
theorem dX2_unitLike_0 : decode cX2_unitLike 0 = .ok (.aload_n 1, 1) := by decide +kernel
theorem dX2_unitLike_1 : decode cX2_unitLike 1 = .ok (.getfield 46, 3) := by decide +kernel
theorem dX2_unitLike_4 : decode cX2_unitLike 4 = .ok (.astore_n 3, 1) := by decide +kernel
theorem dX2_unitLike_5 : decode cX2_unitLike 5 = .ok (.iconst 0, 1) := by decide +kernel
theorem dX2_unitLike_6 : decode cX2_unitLike 6 = .ok (.istore 4, 2) := by decide +kernel
theorem dX2_unitLike_8 : decode cX2_unitLike 8 = .ok (.iload 4, 2) := by decide +kernel
theorem dX2_unitLike_10 : decode cX2_unitLike 10 = .ok (.aload_n 0, 1) := by decide +kernel
theorem dX2_unitLike_11 : decode cX2_unitLike 11 = .ok (.getfield 35, 3) := by decide +kernel
theorem dX2_unitLike_14 : decode cX2_unitLike 14 = .ok (.if_icmp .ge 67, 3) := by decide +kernel
theorem dX2_unitLike_17 : decode cX2_unitLike 17 = .ok (.aload_n 0, 1) := by decide +kernel
theorem dX2_unitLike_18 : decode cX2_unitLike 18 = .ok (.getfield 9, 3) := by decide +kernel
theorem dX2_unitLike_21 : decode cX2_unitLike 21 = .ok (.iload 4, 2) := by decide +kernel
theorem dX2_unitLike_23 : decode cX2_unitLike 23 = .ok (.iaload, 1) := by decide +kernel
theorem dX2_unitLike_24 : decode cX2_unitLike 24 = .ok (.istore 5, 2) := by decide +kernel
theorem dX2_unitLike_26 : decode cX2_unitLike 26 = .ok (.aload_n 3, 1) := by decide +kernel
theorem dX2_unitLike_27 : decode cX2_unitLike 27 = .ok (.getfield 78, 3) := by decide +kernel
theorem dX2_unitLike_30 : decode cX2_unitLike 30 = .ok (.iload 5, 2) := by decide +kernel
theorem dX2_unitLike_32 : decode cX2_unitLike 32 = .ok (.iaload, 1) := by decide +kernel
theorem dX2_unitLike_33 : decode cX2_unitLike 33 = .ok (.aload_n 3, 1) := by decide +kernel
theorem dX2_unitLike_34 : decode cX2_unitLike 34 = .ok (.getfield 78, 3) := by decide +kernel
theorem dX2_unitLike_37 : decode cX2_unitLike 37 = .ok (.iload_n 2, 1) := by decide +kernel
theorem dX2_unitLike_38 : decode cX2_unitLike 38 = .ok (.iaload, 1) := by decide +kernel
theorem dX2_unitLike_39 : decode cX2_unitLike 39 = .ok (.if_icmp .ne 36, 3) := by decide +kernel
theorem dX2_unitLike_42 : decode cX2_unitLike 42 = .ok (.aload_n 3, 1) := by decide +kernel
theorem dX2_unitLike_43 : decode cX2_unitLike 43 = .ok (.getfield 81, 3) := by decide +kernel
theorem dX2_unitLike_46 : decode cX2_unitLike 46 = .ok (.iload 5, 2) := by decide +kernel
theorem dX2_unitLike_48 : decode cX2_unitLike 48 = .ok (.iaload, 1) := by decide +kernel
theorem dX2_unitLike_49 : decode cX2_unitLike 49 = .ok (.aload_n 3, 1) := by decide +kernel
theorem dX2_unitLike_50 : decode cX2_unitLike 50 = .ok (.getfield 81, 3) := by decide +kernel
theorem dX2_unitLike_53 : decode cX2_unitLike 53 = .ok (.iload_n 2, 1) := by decide +kernel
theorem dX2_unitLike_54 : decode cX2_unitLike 54 = .ok (.iaload, 1) := by decide +kernel
theorem dX2_unitLike_55 : decode cX2_unitLike 55 = .ok (.if_icmp .ne 20, 3) := by decide +kernel
theorem dX2_unitLike_58 : decode cX2_unitLike 58 = .ok (.aload_n 1, 1) := by decide +kernel
theorem dX2_unitLike_59 : decode cX2_unitLike 59 = .ok (.iload 5, 2) := by decide +kernel
theorem dX2_unitLike_61 : decode cX2_unitLike 61 = .ok (.invokevirtual 84, 3) := by decide +kernel
theorem dX2_unitLike_64 : decode cX2_unitLike 64 = .ok (.aload_n 1, 1) := by decide +kernel
theorem dX2_unitLike_65 : decode cX2_unitLike 65 = .ok (.iload_n 2, 1) := by decide +kernel
theorem dX2_unitLike_66 : decode cX2_unitLike 66 = .ok (.invokevirtual 84, 3) := by decide +kernel
theorem dX2_unitLike_69 : decode cX2_unitLike 69 = .ok (.if_icmp .ne 6, 3) := by decide +kernel
theorem dX2_unitLike_72 : decode cX2_unitLike 72 = .ok (.iload 4, 2) := by decide +kernel
theorem dX2_unitLike_74 : decode cX2_unitLike 74 = .ok (.ireturn, 1) := by decide +kernel
theorem dX2_unitLike_75 : decode cX2_unitLike 75 = .ok (.iinc 4 1, 3) := by decide +kernel
theorem dX2_unitLike_78 : decode cX2_unitLike 78 = .ok (.goto (-70), 3) := by decide +kernel
theorem dX2_unitLike_81 : decode cX2_unitLike 81 = .ok (.aload_n 0, 1) := by decide +kernel
theorem dX2_unitLike_82 : decode cX2_unitLike 82 = .ok (.getfield 35, 3) := by decide +kernel
theorem dX2_unitLike_85 : decode cX2_unitLike 85 = .ok (.ireturn, 1) := by decide +kernel
theorem dX2_worthFor_0 : decode cX2_worthFor 0 = .ok (.iload_n 3, 1) := by decide +kernel
theorem dX2_worthFor_1 : decode cX2_worthFor 1 = .ok (.iconst 2, 1) := by decide +kernel
theorem dX2_worthFor_2 : decode cX2_worthFor 2 = .ok (.if_icmp .ne 14, 3) := by decide +kernel
theorem dX2_worthFor_5 : decode cX2_worthFor 5 = .ok (.aload_n 0, 1) := by decide +kernel
theorem dX2_worthFor_6 : decode cX2_worthFor 6 = .ok (.getfield 25, 3) := by decide +kernel
theorem dX2_worthFor_9 : decode cX2_worthFor 9 = .ok (.iload_n 2, 1) := by decide +kernel
theorem dX2_worthFor_10 : decode cX2_worthFor 10 = .ok (.invokevirtual 88, 3) := by decide +kernel
theorem dX2_worthFor_13 : decode cX2_worthFor 13 = .ok (.goto 4, 3) := by decide +kernel
theorem dX2_worthFor_16 : decode cX2_worthFor 16 = .ok (.iconst (-1), 1) := by decide +kernel
theorem dX2_worthFor_17 : decode cX2_worthFor 17 = .ok (.istore 4, 2) := by decide +kernel
theorem dX2_worthFor_19 : decode cX2_worthFor 19 = .ok (.iload 4, 2) := by decide +kernel
theorem dX2_worthFor_21 : decode cX2_worthFor 21 = .ok (.iconst (-1), 1) := by decide +kernel
theorem dX2_worthFor_22 : decode cX2_worthFor 22 = .ok (.if_icmp .eq 14, 3) := by decide +kernel
theorem dX2_worthFor_25 : decode cX2_worthFor 25 = .ok (.aload_n 0, 1) := by decide +kernel
theorem dX2_worthFor_26 : decode cX2_worthFor 26 = .ok (.getfield 25, 3) := by decide +kernel
theorem dX2_worthFor_29 : decode cX2_worthFor 29 = .ok (.iload_n 2, 1) := by decide +kernel
theorem dX2_worthFor_30 : decode cX2_worthFor 30 = .ok (.iload 4, 2) := by decide +kernel
theorem dX2_worthFor_32 : decode cX2_worthFor 32 = .ok (.invokevirtual 91, 3) := by decide +kernel
theorem dX2_worthFor_35 : decode cX2_worthFor 35 = .ok (.lreturn, 1) := by decide +kernel
theorem dX2_worthFor_36 : decode cX2_worthFor 36 = .ok (.aload_n 0, 1) := by decide +kernel
theorem dX2_worthFor_37 : decode cX2_worthFor 37 = .ok (.getfield 25, 3) := by decide +kernel
theorem dX2_worthFor_40 : decode cX2_worthFor 40 = .ok (.aload_n 1, 1) := by decide +kernel
theorem dX2_worthFor_41 : decode cX2_worthFor 41 = .ok (.getfield 46, 3) := by decide +kernel
theorem dX2_worthFor_44 : decode cX2_worthFor 44 = .ok (.getfield 78, 3) := by decide +kernel
theorem dX2_worthFor_47 : decode cX2_worthFor 47 = .ok (.iload_n 2, 1) := by decide +kernel
theorem dX2_worthFor_48 : decode cX2_worthFor 48 = .ok (.iaload, 1) := by decide +kernel
theorem dX2_worthFor_49 : decode cX2_worthFor 49 = .ok (.aload_n 1, 1) := by decide +kernel
theorem dX2_worthFor_50 : decode cX2_worthFor 50 = .ok (.getfield 46, 3) := by decide +kernel
theorem dX2_worthFor_53 : decode cX2_worthFor 53 = .ok (.getfield 81, 3) := by decide +kernel
theorem dX2_worthFor_56 : decode cX2_worthFor 56 = .ok (.iload_n 2, 1) := by decide +kernel
theorem dX2_worthFor_57 : decode cX2_worthFor 57 = .ok (.iaload, 1) := by decide +kernel
theorem dX2_worthFor_58 : decode cX2_worthFor 58 = .ok (.aload_n 1, 1) := by decide +kernel
theorem dX2_worthFor_59 : decode cX2_worthFor 59 = .ok (.iload_n 2, 1) := by decide +kernel
theorem dX2_worthFor_60 : decode cX2_worthFor 60 = .ok (.invokevirtual 84, 3) := by decide +kernel
theorem dX2_worthFor_63 : decode cX2_worthFor 63 = .ok (.invokevirtual 95, 3) := by decide +kernel
theorem dX2_worthFor_66 : decode cX2_worthFor 66 = .ok (.lreturn, 1) := by decide +kernel
theorem dX2_differenceFor_0 : decode cX2_differenceFor 0 = .ok (.aload_n 0, 1) := by decide +kernel
theorem dX2_differenceFor_1 : decode cX2_differenceFor 1 = .ok (.getfield 25, 3) := by decide +kernel
theorem dX2_differenceFor_4 : decode cX2_differenceFor 4 = .ok (.aload_n 1, 1) := by decide +kernel
theorem dX2_differenceFor_5 : decode cX2_differenceFor 5 = .ok (.aload_n 1, 1) := by decide +kernel
theorem dX2_differenceFor_6 : decode cX2_differenceFor 6 = .ok (.getfield 46, 3) := by decide +kernel
theorem dX2_differenceFor_9 : decode cX2_differenceFor 9 = .ok (.getfield 99, 3) := by decide +kernel
theorem dX2_differenceFor_12 : decode cX2_differenceFor 12 = .ok (.iload_n 2, 1) := by decide +kernel
theorem dX2_differenceFor_13 : decode cX2_differenceFor 13 = .ok (.iaload, 1) := by decide +kernel
theorem dX2_differenceFor_14 : decode cX2_differenceFor 14 = .ok (.invokevirtual 29, 3) := by decide +kernel
theorem dX2_differenceFor_17 : decode cX2_differenceFor 17 = .ok (.aload_n 0, 1) := by decide +kernel
theorem dX2_differenceFor_18 : decode cX2_differenceFor 18 = .ok (.aload_n 1, 1) := by decide +kernel
theorem dX2_differenceFor_19 : decode cX2_differenceFor 19 = .ok (.iload_n 2, 1) := by decide +kernel
theorem dX2_differenceFor_20 : decode cX2_differenceFor 20 = .ok (.iload_n 3, 1) := by decide +kernel
theorem dX2_differenceFor_21 : decode cX2_differenceFor 21 = .ok (.invokevirtual 65, 3) := by decide +kernel
theorem dX2_differenceFor_24 : decode cX2_differenceFor 24 = .ok (.ldc2_w 102, 3) := by decide +kernel
theorem dX2_differenceFor_27 : decode cX2_differenceFor 27 = .ok (.aload_n 1, 1) := by decide +kernel
theorem dX2_differenceFor_28 : decode cX2_differenceFor 28 = .ok (.getfield 46, 3) := by decide +kernel
theorem dX2_differenceFor_31 : decode cX2_differenceFor 31 = .ok (.getfield 104, 3) := by decide +kernel
theorem dX2_differenceFor_34 : decode cX2_differenceFor 34 = .ok (.iload_n 2, 1) := by decide +kernel
theorem dX2_differenceFor_35 : decode cX2_differenceFor 35 = .ok (.iaload, 1) := by decide +kernel
theorem dX2_differenceFor_36 : decode cX2_differenceFor 36 = .ok (.i2l, 1) := by decide +kernel
theorem dX2_differenceFor_37 : decode cX2_differenceFor 37 = .ok (.lmul, 1) := by decide +kernel
theorem dX2_differenceFor_38 : decode cX2_differenceFor 38 = .ok (.lsub, 1) := by decide +kernel
theorem dX2_differenceFor_39 : decode cX2_differenceFor 39 = .ok (.aload_n 1, 1) := by decide +kernel
theorem dX2_differenceFor_40 : decode cX2_differenceFor 40 = .ok (.getfield 46, 3) := by decide +kernel
theorem dX2_differenceFor_43 : decode cX2_differenceFor 43 = .ok (.getfield 73, 3) := by decide +kernel
theorem dX2_differenceFor_46 : decode cX2_differenceFor 46 = .ok (.iload_n 2, 1) := by decide +kernel
theorem dX2_differenceFor_47 : decode cX2_differenceFor 47 = .ok (.iaload, 1) := by decide +kernel
theorem dX2_differenceFor_48 : decode cX2_differenceFor 48 = .ok (.i2l, 1) := by decide +kernel
theorem dX2_differenceFor_49 : decode cX2_differenceFor 49 = .ok (.lmul, 1) := by decide +kernel
theorem dX2_differenceFor_50 : decode cX2_differenceFor 50 = .ok (.lreturn, 1) := by decide +kernel
theorem dX2_differenceAt_0 : decode cX2_differenceAt 0 = .ok (.aload_n 0, 1) := by decide +kernel
theorem dX2_differenceAt_1 : decode cX2_differenceAt 1 = .ok (.getfield 22, 3) := by decide +kernel
theorem dX2_differenceAt_4 : decode cX2_differenceAt 4 = .ok (.iload_n 1, 1) := by decide +kernel
theorem dX2_differenceAt_5 : decode cX2_differenceAt 5 = .ok (.laload, 1) := by decide +kernel
theorem dX2_differenceAt_6 : decode cX2_differenceAt 6 = .ok (.aload_n 0, 1) := by decide +kernel
theorem dX2_differenceAt_7 : decode cX2_differenceAt 7 = .ok (.getfield 18, 3) := by decide +kernel
theorem dX2_differenceAt_10 : decode cX2_differenceAt 10 = .ok (.iload_n 1, 1) := by decide +kernel
theorem dX2_differenceAt_11 : decode cX2_differenceAt 11 = .ok (.laload, 1) := by decide +kernel
theorem dX2_differenceAt_12 : decode cX2_differenceAt 12 = .ok (.lsub, 1) := by decide +kernel
theorem dX2_differenceAt_13 : decode cX2_differenceAt 13 = .ok (.ldc2_w 102, 3) := by decide +kernel
theorem dX2_differenceAt_16 : decode cX2_differenceAt 16 = .ok (.iload_n 2, 1) := by decide +kernel
theorem dX2_differenceAt_17 : decode cX2_differenceAt 17 = .ok (.i2l, 1) := by decide +kernel
theorem dX2_differenceAt_18 : decode cX2_differenceAt 18 = .ok (.lmul, 1) := by decide +kernel
theorem dX2_differenceAt_19 : decode cX2_differenceAt 19 = .ok (.lsub, 1) := by decide +kernel
theorem dX2_differenceAt_20 : decode cX2_differenceAt 20 = .ok (.aload_n 0, 1) := by decide +kernel
theorem dX2_differenceAt_21 : decode cX2_differenceAt 21 = .ok (.getfield 15, 3) := by decide +kernel
theorem dX2_differenceAt_24 : decode cX2_differenceAt 24 = .ok (.iload_n 1, 1) := by decide +kernel
theorem dX2_differenceAt_25 : decode cX2_differenceAt 25 = .ok (.iaload, 1) := by decide +kernel
theorem dX2_differenceAt_26 : decode cX2_differenceAt 26 = .ok (.i2l, 1) := by decide +kernel
theorem dX2_differenceAt_27 : decode cX2_differenceAt 27 = .ok (.lmul, 1) := by decide +kernel
theorem dX2_differenceAt_28 : decode cX2_differenceAt 28 = .ok (.lreturn, 1) := by decide +kernel
theorem dX2_sumAt_0 : decode cX2_sumAt 0 = .ok (.lconst 0, 1) := by decide +kernel
theorem dX2_sumAt_1 : decode cX2_sumAt 1 = .ok (.lstore_n 3, 1) := by decide +kernel
theorem dX2_sumAt_2 : decode cX2_sumAt 2 = .ok (.iconst 0, 1) := by decide +kernel
theorem dX2_sumAt_3 : decode cX2_sumAt 3 = .ok (.istore 5, 2) := by decide +kernel
theorem dX2_sumAt_5 : decode cX2_sumAt 5 = .ok (.iload 5, 2) := by decide +kernel
theorem dX2_sumAt_7 : decode cX2_sumAt 7 = .ok (.aload_n 0, 1) := by decide +kernel
theorem dX2_sumAt_8 : decode cX2_sumAt 8 = .ok (.getfield 35, 3) := by decide +kernel
theorem dX2_sumAt_11 : decode cX2_sumAt 11 = .ok (.if_icmp .ge 36, 3) := by decide +kernel
theorem dX2_sumAt_14 : decode cX2_sumAt 14 = .ok (.aload_n 0, 1) := by decide +kernel
theorem dX2_sumAt_15 : decode cX2_sumAt 15 = .ok (.iload 5, 2) := by decide +kernel
theorem dX2_sumAt_17 : decode cX2_sumAt 17 = .ok (.iload_n 2, 1) := by decide +kernel
theorem dX2_sumAt_18 : decode cX2_sumAt 18 = .ok (.invokevirtual 107, 3) := by decide +kernel
theorem dX2_sumAt_21 : decode cX2_sumAt 21 = .ok (.lstore 6, 2) := by decide +kernel
theorem dX2_sumAt_23 : decode cX2_sumAt 23 = .ok (.lload_n 3, 1) := by decide +kernel
theorem dX2_sumAt_24 : decode cX2_sumAt 24 = .ok (.iload_n 1, 1) := by decide +kernel
theorem dX2_sumAt_25 : decode cX2_sumAt 25 = .ok (.ifCond .eq 12, 3) := by decide +kernel
theorem dX2_sumAt_28 : decode cX2_sumAt 28 = .ok (.lconst 0, 1) := by decide +kernel
theorem dX2_sumAt_29 : decode cX2_sumAt 29 = .ok (.lload 6, 2) := by decide +kernel
theorem dX2_sumAt_31 : decode cX2_sumAt 31 = .ok (.invokestatic 110, 3) := by decide +kernel
theorem dX2_sumAt_34 : decode cX2_sumAt 34 = .ok (.goto 5, 3) := by decide +kernel
theorem dX2_sumAt_37 : decode cX2_sumAt 37 = .ok (.lload 6, 2) := by decide +kernel
theorem dX2_sumAt_39 : decode cX2_sumAt 39 = .ok (.ladd, 1) := by decide +kernel
theorem dX2_sumAt_40 : decode cX2_sumAt 40 = .ok (.lstore_n 3, 1) := by decide +kernel
theorem dX2_sumAt_41 : decode cX2_sumAt 41 = .ok (.iinc 5 1, 3) := by decide +kernel
theorem dX2_sumAt_44 : decode cX2_sumAt 44 = .ok (.goto (-39), 3) := by decide +kernel
theorem dX2_sumAt_47 : decode cX2_sumAt 47 = .ok (.lload_n 3, 1) := by decide +kernel
theorem dX2_sumAt_48 : decode cX2_sumAt 48 = .ok (.lreturn, 1) := by decide +kernel
theorem dX2_marginOf_0 : decode cX2_marginOf 0 = .ok (.lload_n 2, 1) := by decide +kernel
theorem dX2_marginOf_1 : decode cX2_marginOf 1 = .ok (.lconst 0, 1) := by decide +kernel
theorem dX2_marginOf_2 : decode cX2_marginOf 2 = .ok (.lcmp, 1) := by decide +kernel
theorem dX2_marginOf_3 : decode cX2_marginOf 3 = .ok (.ifCond .gt 16, 3) := by decide +kernel
theorem dX2_marginOf_6 : decode cX2_marginOf 6 = .ok (.lload_n 0, 1) := by decide +kernel
theorem dX2_marginOf_7 : decode cX2_marginOf 7 = .ok (.lconst 0, 1) := by decide +kernel
theorem dX2_marginOf_8 : decode cX2_marginOf 8 = .ok (.lcmp, 1) := by decide +kernel
theorem dX2_marginOf_9 : decode cX2_marginOf 9 = .ok (.ifCond .ne 7, 3) := by decide +kernel
theorem dX2_marginOf_12 : decode cX2_marginOf 12 = .ok (.iconst 0, 1) := by decide +kernel
theorem dX2_marginOf_13 : decode cX2_marginOf 13 = .ok (.goto 5, 3) := by decide +kernel
theorem dX2_marginOf_16 : decode cX2_marginOf 16 = .ok (.ldc 116, 2) := by decide +kernel
theorem dX2_marginOf_18 : decode cX2_marginOf 18 = .ok (.ireturn, 1) := by decide +kernel
theorem dX2_marginOf_19 : decode cX2_marginOf 19 = .ok (.ldc2_w 117, 3) := by decide +kernel
theorem dX2_marginOf_22 : decode cX2_marginOf 22 = .ok (.lload_n 0, 1) := by decide +kernel
theorem dX2_marginOf_23 : decode cX2_marginOf 23 = .ok (.lmul, 1) := by decide +kernel
theorem dX2_marginOf_24 : decode cX2_marginOf 24 = .ok (.lload_n 2, 1) := by decide +kernel
theorem dX2_marginOf_25 : decode cX2_marginOf 25 = .ok (.invokestatic 119, 3) := by decide +kernel
theorem dX2_marginOf_28 : decode cX2_marginOf 28 = .ok (.lstore 4, 2) := by decide +kernel
theorem dX2_marginOf_30 : decode cX2_marginOf 30 = .ok (.lconst 0, 1) := by decide +kernel
theorem dX2_marginOf_31 : decode cX2_marginOf 31 = .ok (.ldc2_w 122, 3) := by decide +kernel
theorem dX2_marginOf_34 : decode cX2_marginOf 34 = .ok (.lload 4, 2) := by decide +kernel
theorem dX2_marginOf_36 : decode cX2_marginOf 36 = .ok (.invokestatic 124, 3) := by decide +kernel
theorem dX2_marginOf_39 : decode cX2_marginOf 39 = .ok (.invokestatic 110, 3) := by decide +kernel
theorem dX2_marginOf_42 : decode cX2_marginOf 42 = .ok (.l2i, 1) := by decide +kernel
theorem dX2_marginOf_43 : decode cX2_marginOf 43 = .ok (.ireturn, 1) := by decide +kernel
theorem dX2_marginAt_0 : decode cX2_marginAt 0 = .ok (.aload_n 0, 1) := by decide +kernel
theorem dX2_marginAt_1 : decode cX2_marginAt 1 = .ok (.iload_n 1, 1) := by decide +kernel
theorem dX2_marginAt_2 : decode cX2_marginAt 2 = .ok (.iload_n 2, 1) := by decide +kernel
theorem dX2_marginAt_3 : decode cX2_marginAt 3 = .ok (.invokevirtual 127, 3) := by decide +kernel
theorem dX2_marginAt_6 : decode cX2_marginAt 6 = .ok (.aload_n 0, 1) := by decide +kernel
theorem dX2_marginAt_7 : decode cX2_marginAt 7 = .ok (.getfield 39, 3) := by decide +kernel
theorem dX2_marginAt_10 : decode cX2_marginAt 10 = .ok (.ldc2_w 102, 3) := by decide +kernel
theorem dX2_marginAt_13 : decode cX2_marginAt 13 = .ok (.iload_n 2, 1) := by decide +kernel
theorem dX2_marginAt_14 : decode cX2_marginAt 14 = .ok (.i2l, 1) := by decide +kernel
theorem dX2_marginAt_15 : decode cX2_marginAt 15 = .ok (.lmul, 1) := by decide +kernel
theorem dX2_marginAt_16 : decode cX2_marginAt 16 = .ok (.aload_n 0, 1) := by decide +kernel
theorem dX2_marginAt_17 : decode cX2_marginAt 17 = .ok (.getfield 43, 3) := by decide +kernel
theorem dX2_marginAt_20 : decode cX2_marginAt 20 = .ok (.lmul, 1) := by decide +kernel
theorem dX2_marginAt_21 : decode cX2_marginAt 21 = .ok (.ladd, 1) := by decide +kernel
theorem dX2_marginAt_22 : decode cX2_marginAt 22 = .ok (.invokestatic 131, 3) := by decide +kernel
theorem dX2_marginAt_25 : decode cX2_marginAt 25 = .ok (.ireturn, 1) := by decide +kernel
theorem dX2_ownMargin_0 : decode cX2_ownMargin 0 = .ok (.aload_n 0, 1) := by decide +kernel
theorem dX2_ownMargin_1 : decode cX2_ownMargin 1 = .ok (.aload_n 1, 1) := by decide +kernel
theorem dX2_ownMargin_2 : decode cX2_ownMargin 2 = .ok (.iload_n 2, 1) := by decide +kernel
theorem dX2_ownMargin_3 : decode cX2_ownMargin 3 = .ok (.iload_n 3, 1) := by decide +kernel
theorem dX2_ownMargin_4 : decode cX2_ownMargin 4 = .ok (.invokevirtual 135, 3) := by decide +kernel
theorem dX2_ownMargin_7 : decode cX2_ownMargin 7 = .ok (.aload_n 0, 1) := by decide +kernel
theorem dX2_ownMargin_8 : decode cX2_ownMargin 8 = .ok (.iload 4, 2) := by decide +kernel
theorem dX2_ownMargin_10 : decode cX2_ownMargin 10 = .ok (.iconst 0, 1) := by decide +kernel
theorem dX2_ownMargin_11 : decode cX2_ownMargin 11 = .ok (.invokevirtual 139, 3) := by decide +kernel
theorem dX2_ownMargin_14 : decode cX2_ownMargin 14 = .ok (.ireturn, 1) := by decide +kernel
theorem dX2_marginNow_0 : decode cX2_marginNow 0 = .ok (.aload_n 0, 1) := by decide +kernel
theorem dX2_marginNow_1 : decode cX2_marginNow 1 = .ok (.aload_n 1, 1) := by decide +kernel
theorem dX2_marginNow_2 : decode cX2_marginNow 2 = .ok (.iload_n 2, 1) := by decide +kernel
theorem dX2_marginNow_3 : decode cX2_marginNow 3 = .ok (.aload_n 1, 1) := by decide +kernel
theorem dX2_marginNow_4 : decode cX2_marginNow 4 = .ok (.getfield 143, 3) := by decide +kernel
theorem dX2_marginNow_7 : decode cX2_marginNow 7 = .ok (.iconst 0, 1) := by decide +kernel
theorem dX2_marginNow_8 : decode cX2_marginNow 8 = .ok (.iaload, 1) := by decide +kernel
theorem dX2_marginNow_9 : decode cX2_marginNow 9 = .ok (.invokevirtual 135, 3) := by decide +kernel
theorem dX2_marginNow_12 : decode cX2_marginNow 12 = .ok (.aload_n 0, 1) := by decide +kernel
theorem dX2_marginNow_13 : decode cX2_marginNow 13 = .ok (.aload_n 1, 1) := by decide +kernel
theorem dX2_marginNow_14 : decode cX2_marginNow 14 = .ok (.invokevirtual 146, 3) := by decide +kernel
theorem dX2_marginNow_17 : decode cX2_marginNow 17 = .ok (.iconst 0, 1) := by decide +kernel
theorem dX2_marginNow_18 : decode cX2_marginNow 18 = .ok (.invokevirtual 139, 3) := by decide +kernel
theorem dX2_marginNow_21 : decode cX2_marginNow 21 = .ok (.ireturn, 1) := by decide +kernel
theorem dX2_marginWithout_0 : decode cX2_marginWithout 0 = .ok (.aload_n 1, 1) := by decide +kernel
theorem dX2_marginWithout_1 : decode cX2_marginWithout 1 = .ok (.getfield 46, 3) := by decide +kernel
theorem dX2_marginWithout_4 : decode cX2_marginWithout 4 = .ok (.getfield 150, 3) := by decide +kernel
theorem dX2_marginWithout_7 : decode cX2_marginWithout 7 = .ok (.iload_n 2, 1) := by decide +kernel
theorem dX2_marginWithout_8 : decode cX2_marginWithout 8 = .ok (.iconst 0, 1) := by decide +kernel
theorem dX2_marginWithout_9 : decode cX2_marginWithout 9 = .ok (.bastore, 1) := by decide +kernel
theorem dX2_marginWithout_10 : decode cX2_marginWithout 10 = .ok (.aload_n 0, 1) := by decide +kernel
theorem dX2_marginWithout_11 : decode cX2_marginWithout 11 = .ok (.aload_n 1, 1) := by decide +kernel
theorem dX2_marginWithout_12 : decode cX2_marginWithout 12 = .ok (.aload_n 1, 1) := by decide +kernel
theorem dX2_marginWithout_13 : decode cX2_marginWithout 13 = .ok (.getfield 46, 3) := by decide +kernel
theorem dX2_marginWithout_16 : decode cX2_marginWithout 16 = .ok (.getfield 99, 3) := by decide +kernel
theorem dX2_marginWithout_19 : decode cX2_marginWithout 19 = .ok (.iload_n 2, 1) := by decide +kernel
theorem dX2_marginWithout_20 : decode cX2_marginWithout 20 = .ok (.iaload, 1) := by decide +kernel
theorem dX2_marginWithout_21 : decode cX2_marginWithout 21 = .ok (.invokevirtual 154, 3) := by decide +kernel
theorem dX2_marginWithout_24 : decode cX2_marginWithout 24 = .ok (.istore_n 3, 1) := by decide +kernel
theorem dX2_marginWithout_25 : decode cX2_marginWithout 25 = .ok (.aload_n 1, 1) := by decide +kernel
theorem dX2_marginWithout_26 : decode cX2_marginWithout 26 = .ok (.getfield 46, 3) := by decide +kernel
theorem dX2_marginWithout_29 : decode cX2_marginWithout 29 = .ok (.getfield 150, 3) := by decide +kernel
theorem dX2_marginWithout_32 : decode cX2_marginWithout 32 = .ok (.iload_n 2, 1) := by decide +kernel
theorem dX2_marginWithout_33 : decode cX2_marginWithout 33 = .ok (.iconst 1, 1) := by decide +kernel
theorem dX2_marginWithout_34 : decode cX2_marginWithout 34 = .ok (.bastore, 1) := by decide +kernel
theorem dX2_marginWithout_35 : decode cX2_marginWithout 35 = .ok (.iload_n 3, 1) := by decide +kernel
theorem dX2_marginWithout_36 : decode cX2_marginWithout 36 = .ok (.ireturn, 1) := by decide +kernel
theorem dX2_leastRaise_0 : decode cX2_leastRaise 0 = .ok (.aload_n 0, 1) := by decide +kernel
theorem dX2_leastRaise_1 : decode cX2_leastRaise 1 = .ok (.iload_n 1, 1) := by decide +kernel
theorem dX2_leastRaise_2 : decode cX2_leastRaise 2 = .ok (.sipush 9999, 3) := by decide +kernel
theorem dX2_leastRaise_5 : decode cX2_leastRaise 5 = .ok (.invokevirtual 139, 3) := by decide +kernel
theorem dX2_leastRaise_8 : decode cX2_leastRaise 8 = .ok (.sipush 200, 3) := by decide +kernel
theorem dX2_leastRaise_11 : decode cX2_leastRaise 11 = .ok (.if_icmp .lt 5, 3) := by decide +kernel
theorem dX2_leastRaise_14 : decode cX2_leastRaise 14 = .ok (.iconst (-1), 1) := by decide +kernel
theorem dX2_leastRaise_15 : decode cX2_leastRaise 15 = .ok (.ireturn, 1) := by decide +kernel
theorem dX2_leastRaise_16 : decode cX2_leastRaise 16 = .ok (.iconst 0, 1) := by decide +kernel
theorem dX2_leastRaise_17 : decode cX2_leastRaise 17 = .ok (.istore_n 2, 1) := by decide +kernel
theorem dX2_leastRaise_18 : decode cX2_leastRaise 18 = .ok (.sipush 9999, 3) := by decide +kernel
theorem dX2_leastRaise_21 : decode cX2_leastRaise 21 = .ok (.istore_n 3, 1) := by decide +kernel
theorem dX2_leastRaise_22 : decode cX2_leastRaise 22 = .ok (.iconst 0, 1) := by decide +kernel
theorem dX2_leastRaise_23 : decode cX2_leastRaise 23 = .ok (.istore 4, 2) := by decide +kernel
theorem dX2_leastRaise_25 : decode cX2_leastRaise 25 = .ok (.iload 4, 2) := by decide +kernel
theorem dX2_leastRaise_27 : decode cX2_leastRaise 27 = .ok (.sipush 9999, 3) := by decide +kernel
theorem dX2_leastRaise_30 : decode cX2_leastRaise 30 = .ok (.if_icmp .ge 45, 3) := by decide +kernel
theorem dX2_leastRaise_33 : decode cX2_leastRaise 33 = .ok (.iload_n 2, 1) := by decide +kernel
theorem dX2_leastRaise_34 : decode cX2_leastRaise 34 = .ok (.iload_n 3, 1) := by decide +kernel
theorem dX2_leastRaise_35 : decode cX2_leastRaise 35 = .ok (.if_icmp .ge 40, 3) := by decide +kernel
theorem dX2_leastRaise_38 : decode cX2_leastRaise 38 = .ok (.iload_n 2, 1) := by decide +kernel
theorem dX2_leastRaise_39 : decode cX2_leastRaise 39 = .ok (.iload_n 3, 1) := by decide +kernel
theorem dX2_leastRaise_40 : decode cX2_leastRaise 40 = .ok (.iadd, 1) := by decide +kernel
theorem dX2_leastRaise_41 : decode cX2_leastRaise 41 = .ok (.iconst 2, 1) := by decide +kernel
theorem dX2_leastRaise_42 : decode cX2_leastRaise 42 = .ok (.idiv, 1) := by decide +kernel
theorem dX2_leastRaise_43 : decode cX2_leastRaise 43 = .ok (.istore 5, 2) := by decide +kernel
theorem dX2_leastRaise_45 : decode cX2_leastRaise 45 = .ok (.aload_n 0, 1) := by decide +kernel
theorem dX2_leastRaise_46 : decode cX2_leastRaise 46 = .ok (.iload_n 1, 1) := by decide +kernel
theorem dX2_leastRaise_47 : decode cX2_leastRaise 47 = .ok (.iload 5, 2) := by decide +kernel
theorem dX2_leastRaise_49 : decode cX2_leastRaise 49 = .ok (.invokevirtual 139, 3) := by decide +kernel
theorem dX2_leastRaise_52 : decode cX2_leastRaise 52 = .ok (.sipush 200, 3) := by decide +kernel
theorem dX2_leastRaise_55 : decode cX2_leastRaise 55 = .ok (.if_icmp .ge 9, 3) := by decide +kernel
theorem dX2_leastRaise_58 : decode cX2_leastRaise 58 = .ok (.iload 5, 2) := by decide +kernel
theorem dX2_leastRaise_60 : decode cX2_leastRaise 60 = .ok (.istore_n 3, 1) := by decide +kernel
theorem dX2_leastRaise_61 : decode cX2_leastRaise 61 = .ok (.goto 8, 3) := by decide +kernel
theorem dX2_leastRaise_64 : decode cX2_leastRaise 64 = .ok (.iload 5, 2) := by decide +kernel
theorem dX2_leastRaise_66 : decode cX2_leastRaise 66 = .ok (.iconst 1, 1) := by decide +kernel
theorem dX2_leastRaise_67 : decode cX2_leastRaise 67 = .ok (.iadd, 1) := by decide +kernel
theorem dX2_leastRaise_68 : decode cX2_leastRaise 68 = .ok (.istore_n 2, 1) := by decide +kernel
theorem dX2_leastRaise_69 : decode cX2_leastRaise 69 = .ok (.iinc 4 1, 3) := by decide +kernel
theorem dX2_leastRaise_72 : decode cX2_leastRaise 72 = .ok (.goto (-47), 3) := by decide +kernel
theorem dX2_leastRaise_75 : decode cX2_leastRaise 75 = .ok (.iload_n 2, 1) := by decide +kernel
theorem dX2_leastRaise_76 : decode cX2_leastRaise 76 = .ok (.ireturn, 1) := by decide +kernel
theorem dX3_init_0 : decode cX3_init 0 = .ok (.aload_n 0, 1) := by decide +kernel
theorem dX3_init_1 : decode cX3_init 1 = .ok (.invokespecial 3, 3) := by decide +kernel
theorem dX3_init_4 : decode cX3_init 4 = .ok (.aload_n 0, 1) := by decide +kernel
theorem dX3_init_5 : decode cX3_init 5 = .ok (.iconst 4, 1) := by decide +kernel
theorem dX3_init_6 : decode cX3_init 6 = .ok (.newarray .int, 2) := by decide +kernel
theorem dX3_init_8 : decode cX3_init 8 = .ok (.putfield 9, 3) := by decide +kernel
theorem dX3_init_11 : decode cX3_init 11 = .ok (.aload_n 0, 1) := by decide +kernel
theorem dX3_init_12 : decode cX3_init 12 = .ok (.iconst 4, 1) := by decide +kernel
theorem dX3_init_13 : decode cX3_init 13 = .ok (.newarray .int, 2) := by decide +kernel
theorem dX3_init_15 : decode cX3_init 15 = .ok (.putfield 15, 3) := by decide +kernel
theorem dX3_init_18 : decode cX3_init 18 = .ok (.aload_n 0, 1) := by decide +kernel
theorem dX3_init_19 : decode cX3_init 19 = .ok (.iconst 4, 1) := by decide +kernel
theorem dX3_init_20 : decode cX3_init 20 = .ok (.newarray .int, 2) := by decide +kernel
theorem dX3_init_22 : decode cX3_init 22 = .ok (.putfield 18, 3) := by decide +kernel
theorem dX3_init_25 : decode cX3_init 25 = .ok (.aload_n 0, 1) := by decide +kernel
theorem dX3_init_26 : decode cX3_init 26 = .ok (.iconst 4, 1) := by decide +kernel
theorem dX3_init_27 : decode cX3_init 27 = .ok (.newarray .int, 2) := by decide +kernel
theorem dX3_init_29 : decode cX3_init 29 = .ok (.putfield 21, 3) := by decide +kernel
theorem dX3_init_32 : decode cX3_init 32 = .ok (.aload_n 0, 1) := by decide +kernel
theorem dX3_init_33 : decode cX3_init 33 = .ok (.iconst 4, 1) := by decide +kernel
theorem dX3_init_34 : decode cX3_init 34 = .ok (.newarray .boolean, 2) := by decide +kernel
theorem dX3_init_36 : decode cX3_init 36 = .ok (.putfield 24, 3) := by decide +kernel
theorem dX3_init_39 : decode cX3_init 39 = .ok (.aload_n 0, 1) := by decide +kernel
theorem dX3_init_40 : decode cX3_init 40 = .ok (.iconst 4, 1) := by decide +kernel
theorem dX3_init_41 : decode cX3_init 41 = .ok (.newarray .int, 2) := by decide +kernel
theorem dX3_init_43 : decode cX3_init 43 = .ok (.putfield 28, 3) := by decide +kernel
theorem dX3_init_46 : decode cX3_init 46 = .ok (.aload_n 0, 1) := by decide +kernel
theorem dX3_init_47 : decode cX3_init 47 = .ok (.bipush 12, 2) := by decide +kernel
theorem dX3_init_49 : decode cX3_init 49 = .ok (.newarray .int, 2) := by decide +kernel
theorem dX3_init_51 : decode cX3_init 51 = .ok (.putfield 31, 3) := by decide +kernel
theorem dX3_init_54 : decode cX3_init 54 = .ok (.aload_n 0, 1) := by decide +kernel
theorem dX3_init_55 : decode cX3_init 55 = .ok (.bipush 12, 2) := by decide +kernel
theorem dX3_init_57 : decode cX3_init 57 = .ok (.newarray .long, 2) := by decide +kernel
theorem dX3_init_59 : decode cX3_init 59 = .ok (.putfield 34, 3) := by decide +kernel
theorem dX3_init_62 : decode cX3_init 62 = .ok (.aload_n 0, 1) := by decide +kernel
theorem dX3_init_63 : decode cX3_init 63 = .ok (.aload_n 1, 1) := by decide +kernel
theorem dX3_init_64 : decode cX3_init 64 = .ok (.putfield 38, 3) := by decide +kernel
theorem dX3_init_67 : decode cX3_init 67 = .ok (.return_, 1) := by decide +kernel
theorem dX3_assess_0 : decode cX3_assess 0 = .ok (.aload_n 0, 1) := by decide +kernel
theorem dX3_assess_1 : decode cX3_assess 1 = .ok (.aload_n 1, 1) := by decide +kernel
theorem dX3_assess_2 : decode cX3_assess 2 = .ok (.invokevirtual 42, 3) := by decide +kernel
theorem dX3_assess_5 : decode cX3_assess 5 = .ok (.iconst 0, 1) := by decide +kernel
theorem dX3_assess_6 : decode cX3_assess 6 = .ok (.istore_n 2, 1) := by decide +kernel
theorem dX3_assess_7 : decode cX3_assess 7 = .ok (.iconst 0, 1) := by decide +kernel
theorem dX3_assess_8 : decode cX3_assess 8 = .ok (.istore_n 3, 1) := by decide +kernel
theorem dX3_assess_9 : decode cX3_assess 9 = .ok (.iload_n 3, 1) := by decide +kernel
theorem dX3_assess_10 : decode cX3_assess 10 = .ok (.aload_n 1, 1) := by decide +kernel
theorem dX3_assess_11 : decode cX3_assess 11 = .ok (.getfield 46, 3) := by decide +kernel
theorem dX3_assess_14 : decode cX3_assess 14 = .ok (.getfield 52, 3) := by decide +kernel
theorem dX3_assess_17 : decode cX3_assess 17 = .ok (.if_icmp .ge 44, 3) := by decide +kernel
theorem dX3_assess_20 : decode cX3_assess 20 = .ok (.aload_n 0, 1) := by decide +kernel
theorem dX3_assess_21 : decode cX3_assess 21 = .ok (.getfield 9, 3) := by decide +kernel
theorem dX3_assess_24 : decode cX3_assess 24 = .ok (.iload_n 3, 1) := by decide +kernel
theorem dX3_assess_25 : decode cX3_assess 25 = .ok (.aload_n 0, 1) := by decide +kernel
theorem dX3_assess_26 : decode cX3_assess 26 = .ok (.getfield 38, 3) := by decide +kernel
theorem dX3_assess_29 : decode cX3_assess 29 = .ok (.aload_n 1, 1) := by decide +kernel
theorem dX3_assess_30 : decode cX3_assess 30 = .ok (.iload_n 3, 1) := by decide +kernel
theorem dX3_assess_31 : decode cX3_assess 31 = .ok (.invokevirtual 58, 3) := by decide +kernel
theorem dX3_assess_34 : decode cX3_assess 34 = .ok (.iastore, 1) := by decide +kernel
theorem dX3_assess_35 : decode cX3_assess 35 = .ok (.aload_n 1, 1) := by decide +kernel
theorem dX3_assess_36 : decode cX3_assess 36 = .ok (.getfield 64, 3) := by decide +kernel
theorem dX3_assess_39 : decode cX3_assess 39 = .ok (.iload_n 3, 1) := by decide +kernel
theorem dX3_assess_40 : decode cX3_assess 40 = .ok (.baload, 1) := by decide +kernel
theorem dX3_assess_41 : decode cX3_assess 41 = .ok (.ifCond .ne 14, 3) := by decide +kernel
theorem dX3_assess_44 : decode cX3_assess 44 = .ok (.iload_n 2, 1) := by decide +kernel
theorem dX3_assess_45 : decode cX3_assess 45 = .ok (.aload_n 0, 1) := by decide +kernel
theorem dX3_assess_46 : decode cX3_assess 46 = .ok (.getfield 9, 3) := by decide +kernel
theorem dX3_assess_49 : decode cX3_assess 49 = .ok (.iload_n 3, 1) := by decide +kernel
theorem dX3_assess_50 : decode cX3_assess 50 = .ok (.iaload, 1) := by decide +kernel
theorem dX3_assess_51 : decode cX3_assess 51 = .ok (.invokestatic 67, 3) := by decide +kernel
theorem dX3_assess_54 : decode cX3_assess 54 = .ok (.istore_n 2, 1) := by decide +kernel
theorem dX3_assess_55 : decode cX3_assess 55 = .ok (.iinc 3 1, 3) := by decide +kernel
theorem dX3_assess_58 : decode cX3_assess 58 = .ok (.goto (-49), 3) := by decide +kernel
theorem dX3_assess_61 : decode cX3_assess 61 = .ok (.iconst 0, 1) := by decide +kernel
theorem dX3_assess_62 : decode cX3_assess 62 = .ok (.istore_n 3, 1) := by decide +kernel
theorem dX3_assess_63 : decode cX3_assess 63 = .ok (.iload_n 3, 1) := by decide +kernel
theorem dX3_assess_64 : decode cX3_assess 64 = .ok (.aload_n 1, 1) := by decide +kernel
theorem dX3_assess_65 : decode cX3_assess 65 = .ok (.getfield 46, 3) := by decide +kernel
theorem dX3_assess_68 : decode cX3_assess 68 = .ok (.getfield 52, 3) := by decide +kernel
theorem dX3_assess_71 : decode cX3_assess 71 = .ok (.if_icmp .ge 153, 3) := by decide +kernel
theorem dX3_assess_74 : decode cX3_assess 74 = .ok (.aload_n 1, 1) := by decide +kernel
theorem dX3_assess_75 : decode cX3_assess 75 = .ok (.getfield 64, 3) := by decide +kernel
theorem dX3_assess_78 : decode cX3_assess 78 = .ok (.iload_n 3, 1) := by decide +kernel
theorem dX3_assess_79 : decode cX3_assess 79 = .ok (.baload, 1) := by decide +kernel
theorem dX3_assess_80 : decode cX3_assess 80 = .ok (.ifCond .eq 10, 3) := by decide +kernel
theorem dX3_assess_83 : decode cX3_assess 83 = .ok (.aload_n 0, 1) := by decide +kernel
theorem dX3_assess_84 : decode cX3_assess 84 = .ok (.getfield 9, 3) := by decide +kernel
theorem dX3_assess_87 : decode cX3_assess 87 = .ok (.iload_n 3, 1) := by decide +kernel
theorem dX3_assess_88 : decode cX3_assess 88 = .ok (.iload_n 2, 1) := by decide +kernel
theorem dX3_assess_89 : decode cX3_assess 89 = .ok (.iastore, 1) := by decide +kernel
theorem dX3_assess_90 : decode cX3_assess 90 = .ok (.aload_n 0, 1) := by decide +kernel
theorem dX3_assess_91 : decode cX3_assess 91 = .ok (.getfield 24, 3) := by decide +kernel
theorem dX3_assess_94 : decode cX3_assess 94 = .ok (.iload_n 3, 1) := by decide +kernel
theorem dX3_assess_95 : decode cX3_assess 95 = .ok (.baload, 1) := by decide +kernel
theorem dX3_assess_96 : decode cX3_assess 96 = .ok (.ifCond .ne 24, 3) := by decide +kernel
theorem dX3_assess_99 : decode cX3_assess 99 = .ok (.aload_n 0, 1) := by decide +kernel
theorem dX3_assess_100 : decode cX3_assess 100 = .ok (.getfield 28, 3) := by decide +kernel
theorem dX3_assess_103 : decode cX3_assess 103 = .ok (.iload_n 3, 1) := by decide +kernel
theorem dX3_assess_104 : decode cX3_assess 104 = .ok (.iaload, 1) := by decide +kernel
theorem dX3_assess_105 : decode cX3_assess 105 = .ok (.ifCond .eq 15, 3) := by decide +kernel
theorem dX3_assess_108 : decode cX3_assess 108 = .ok (.aload_n 0, 1) := by decide +kernel
theorem dX3_assess_109 : decode cX3_assess 109 = .ok (.getfield 9, 3) := by decide +kernel
theorem dX3_assess_112 : decode cX3_assess 112 = .ok (.iload_n 3, 1) := by decide +kernel
theorem dX3_assess_113 : decode cX3_assess 113 = .ok (.iaload, 1) := by decide +kernel
theorem dX3_assess_114 : decode cX3_assess 114 = .ok (.sipush 200, 3) := by decide +kernel
theorem dX3_assess_117 : decode cX3_assess 117 = .ok (.if_icmp .ge 7, 3) := by decide +kernel
theorem dX3_assess_120 : decode cX3_assess 120 = .ok (.iconst 1, 1) := by decide +kernel
theorem dX3_assess_121 : decode cX3_assess 121 = .ok (.goto 4, 3) := by decide +kernel
theorem dX3_assess_124 : decode cX3_assess 124 = .ok (.iconst 0, 1) := by decide +kernel
theorem dX3_assess_125 : decode cX3_assess 125 = .ok (.istore 4, 2) := by decide +kernel
theorem dX3_assess_127 : decode cX3_assess 127 = .ok (.aload_n 0, 1) := by decide +kernel
theorem dX3_assess_128 : decode cX3_assess 128 = .ok (.getfield 15, 3) := by decide +kernel
theorem dX3_assess_131 : decode cX3_assess 131 = .ok (.iload_n 3, 1) := by decide +kernel
theorem dX3_assess_132 : decode cX3_assess 132 = .ok (.iload 4, 2) := by decide +kernel
theorem dX3_assess_134 : decode cX3_assess 134 = .ok (.ifCond .eq 7, 3) := by decide +kernel
theorem dX3_assess_137 : decode cX3_assess 137 = .ok (.iconst 0, 1) := by decide +kernel
theorem dX3_assess_138 : decode cX3_assess 138 = .ok (.goto 9, 3) := by decide +kernel
theorem dX3_assess_141 : decode cX3_assess 141 = .ok (.aload_n 0, 1) := by decide +kernel
theorem dX3_assess_142 : decode cX3_assess 142 = .ok (.getfield 9, 3) := by decide +kernel
theorem dX3_assess_145 : decode cX3_assess 145 = .ok (.iload_n 3, 1) := by decide +kernel
theorem dX3_assess_146 : decode cX3_assess 146 = .ok (.iaload, 1) := by decide +kernel
theorem dX3_assess_147 : decode cX3_assess 147 = .ok (.iastore, 1) := by decide +kernel
theorem dX3_assess_148 : decode cX3_assess 148 = .ok (.aload_n 0, 1) := by decide +kernel
theorem dX3_assess_149 : decode cX3_assess 149 = .ok (.getfield 18, 3) := by decide +kernel
theorem dX3_assess_152 : decode cX3_assess 152 = .ok (.iload_n 3, 1) := by decide +kernel
theorem dX3_assess_153 : decode cX3_assess 153 = .ok (.aload_n 0, 1) := by decide +kernel
theorem dX3_assess_154 : decode cX3_assess 154 = .ok (.aload_n 1, 1) := by decide +kernel
theorem dX3_assess_155 : decode cX3_assess 155 = .ok (.iload_n 3, 1) := by decide +kernel
theorem dX3_assess_156 : decode cX3_assess 156 = .ok (.invokevirtual 73, 3) := by decide +kernel
theorem dX3_assess_159 : decode cX3_assess 159 = .ok (.iastore, 1) := by decide +kernel
theorem dX3_assess_160 : decode cX3_assess 160 = .ok (.aload_n 1, 1) := by decide +kernel
theorem dX3_assess_161 : decode cX3_assess 161 = .ok (.getfield 76, 3) := by decide +kernel
theorem dX3_assess_164 : decode cX3_assess 164 = .ok (.iconst 2, 1) := by decide +kernel
theorem dX3_assess_165 : decode cX3_assess 165 = .ok (.iaload, 1) := by decide +kernel
theorem dX3_assess_166 : decode cX3_assess 166 = .ok (.ifCond .eq 14, 3) := by decide +kernel
theorem dX3_assess_169 : decode cX3_assess 169 = .ok (.aload_n 0, 1) := by decide +kernel
theorem dX3_assess_170 : decode cX3_assess 170 = .ok (.getfield 79, 3) := by decide +kernel
theorem dX3_assess_173 : decode cX3_assess 173 = .ok (.ifCond .le 7, 3) := by decide +kernel
theorem dX3_assess_176 : decode cX3_assess 176 = .ok (.iconst 1, 1) := by decide +kernel
theorem dX3_assess_177 : decode cX3_assess 177 = .ok (.goto 4, 3) := by decide +kernel
theorem dX3_assess_180 : decode cX3_assess 180 = .ok (.iconst 0, 1) := by decide +kernel
theorem dX3_assess_181 : decode cX3_assess 181 = .ok (.istore 5, 2) := by decide +kernel
theorem dX3_assess_183 : decode cX3_assess 183 = .ok (.aload_n 0, 1) := by decide +kernel
theorem dX3_assess_184 : decode cX3_assess 184 = .ok (.getfield 21, 3) := by decide +kernel
theorem dX3_assess_187 : decode cX3_assess 187 = .ok (.iload_n 3, 1) := by decide +kernel
theorem dX3_assess_188 : decode cX3_assess 188 = .ok (.iload 5, 2) := by decide +kernel
theorem dX3_assess_190 : decode cX3_assess 190 = .ok (.ifCond .eq 21, 3) := by decide +kernel
theorem dX3_assess_193 : decode cX3_assess 193 = .ok (.aload_n 0, 1) := by decide +kernel
theorem dX3_assess_194 : decode cX3_assess 194 = .ok (.getfield 15, 3) := by decide +kernel
theorem dX3_assess_197 : decode cX3_assess 197 = .ok (.iload_n 3, 1) := by decide +kernel
theorem dX3_assess_198 : decode cX3_assess 198 = .ok (.iaload, 1) := by decide +kernel
theorem dX3_assess_199 : decode cX3_assess 199 = .ok (.aload_n 0, 1) := by decide +kernel
theorem dX3_assess_200 : decode cX3_assess 200 = .ok (.getfield 18, 3) := by decide +kernel
theorem dX3_assess_203 : decode cX3_assess 203 = .ok (.iload_n 3, 1) := by decide +kernel
theorem dX3_assess_204 : decode cX3_assess 204 = .ok (.iaload, 1) := by decide +kernel
theorem dX3_assess_205 : decode cX3_assess 205 = .ok (.invokestatic 82, 3) := by decide +kernel
theorem dX3_assess_208 : decode cX3_assess 208 = .ok (.goto 9, 3) := by decide +kernel
theorem dX3_assess_211 : decode cX3_assess 211 = .ok (.aload_n 0, 1) := by decide +kernel
theorem dX3_assess_212 : decode cX3_assess 212 = .ok (.getfield 15, 3) := by decide +kernel
theorem dX3_assess_215 : decode cX3_assess 215 = .ok (.iload_n 3, 1) := by decide +kernel
theorem dX3_assess_216 : decode cX3_assess 216 = .ok (.iaload, 1) := by decide +kernel
theorem dX3_assess_217 : decode cX3_assess 217 = .ok (.iastore, 1) := by decide +kernel
theorem dX3_assess_218 : decode cX3_assess 218 = .ok (.iinc 3 1, 3) := by decide +kernel
theorem dX3_assess_221 : decode cX3_assess 221 = .ok (.goto (-158), 3) := by decide +kernel
theorem dX3_assess_224 : decode cX3_assess 224 = .ok (.return_, 1) := by decide +kernel
theorem dX3_marginTold_0 : decode cX3_marginTold 0 = .ok (.aload_n 1, 1) := by decide +kernel
theorem dX3_marginTold_1 : decode cX3_marginTold 1 = .ok (.getfield 64, 3) := by decide +kernel
theorem dX3_marginTold_4 : decode cX3_marginTold 4 = .ok (.iload_n 2, 1) := by decide +kernel
theorem dX3_marginTold_5 : decode cX3_marginTold 5 = .ok (.baload, 1) := by decide +kernel
theorem dX3_marginTold_6 : decode cX3_marginTold 6 = .ok (.ifCond .ne 16, 3) := by decide +kernel
theorem dX3_marginTold_9 : decode cX3_marginTold 9 = .ok (.aload_n 0, 1) := by decide +kernel
theorem dX3_marginTold_10 : decode cX3_marginTold 10 = .ok (.getfield 38, 3) := by decide +kernel
theorem dX3_marginTold_13 : decode cX3_marginTold 13 = .ok (.aload_n 1, 1) := by decide +kernel
theorem dX3_marginTold_14 : decode cX3_marginTold 14 = .ok (.iload_n 2, 1) := by decide +kernel
theorem dX3_marginTold_15 : decode cX3_marginTold 15 = .ok (.iload_n 3, 1) := by decide +kernel
theorem dX3_marginTold_16 : decode cX3_marginTold 16 = .ok (.iload 4, 2) := by decide +kernel
theorem dX3_marginTold_18 : decode cX3_marginTold 18 = .ok (.invokevirtual 85, 3) := by decide +kernel
theorem dX3_marginTold_21 : decode cX3_marginTold 21 = .ok (.ireturn, 1) := by decide +kernel
theorem dX3_marginTold_22 : decode cX3_marginTold 22 = .ok (.iconst 0, 1) := by decide +kernel
theorem dX3_marginTold_23 : decode cX3_marginTold 23 = .ok (.istore 5, 2) := by decide +kernel
theorem dX3_marginTold_25 : decode cX3_marginTold 25 = .ok (.iconst 0, 1) := by decide +kernel
theorem dX3_marginTold_26 : decode cX3_marginTold 26 = .ok (.istore 6, 2) := by decide +kernel
theorem dX3_marginTold_28 : decode cX3_marginTold 28 = .ok (.iload 6, 2) := by decide +kernel
theorem dX3_marginTold_30 : decode cX3_marginTold 30 = .ok (.aload_n 1, 1) := by decide +kernel
theorem dX3_marginTold_31 : decode cX3_marginTold 31 = .ok (.getfield 46, 3) := by decide +kernel
theorem dX3_marginTold_34 : decode cX3_marginTold 34 = .ok (.getfield 52, 3) := by decide +kernel
theorem dX3_marginTold_37 : decode cX3_marginTold 37 = .ok (.if_icmp .ge 39, 3) := by decide +kernel
theorem dX3_marginTold_40 : decode cX3_marginTold 40 = .ok (.aload_n 1, 1) := by decide +kernel
theorem dX3_marginTold_41 : decode cX3_marginTold 41 = .ok (.getfield 64, 3) := by decide +kernel
theorem dX3_marginTold_44 : decode cX3_marginTold 44 = .ok (.iload 6, 2) := by decide +kernel
theorem dX3_marginTold_46 : decode cX3_marginTold 46 = .ok (.baload, 1) := by decide +kernel
theorem dX3_marginTold_47 : decode cX3_marginTold 47 = .ok (.ifCond .ne 23, 3) := by decide +kernel
theorem dX3_marginTold_50 : decode cX3_marginTold 50 = .ok (.iload 5, 2) := by decide +kernel
theorem dX3_marginTold_52 : decode cX3_marginTold 52 = .ok (.aload_n 0, 1) := by decide +kernel
theorem dX3_marginTold_53 : decode cX3_marginTold 53 = .ok (.getfield 38, 3) := by decide +kernel
theorem dX3_marginTold_56 : decode cX3_marginTold 56 = .ok (.aload_n 1, 1) := by decide +kernel
theorem dX3_marginTold_57 : decode cX3_marginTold 57 = .ok (.iload 6, 2) := by decide +kernel
theorem dX3_marginTold_59 : decode cX3_marginTold 59 = .ok (.iload_n 3, 1) := by decide +kernel
theorem dX3_marginTold_60 : decode cX3_marginTold 60 = .ok (.iload 4, 2) := by decide +kernel
theorem dX3_marginTold_62 : decode cX3_marginTold 62 = .ok (.invokevirtual 85, 3) := by decide +kernel
theorem dX3_marginTold_65 : decode cX3_marginTold 65 = .ok (.invokestatic 67, 3) := by decide +kernel
theorem dX3_marginTold_68 : decode cX3_marginTold 68 = .ok (.istore 5, 2) := by decide +kernel
theorem dX3_marginTold_70 : decode cX3_marginTold 70 = .ok (.iinc 6 1, 3) := by decide +kernel
theorem dX3_marginTold_73 : decode cX3_marginTold 73 = .ok (.goto (-45), 3) := by decide +kernel
theorem dX3_marginTold_76 : decode cX3_marginTold 76 = .ok (.iload 5, 2) := by decide +kernel
theorem dX3_marginTold_78 : decode cX3_marginTold 78 = .ok (.ireturn, 1) := by decide +kernel
theorem dX3_markNegligible_0 : decode cX3_markNegligible 0 = .ok (.iconst 0, 1) := by decide +kernel
theorem dX3_markNegligible_1 : decode cX3_markNegligible 1 = .ok (.istore_n 2, 1) := by decide +kernel
theorem dX3_markNegligible_2 : decode cX3_markNegligible 2 = .ok (.iconst 0, 1) := by decide +kernel
theorem dX3_markNegligible_3 : decode cX3_markNegligible 3 = .ok (.istore_n 3, 1) := by decide +kernel
theorem dX3_markNegligible_4 : decode cX3_markNegligible 4 = .ok (.iload_n 3, 1) := by decide +kernel
theorem dX3_markNegligible_5 : decode cX3_markNegligible 5 = .ok (.aload_n 1, 1) := by decide +kernel
theorem dX3_markNegligible_6 : decode cX3_markNegligible 6 = .ok (.getfield 46, 3) := by decide +kernel
theorem dX3_markNegligible_9 : decode cX3_markNegligible 9 = .ok (.getfield 52, 3) := by decide +kernel
theorem dX3_markNegligible_12 : decode cX3_markNegligible 12 = .ok (.if_icmp .ge 32, 3) := by decide +kernel
theorem dX3_markNegligible_15 : decode cX3_markNegligible 15 = .ok (.aload_n 0, 1) := by decide +kernel
theorem dX3_markNegligible_16 : decode cX3_markNegligible 16 = .ok (.getfield 28, 3) := by decide +kernel
theorem dX3_markNegligible_19 : decode cX3_markNegligible 19 = .ok (.iload_n 3, 1) := by decide +kernel
theorem dX3_markNegligible_20 : decode cX3_markNegligible 20 = .ok (.aload_n 1, 1) := by decide +kernel
theorem dX3_markNegligible_21 : decode cX3_markNegligible 21 = .ok (.getfield 89, 3) := by decide +kernel
theorem dX3_markNegligible_24 : decode cX3_markNegligible 24 = .ok (.iload_n 3, 1) := by decide +kernel
theorem dX3_markNegligible_25 : decode cX3_markNegligible 25 = .ok (.invokevirtual 93, 3) := by decide +kernel
theorem dX3_markNegligible_28 : decode cX3_markNegligible 28 = .ok (.iastore, 1) := by decide +kernel
theorem dX3_markNegligible_29 : decode cX3_markNegligible 29 = .ok (.iload_n 2, 1) := by decide +kernel
theorem dX3_markNegligible_30 : decode cX3_markNegligible 30 = .ok (.aload_n 0, 1) := by decide +kernel
theorem dX3_markNegligible_31 : decode cX3_markNegligible 31 = .ok (.getfield 28, 3) := by decide +kernel
theorem dX3_markNegligible_34 : decode cX3_markNegligible 34 = .ok (.iload_n 3, 1) := by decide +kernel
theorem dX3_markNegligible_35 : decode cX3_markNegligible 35 = .ok (.iaload, 1) := by decide +kernel
theorem dX3_markNegligible_36 : decode cX3_markNegligible 36 = .ok (.iadd, 1) := by decide +kernel
theorem dX3_markNegligible_37 : decode cX3_markNegligible 37 = .ok (.istore_n 2, 1) := by decide +kernel
theorem dX3_markNegligible_38 : decode cX3_markNegligible 38 = .ok (.iinc 3 1, 3) := by decide +kernel
theorem dX3_markNegligible_41 : decode cX3_markNegligible 41 = .ok (.goto (-37), 3) := by decide +kernel
theorem dX3_markNegligible_44 : decode cX3_markNegligible 44 = .ok (.iconst 0, 1) := by decide +kernel
theorem dX3_markNegligible_45 : decode cX3_markNegligible 45 = .ok (.istore_n 3, 1) := by decide +kernel
theorem dX3_markNegligible_46 : decode cX3_markNegligible 46 = .ok (.iconst 0, 1) := by decide +kernel
theorem dX3_markNegligible_47 : decode cX3_markNegligible 47 = .ok (.istore 4, 2) := by decide +kernel
theorem dX3_markNegligible_49 : decode cX3_markNegligible 49 = .ok (.iload 4, 2) := by decide +kernel
theorem dX3_markNegligible_51 : decode cX3_markNegligible 51 = .ok (.aload_n 1, 1) := by decide +kernel
theorem dX3_markNegligible_52 : decode cX3_markNegligible 52 = .ok (.getfield 46, 3) := by decide +kernel
theorem dX3_markNegligible_55 : decode cX3_markNegligible 55 = .ok (.getfield 52, 3) := by decide +kernel
theorem dX3_markNegligible_58 : decode cX3_markNegligible 58 = .ok (.if_icmp .ge 71, 3) := by decide +kernel
theorem dX3_markNegligible_61 : decode cX3_markNegligible 61 = .ok (.aload_n 0, 1) := by decide +kernel
theorem dX3_markNegligible_62 : decode cX3_markNegligible 62 = .ok (.getfield 24, 3) := by decide +kernel
theorem dX3_markNegligible_65 : decode cX3_markNegligible 65 = .ok (.iload 4, 2) := by decide +kernel
theorem dX3_markNegligible_67 : decode cX3_markNegligible 67 = .ok (.aload_n 0, 1) := by decide +kernel
theorem dX3_markNegligible_68 : decode cX3_markNegligible 68 = .ok (.getfield 28, 3) := by decide +kernel
theorem dX3_markNegligible_71 : decode cX3_markNegligible 71 = .ok (.iload 4, 2) := by decide +kernel
theorem dX3_markNegligible_73 : decode cX3_markNegligible 73 = .ok (.iaload, 1) := by decide +kernel
theorem dX3_markNegligible_74 : decode cX3_markNegligible 74 = .ok (.ifCond .le 23, 3) := by decide +kernel
theorem dX3_markNegligible_77 : decode cX3_markNegligible 77 = .ok (.bipush 100, 2) := by decide +kernel
theorem dX3_markNegligible_79 : decode cX3_markNegligible 79 = .ok (.aload_n 0, 1) := by decide +kernel
theorem dX3_markNegligible_80 : decode cX3_markNegligible 80 = .ok (.getfield 28, 3) := by decide +kernel
theorem dX3_markNegligible_83 : decode cX3_markNegligible 83 = .ok (.iload 4, 2) := by decide +kernel
theorem dX3_markNegligible_85 : decode cX3_markNegligible 85 = .ok (.iaload, 1) := by decide +kernel
theorem dX3_markNegligible_86 : decode cX3_markNegligible 86 = .ok (.imul, 1) := by decide +kernel
theorem dX3_markNegligible_87 : decode cX3_markNegligible 87 = .ok (.iconst 3, 1) := by decide +kernel
theorem dX3_markNegligible_88 : decode cX3_markNegligible 88 = .ok (.iload_n 2, 1) := by decide +kernel
theorem dX3_markNegligible_89 : decode cX3_markNegligible 89 = .ok (.imul, 1) := by decide +kernel
theorem dX3_markNegligible_90 : decode cX3_markNegligible 90 = .ok (.if_icmp .ge 7, 3) := by decide +kernel
theorem dX3_markNegligible_93 : decode cX3_markNegligible 93 = .ok (.iconst 1, 1) := by decide +kernel
theorem dX3_markNegligible_94 : decode cX3_markNegligible 94 = .ok (.goto 4, 3) := by decide +kernel
theorem dX3_markNegligible_97 : decode cX3_markNegligible 97 = .ok (.iconst 0, 1) := by decide +kernel
theorem dX3_markNegligible_98 : decode cX3_markNegligible 98 = .ok (.bastore, 1) := by decide +kernel
theorem dX3_markNegligible_99 : decode cX3_markNegligible 99 = .ok (.iload_n 3, 1) := by decide +kernel
theorem dX3_markNegligible_100 : decode cX3_markNegligible 100 = .ok (.aload_n 0, 1) := by decide +kernel
theorem dX3_markNegligible_101 : decode cX3_markNegligible 101 = .ok (.getfield 24, 3) := by decide +kernel
theorem dX3_markNegligible_104 : decode cX3_markNegligible 104 = .ok (.iload 4, 2) := by decide +kernel
theorem dX3_markNegligible_106 : decode cX3_markNegligible 106 = .ok (.baload, 1) := by decide +kernel
theorem dX3_markNegligible_107 : decode cX3_markNegligible 107 = .ok (.ifCond .eq 13, 3) := by decide +kernel
theorem dX3_markNegligible_110 : decode cX3_markNegligible 110 = .ok (.aload_n 0, 1) := by decide +kernel
theorem dX3_markNegligible_111 : decode cX3_markNegligible 111 = .ok (.getfield 28, 3) := by decide +kernel
theorem dX3_markNegligible_114 : decode cX3_markNegligible 114 = .ok (.iload 4, 2) := by decide +kernel
theorem dX3_markNegligible_116 : decode cX3_markNegligible 116 = .ok (.iaload, 1) := by decide +kernel
theorem dX3_markNegligible_117 : decode cX3_markNegligible 117 = .ok (.goto 4, 3) := by decide +kernel
theorem dX3_markNegligible_120 : decode cX3_markNegligible 120 = .ok (.iconst 0, 1) := by decide +kernel
theorem dX3_markNegligible_121 : decode cX3_markNegligible 121 = .ok (.iadd, 1) := by decide +kernel
theorem dX3_markNegligible_122 : decode cX3_markNegligible 122 = .ok (.istore_n 3, 1) := by decide +kernel
theorem dX3_markNegligible_123 : decode cX3_markNegligible 123 = .ok (.iinc 4 1, 3) := by decide +kernel
theorem dX3_markNegligible_126 : decode cX3_markNegligible 126 = .ok (.goto (-77), 3) := by decide +kernel
theorem dX3_markNegligible_129 : decode cX3_markNegligible 129 = .ok (.bipush 100, 2) := by decide +kernel
theorem dX3_markNegligible_131 : decode cX3_markNegligible 131 = .ok (.iload_n 3, 1) := by decide +kernel
theorem dX3_markNegligible_132 : decode cX3_markNegligible 132 = .ok (.imul, 1) := by decide +kernel
theorem dX3_markNegligible_133 : decode cX3_markNegligible 133 = .ok (.bipush 7, 2) := by decide +kernel
theorem dX3_markNegligible_135 : decode cX3_markNegligible 135 = .ok (.iload_n 2, 1) := by decide +kernel
theorem dX3_markNegligible_136 : decode cX3_markNegligible 136 = .ok (.imul, 1) := by decide +kernel
theorem dX3_markNegligible_137 : decode cX3_markNegligible 137 = .ok (.if_icmp .le 32, 3) := by decide +kernel
theorem dX3_markNegligible_140 : decode cX3_markNegligible 140 = .ok (.iconst 0, 1) := by decide +kernel
theorem dX3_markNegligible_141 : decode cX3_markNegligible 141 = .ok (.istore 4, 2) := by decide +kernel
theorem dX3_markNegligible_143 : decode cX3_markNegligible 143 = .ok (.iload 4, 2) := by decide +kernel
theorem dX3_markNegligible_145 : decode cX3_markNegligible 145 = .ok (.aload_n 1, 1) := by decide +kernel
theorem dX3_markNegligible_146 : decode cX3_markNegligible 146 = .ok (.getfield 46, 3) := by decide +kernel
theorem dX3_markNegligible_149 : decode cX3_markNegligible 149 = .ok (.getfield 52, 3) := by decide +kernel
theorem dX3_markNegligible_152 : decode cX3_markNegligible 152 = .ok (.if_icmp .ge 17, 3) := by decide +kernel
theorem dX3_markNegligible_155 : decode cX3_markNegligible 155 = .ok (.aload_n 0, 1) := by decide +kernel
theorem dX3_markNegligible_156 : decode cX3_markNegligible 156 = .ok (.getfield 24, 3) := by decide +kernel
theorem dX3_markNegligible_159 : decode cX3_markNegligible 159 = .ok (.iload 4, 2) := by decide +kernel
theorem dX3_markNegligible_161 : decode cX3_markNegligible 161 = .ok (.iconst 0, 1) := by decide +kernel
theorem dX3_markNegligible_162 : decode cX3_markNegligible 162 = .ok (.bastore, 1) := by decide +kernel
theorem dX3_markNegligible_163 : decode cX3_markNegligible 163 = .ok (.iinc 4 1, 3) := by decide +kernel
theorem dX3_markNegligible_166 : decode cX3_markNegligible 166 = .ok (.goto (-23), 3) := by decide +kernel
theorem dX3_markNegligible_169 : decode cX3_markNegligible 169 = .ok (.return_, 1) := by decide +kernel
theorem dX3_injuryOf_0 : decode cX3_injuryOf 0 = .ok (.aload_n 1, 1) := by decide +kernel
theorem dX3_injuryOf_1 : decode cX3_injuryOf 1 = .ok (.getfield 89, 3) := by decide +kernel
theorem dX3_injuryOf_4 : decode cX3_injuryOf 4 = .ok (.astore_n 3, 1) := by decide +kernel
theorem dX3_injuryOf_5 : decode cX3_injuryOf 5 = .ok (.lconst 0, 1) := by decide +kernel
theorem dX3_injuryOf_6 : decode cX3_injuryOf 6 = .ok (.lstore 4, 2) := by decide +kernel
theorem dX3_injuryOf_8 : decode cX3_injuryOf 8 = .ok (.lconst 0, 1) := by decide +kernel
theorem dX3_injuryOf_9 : decode cX3_injuryOf 9 = .ok (.lstore 6, 2) := by decide +kernel
theorem dX3_injuryOf_11 : decode cX3_injuryOf 11 = .ok (.aload_n 0, 1) := by decide +kernel
theorem dX3_injuryOf_12 : decode cX3_injuryOf 12 = .ok (.iconst 0, 1) := by decide +kernel
theorem dX3_injuryOf_13 : decode cX3_injuryOf 13 = .ok (.putfield 79, 3) := by decide +kernel
theorem dX3_injuryOf_16 : decode cX3_injuryOf 16 = .ok (.iconst 0, 1) := by decide +kernel
theorem dX3_injuryOf_17 : decode cX3_injuryOf 17 = .ok (.istore 8, 2) := by decide +kernel
theorem dX3_injuryOf_19 : decode cX3_injuryOf 19 = .ok (.iload 8, 2) := by decide +kernel
theorem dX3_injuryOf_21 : decode cX3_injuryOf 21 = .ok (.aload_n 3, 1) := by decide +kernel
theorem dX3_injuryOf_22 : decode cX3_injuryOf 22 = .ok (.getfield 98, 3) := by decide +kernel
theorem dX3_injuryOf_25 : decode cX3_injuryOf 25 = .ok (.if_icmp .ge 95, 3) := by decide +kernel
theorem dX3_injuryOf_28 : decode cX3_injuryOf 28 = .ok (.aload_n 1, 1) := by decide +kernel
theorem dX3_injuryOf_29 : decode cX3_injuryOf 29 = .ok (.getfield 99, 3) := by decide +kernel
theorem dX3_injuryOf_32 : decode cX3_injuryOf 32 = .ok (.aload_n 3, 1) := by decide +kernel
theorem dX3_injuryOf_33 : decode cX3_injuryOf 33 = .ok (.getfield 102, 3) := by decide +kernel
theorem dX3_injuryOf_36 : decode cX3_injuryOf 36 = .ok (.iload 8, 2) := by decide +kernel
theorem dX3_injuryOf_38 : decode cX3_injuryOf 38 = .ok (.iaload, 1) := by decide +kernel
theorem dX3_injuryOf_39 : decode cX3_injuryOf 39 = .ok (.iaload, 1) := by decide +kernel
theorem dX3_injuryOf_40 : decode cX3_injuryOf 40 = .ok (.istore 9, 2) := by decide +kernel
theorem dX3_injuryOf_42 : decode cX3_injuryOf 42 = .ok (.iload 9, 2) := by decide +kernel
theorem dX3_injuryOf_44 : decode cX3_injuryOf 44 = .ok (.ifCond .le 70, 3) := by decide +kernel
theorem dX3_injuryOf_47 : decode cX3_injuryOf 47 = .ok (.aload_n 3, 1) := by decide +kernel
theorem dX3_injuryOf_48 : decode cX3_injuryOf 48 = .ok (.iload 8, 2) := by decide +kernel
theorem dX3_injuryOf_50 : decode cX3_injuryOf 50 = .ok (.iload_n 2, 1) := by decide +kernel
theorem dX3_injuryOf_51 : decode cX3_injuryOf 51 = .ok (.iconst 1, 1) := by decide +kernel
theorem dX3_injuryOf_52 : decode cX3_injuryOf 52 = .ok (.invokevirtual 105, 3) := by decide +kernel
theorem dX3_injuryOf_55 : decode cX3_injuryOf 55 = .ok (.ifCond .eq 59, 3) := by decide +kernel
theorem dX3_injuryOf_58 : decode cX3_injuryOf 58 = .ok (.lload 4, 2) := by decide +kernel
theorem dX3_injuryOf_60 : decode cX3_injuryOf 60 = .ok (.ldc2_w 109, 3) := by decide +kernel
theorem dX3_injuryOf_63 : decode cX3_injuryOf 63 = .ok (.iload 9, 2) := by decide +kernel
theorem dX3_injuryOf_65 : decode cX3_injuryOf 65 = .ok (.aload_n 3, 1) := by decide +kernel
theorem dX3_injuryOf_66 : decode cX3_injuryOf 66 = .ok (.getfield 111, 3) := by decide +kernel
theorem dX3_injuryOf_69 : decode cX3_injuryOf 69 = .ok (.iload 8, 2) := by decide +kernel
theorem dX3_injuryOf_71 : decode cX3_injuryOf 71 = .ok (.iaload, 1) := by decide +kernel
theorem dX3_injuryOf_72 : decode cX3_injuryOf 72 = .ok (.isub, 1) := by decide +kernel
theorem dX3_injuryOf_73 : decode cX3_injuryOf 73 = .ok (.i2l, 1) := by decide +kernel
theorem dX3_injuryOf_74 : decode cX3_injuryOf 74 = .ok (.lmul, 1) := by decide +kernel
theorem dX3_injuryOf_75 : decode cX3_injuryOf 75 = .ok (.aload_n 3, 1) := by decide +kernel
theorem dX3_injuryOf_76 : decode cX3_injuryOf 76 = .ok (.getfield 114, 3) := by decide +kernel
theorem dX3_injuryOf_79 : decode cX3_injuryOf 79 = .ok (.iload 8, 2) := by decide +kernel
theorem dX3_injuryOf_81 : decode cX3_injuryOf 81 = .ok (.iaload, 1) := by decide +kernel
theorem dX3_injuryOf_82 : decode cX3_injuryOf 82 = .ok (.i2l, 1) := by decide +kernel
theorem dX3_injuryOf_83 : decode cX3_injuryOf 83 = .ok (.lmul, 1) := by decide +kernel
theorem dX3_injuryOf_84 : decode cX3_injuryOf 84 = .ok (.ladd, 1) := by decide +kernel
theorem dX3_injuryOf_85 : decode cX3_injuryOf 85 = .ok (.lstore 4, 2) := by decide +kernel
theorem dX3_injuryOf_87 : decode cX3_injuryOf 87 = .ok (.lload 6, 2) := by decide +kernel
theorem dX3_injuryOf_89 : decode cX3_injuryOf 89 = .ok (.aload_n 3, 1) := by decide +kernel
theorem dX3_injuryOf_90 : decode cX3_injuryOf 90 = .ok (.iload 8, 2) := by decide +kernel
theorem dX3_injuryOf_92 : decode cX3_injuryOf 92 = .ok (.invokevirtual 117, 3) := by decide +kernel
theorem dX3_injuryOf_95 : decode cX3_injuryOf 95 = .ok (.ladd, 1) := by decide +kernel
theorem dX3_injuryOf_96 : decode cX3_injuryOf 96 = .ok (.lstore 6, 2) := by decide +kernel
theorem dX3_injuryOf_98 : decode cX3_injuryOf 98 = .ok (.aload_n 0, 1) := by decide +kernel
theorem dX3_injuryOf_99 : decode cX3_injuryOf 99 = .ok (.dup, 1) := by decide +kernel
theorem dX3_injuryOf_100 : decode cX3_injuryOf 100 = .ok (.getfield 79, 3) := by decide +kernel
theorem dX3_injuryOf_103 : decode cX3_injuryOf 103 = .ok (.aload_n 3, 1) := by decide +kernel
theorem dX3_injuryOf_104 : decode cX3_injuryOf 104 = .ok (.getfield 114, 3) := by decide +kernel
theorem dX3_injuryOf_107 : decode cX3_injuryOf 107 = .ok (.iload 8, 2) := by decide +kernel
theorem dX3_injuryOf_109 : decode cX3_injuryOf 109 = .ok (.iaload, 1) := by decide +kernel
theorem dX3_injuryOf_110 : decode cX3_injuryOf 110 = .ok (.iadd, 1) := by decide +kernel
theorem dX3_injuryOf_111 : decode cX3_injuryOf 111 = .ok (.putfield 79, 3) := by decide +kernel
theorem dX3_injuryOf_114 : decode cX3_injuryOf 114 = .ok (.iinc 8 1, 3) := by decide +kernel
theorem dX3_injuryOf_117 : decode cX3_injuryOf 117 = .ok (.goto (-98), 3) := by decide +kernel
theorem dX3_injuryOf_120 : decode cX3_injuryOf 120 = .ok (.lload 4, 2) := by decide +kernel
theorem dX3_injuryOf_122 : decode cX3_injuryOf 122 = .ok (.lload 6, 2) := by decide +kernel
theorem dX3_injuryOf_124 : decode cX3_injuryOf 124 = .ok (.invokestatic 121, 3) := by decide +kernel
theorem dX3_injuryOf_127 : decode cX3_injuryOf 127 = .ok (.ireturn, 1) := by decide +kernel
theorem dX3_rateOfOthers_0 : decode cX3_rateOfOthers 0 = .ok (.lconst 0, 1) := by decide +kernel
theorem dX3_rateOfOthers_1 : decode cX3_rateOfOthers 1 = .ok (.lstore_n 2, 1) := by decide +kernel
theorem dX3_rateOfOthers_2 : decode cX3_rateOfOthers 2 = .ok (.lconst 0, 1) := by decide +kernel
theorem dX3_rateOfOthers_3 : decode cX3_rateOfOthers 3 = .ok (.lstore 4, 2) := by decide +kernel
theorem dX3_rateOfOthers_5 : decode cX3_rateOfOthers 5 = .ok (.iconst 0, 1) := by decide +kernel
theorem dX3_rateOfOthers_6 : decode cX3_rateOfOthers 6 = .ok (.istore 6, 2) := by decide +kernel
theorem dX3_rateOfOthers_8 : decode cX3_rateOfOthers 8 = .ok (.iload 6, 2) := by decide +kernel
theorem dX3_rateOfOthers_10 : decode cX3_rateOfOthers 10 = .ok (.aload_n 1, 1) := by decide +kernel
theorem dX3_rateOfOthers_11 : decode cX3_rateOfOthers 11 = .ok (.getfield 46, 3) := by decide +kernel
theorem dX3_rateOfOthers_14 : decode cX3_rateOfOthers 14 = .ok (.getfield 52, 3) := by decide +kernel
theorem dX3_rateOfOthers_17 : decode cX3_rateOfOthers 17 = .ok (.if_icmp .ge 61, 3) := by decide +kernel
theorem dX3_rateOfOthers_20 : decode cX3_rateOfOthers 20 = .ok (.aload_n 1, 1) := by decide +kernel
theorem dX3_rateOfOthers_21 : decode cX3_rateOfOthers 21 = .ok (.getfield 64, 3) := by decide +kernel
theorem dX3_rateOfOthers_24 : decode cX3_rateOfOthers 24 = .ok (.iload 6, 2) := by decide +kernel
theorem dX3_rateOfOthers_26 : decode cX3_rateOfOthers 26 = .ok (.baload, 1) := by decide +kernel
theorem dX3_rateOfOthers_27 : decode cX3_rateOfOthers 27 = .ok (.ifCond .ne 45, 3) := by decide +kernel
theorem dX3_rateOfOthers_30 : decode cX3_rateOfOthers 30 = .ok (.aload_n 0, 1) := by decide +kernel
theorem dX3_rateOfOthers_31 : decode cX3_rateOfOthers 31 = .ok (.getfield 15, 3) := by decide +kernel
theorem dX3_rateOfOthers_34 : decode cX3_rateOfOthers 34 = .ok (.iload 6, 2) := by decide +kernel
theorem dX3_rateOfOthers_36 : decode cX3_rateOfOthers 36 = .ok (.iaload, 1) := by decide +kernel
theorem dX3_rateOfOthers_37 : decode cX3_rateOfOthers 37 = .ok (.ifCond .le 35, 3) := by decide +kernel
theorem dX3_rateOfOthers_40 : decode cX3_rateOfOthers 40 = .ok (.aload_n 1, 1) := by decide +kernel
theorem dX3_rateOfOthers_41 : decode cX3_rateOfOthers 41 = .ok (.getfield 89, 3) := by decide +kernel
theorem dX3_rateOfOthers_44 : decode cX3_rateOfOthers 44 = .ok (.iload 6, 2) := by decide +kernel
theorem dX3_rateOfOthers_46 : decode cX3_rateOfOthers 46 = .ok (.invokevirtual 125, 3) := by decide +kernel
theorem dX3_rateOfOthers_49 : decode cX3_rateOfOthers 49 = .ok (.lstore 7, 2) := by decide +kernel
theorem dX3_rateOfOthers_51 : decode cX3_rateOfOthers 51 = .ok (.lload_n 2, 1) := by decide +kernel
theorem dX3_rateOfOthers_52 : decode cX3_rateOfOthers 52 = .ok (.aload_n 0, 1) := by decide +kernel
theorem dX3_rateOfOthers_53 : decode cX3_rateOfOthers 53 = .ok (.getfield 15, 3) := by decide +kernel
theorem dX3_rateOfOthers_56 : decode cX3_rateOfOthers 56 = .ok (.iload 6, 2) := by decide +kernel
theorem dX3_rateOfOthers_58 : decode cX3_rateOfOthers 58 = .ok (.iaload, 1) := by decide +kernel
theorem dX3_rateOfOthers_59 : decode cX3_rateOfOthers 59 = .ok (.i2l, 1) := by decide +kernel
theorem dX3_rateOfOthers_60 : decode cX3_rateOfOthers 60 = .ok (.lload 7, 2) := by decide +kernel
theorem dX3_rateOfOthers_62 : decode cX3_rateOfOthers 62 = .ok (.lmul, 1) := by decide +kernel
theorem dX3_rateOfOthers_63 : decode cX3_rateOfOthers 63 = .ok (.ladd, 1) := by decide +kernel
theorem dX3_rateOfOthers_64 : decode cX3_rateOfOthers 64 = .ok (.lstore_n 2, 1) := by decide +kernel
theorem dX3_rateOfOthers_65 : decode cX3_rateOfOthers 65 = .ok (.lload 4, 2) := by decide +kernel
theorem dX3_rateOfOthers_67 : decode cX3_rateOfOthers 67 = .ok (.lload 7, 2) := by decide +kernel
theorem dX3_rateOfOthers_69 : decode cX3_rateOfOthers 69 = .ok (.ladd, 1) := by decide +kernel
theorem dX3_rateOfOthers_70 : decode cX3_rateOfOthers 70 = .ok (.lstore 4, 2) := by decide +kernel
theorem dX3_rateOfOthers_72 : decode cX3_rateOfOthers 72 = .ok (.iinc 6 1, 3) := by decide +kernel
theorem dX3_rateOfOthers_75 : decode cX3_rateOfOthers 75 = .ok (.goto (-67), 3) := by decide +kernel
theorem dX3_rateOfOthers_78 : decode cX3_rateOfOthers 78 = .ok (.lload 4, 2) := by decide +kernel
theorem dX3_rateOfOthers_80 : decode cX3_rateOfOthers 80 = .ok (.lconst 0, 1) := by decide +kernel
theorem dX3_rateOfOthers_81 : decode cX3_rateOfOthers 81 = .ok (.lcmp, 1) := by decide +kernel
theorem dX3_rateOfOthers_82 : decode cX3_rateOfOthers 82 = .ok (.ifCond .ne 7, 3) := by decide +kernel
theorem dX3_rateOfOthers_85 : decode cX3_rateOfOthers 85 = .ok (.iconst 0, 1) := by decide +kernel
theorem dX3_rateOfOthers_86 : decode cX3_rateOfOthers 86 = .ok (.goto 8, 3) := by decide +kernel
theorem dX3_rateOfOthers_89 : decode cX3_rateOfOthers 89 = .ok (.lload_n 2, 1) := by decide +kernel
theorem dX3_rateOfOthers_90 : decode cX3_rateOfOthers 90 = .ok (.lload 4, 2) := by decide +kernel
theorem dX3_rateOfOthers_92 : decode cX3_rateOfOthers 92 = .ok (.ldiv, 1) := by decide +kernel
theorem dX3_rateOfOthers_93 : decode cX3_rateOfOthers 93 = .ok (.l2i, 1) := by decide +kernel
theorem dX3_rateOfOthers_94 : decode cX3_rateOfOthers 94 = .ok (.ireturn, 1) := by decide +kernel
theorem dX3_pickedMonths_0 : decode cX3_pickedMonths 0 = .ok (.iconst 0, 1) := by decide +kernel
theorem dX3_pickedMonths_1 : decode cX3_pickedMonths 1 = .ok (.istore_n 3, 1) := by decide +kernel
theorem dX3_pickedMonths_2 : decode cX3_pickedMonths 2 = .ok (.iload_n 3, 1) := by decide +kernel
theorem dX3_pickedMonths_3 : decode cX3_pickedMonths 3 = .ok (.bipush 12, 2) := by decide +kernel
theorem dX3_pickedMonths_5 : decode cX3_pickedMonths 5 = .ok (.if_icmp .ge 23, 3) := by decide +kernel
theorem dX3_pickedMonths_8 : decode cX3_pickedMonths 8 = .ok (.aload_n 0, 1) := by decide +kernel
theorem dX3_pickedMonths_9 : decode cX3_pickedMonths 9 = .ok (.getfield 31, 3) := by decide +kernel
theorem dX3_pickedMonths_12 : decode cX3_pickedMonths 12 = .ok (.iload_n 3, 1) := by decide +kernel
theorem dX3_pickedMonths_13 : decode cX3_pickedMonths 13 = .ok (.iconst 0, 1) := by decide +kernel
theorem dX3_pickedMonths_14 : decode cX3_pickedMonths 14 = .ok (.iastore, 1) := by decide +kernel
theorem dX3_pickedMonths_15 : decode cX3_pickedMonths 15 = .ok (.aload_n 0, 1) := by decide +kernel
theorem dX3_pickedMonths_16 : decode cX3_pickedMonths 16 = .ok (.getfield 34, 3) := by decide +kernel
theorem dX3_pickedMonths_19 : decode cX3_pickedMonths 19 = .ok (.iload_n 3, 1) := by decide +kernel
theorem dX3_pickedMonths_20 : decode cX3_pickedMonths 20 = .ok (.lconst 0, 1) := by decide +kernel
theorem dX3_pickedMonths_21 : decode cX3_pickedMonths 21 = .ok (.lastore, 1) := by decide +kernel
theorem dX3_pickedMonths_22 : decode cX3_pickedMonths 22 = .ok (.iinc 3 1, 3) := by decide +kernel
theorem dX3_pickedMonths_25 : decode cX3_pickedMonths 25 = .ok (.goto (-23), 3) := by decide +kernel
theorem dX3_pickedMonths_28 : decode cX3_pickedMonths 28 = .ok (.iconst 0, 1) := by decide +kernel
theorem dX3_pickedMonths_29 : decode cX3_pickedMonths 29 = .ok (.istore_n 3, 1) := by decide +kernel
theorem dX3_pickedMonths_30 : decode cX3_pickedMonths 30 = .ok (.lconst 0, 1) := by decide +kernel
theorem dX3_pickedMonths_31 : decode cX3_pickedMonths 31 = .ok (.lstore 4, 2) := by decide +kernel
theorem dX3_pickedMonths_33 : decode cX3_pickedMonths 33 = .ok (.iconst 0, 1) := by decide +kernel
theorem dX3_pickedMonths_34 : decode cX3_pickedMonths 34 = .ok (.istore 6, 2) := by decide +kernel
theorem dX3_pickedMonths_36 : decode cX3_pickedMonths 36 = .ok (.iload 6, 2) := by decide +kernel
theorem dX3_pickedMonths_38 : decode cX3_pickedMonths 38 = .ok (.aload_n 1, 1) := by decide +kernel
theorem dX3_pickedMonths_39 : decode cX3_pickedMonths 39 = .ok (.getfield 98, 3) := by decide +kernel
theorem dX3_pickedMonths_42 : decode cX3_pickedMonths 42 = .ok (.if_icmp .ge 84, 3) := by decide +kernel
theorem dX3_pickedMonths_45 : decode cX3_pickedMonths 45 = .ok (.aload_n 1, 1) := by decide +kernel
theorem dX3_pickedMonths_46 : decode cX3_pickedMonths 46 = .ok (.iload 6, 2) := by decide +kernel
theorem dX3_pickedMonths_48 : decode cX3_pickedMonths 48 = .ok (.iload_n 2, 1) := by decide +kernel
theorem dX3_pickedMonths_49 : decode cX3_pickedMonths 49 = .ok (.iconst 1, 1) := by decide +kernel
theorem dX3_pickedMonths_50 : decode cX3_pickedMonths 50 = .ok (.invokevirtual 105, 3) := by decide +kernel
theorem dX3_pickedMonths_53 : decode cX3_pickedMonths 53 = .ok (.ifCond .eq 67, 3) := by decide +kernel
theorem dX3_pickedMonths_56 : decode cX3_pickedMonths 56 = .ok (.aload_n 0, 1) := by decide +kernel
theorem dX3_pickedMonths_57 : decode cX3_pickedMonths 57 = .ok (.getfield 31, 3) := by decide +kernel
theorem dX3_pickedMonths_60 : decode cX3_pickedMonths 60 = .ok (.aload_n 1, 1) := by decide +kernel
theorem dX3_pickedMonths_61 : decode cX3_pickedMonths 61 = .ok (.getfield 128, 3) := by decide +kernel
theorem dX3_pickedMonths_64 : decode cX3_pickedMonths 64 = .ok (.iload 6, 2) := by decide +kernel
theorem dX3_pickedMonths_66 : decode cX3_pickedMonths 66 = .ok (.iaload, 1) := by decide +kernel
theorem dX3_pickedMonths_67 : decode cX3_pickedMonths 67 = .ok (.dup2, 1) := by decide +kernel
theorem dX3_pickedMonths_68 : decode cX3_pickedMonths 68 = .ok (.iaload, 1) := by decide +kernel
theorem dX3_pickedMonths_69 : decode cX3_pickedMonths 69 = .ok (.aload_n 1, 1) := by decide +kernel
theorem dX3_pickedMonths_70 : decode cX3_pickedMonths 70 = .ok (.getfield 114, 3) := by decide +kernel
theorem dX3_pickedMonths_73 : decode cX3_pickedMonths 73 = .ok (.iload 6, 2) := by decide +kernel
theorem dX3_pickedMonths_75 : decode cX3_pickedMonths 75 = .ok (.iaload, 1) := by decide +kernel
theorem dX3_pickedMonths_76 : decode cX3_pickedMonths 76 = .ok (.iadd, 1) := by decide +kernel
theorem dX3_pickedMonths_77 : decode cX3_pickedMonths 77 = .ok (.iastore, 1) := by decide +kernel
theorem dX3_pickedMonths_78 : decode cX3_pickedMonths 78 = .ok (.aload_n 0, 1) := by decide +kernel
theorem dX3_pickedMonths_79 : decode cX3_pickedMonths 79 = .ok (.getfield 34, 3) := by decide +kernel
theorem dX3_pickedMonths_82 : decode cX3_pickedMonths 82 = .ok (.aload_n 1, 1) := by decide +kernel
theorem dX3_pickedMonths_83 : decode cX3_pickedMonths 83 = .ok (.getfield 128, 3) := by decide +kernel
theorem dX3_pickedMonths_86 : decode cX3_pickedMonths 86 = .ok (.iload 6, 2) := by decide +kernel
theorem dX3_pickedMonths_88 : decode cX3_pickedMonths 88 = .ok (.iaload, 1) := by decide +kernel
theorem dX3_pickedMonths_89 : decode cX3_pickedMonths 89 = .ok (.dup2, 1) := by decide +kernel
theorem dX3_pickedMonths_90 : decode cX3_pickedMonths 90 = .ok (.laload, 1) := by decide +kernel
theorem dX3_pickedMonths_91 : decode cX3_pickedMonths 91 = .ok (.aload_n 1, 1) := by decide +kernel
theorem dX3_pickedMonths_92 : decode cX3_pickedMonths 92 = .ok (.iload 6, 2) := by decide +kernel
theorem dX3_pickedMonths_94 : decode cX3_pickedMonths 94 = .ok (.invokevirtual 117, 3) := by decide +kernel
theorem dX3_pickedMonths_97 : decode cX3_pickedMonths 97 = .ok (.ladd, 1) := by decide +kernel
theorem dX3_pickedMonths_98 : decode cX3_pickedMonths 98 = .ok (.lastore, 1) := by decide +kernel
theorem dX3_pickedMonths_99 : decode cX3_pickedMonths 99 = .ok (.iload_n 3, 1) := by decide +kernel
theorem dX3_pickedMonths_100 : decode cX3_pickedMonths 100 = .ok (.aload_n 1, 1) := by decide +kernel
theorem dX3_pickedMonths_101 : decode cX3_pickedMonths 101 = .ok (.getfield 114, 3) := by decide +kernel
theorem dX3_pickedMonths_104 : decode cX3_pickedMonths 104 = .ok (.iload 6, 2) := by decide +kernel
theorem dX3_pickedMonths_106 : decode cX3_pickedMonths 106 = .ok (.iaload, 1) := by decide +kernel
theorem dX3_pickedMonths_107 : decode cX3_pickedMonths 107 = .ok (.iadd, 1) := by decide +kernel
theorem dX3_pickedMonths_108 : decode cX3_pickedMonths 108 = .ok (.istore_n 3, 1) := by decide +kernel
theorem dX3_pickedMonths_109 : decode cX3_pickedMonths 109 = .ok (.lload 4, 2) := by decide +kernel
theorem dX3_pickedMonths_111 : decode cX3_pickedMonths 111 = .ok (.aload_n 1, 1) := by decide +kernel
theorem dX3_pickedMonths_112 : decode cX3_pickedMonths 112 = .ok (.iload 6, 2) := by decide +kernel
theorem dX3_pickedMonths_114 : decode cX3_pickedMonths 114 = .ok (.invokevirtual 117, 3) := by decide +kernel
theorem dX3_pickedMonths_117 : decode cX3_pickedMonths 117 = .ok (.ladd, 1) := by decide +kernel
theorem dX3_pickedMonths_118 : decode cX3_pickedMonths 118 = .ok (.lstore 4, 2) := by decide +kernel
theorem dX3_pickedMonths_120 : decode cX3_pickedMonths 120 = .ok (.iinc 6 1, 3) := by decide +kernel
theorem dX3_pickedMonths_123 : decode cX3_pickedMonths 123 = .ok (.goto (-87), 3) := by decide +kernel
theorem dX3_pickedMonths_126 : decode cX3_pickedMonths 126 = .ok (.iconst 0, 1) := by decide +kernel
theorem dX3_pickedMonths_127 : decode cX3_pickedMonths 127 = .ok (.istore 6, 2) := by decide +kernel
theorem dX3_pickedMonths_129 : decode cX3_pickedMonths 129 = .ok (.iconst 0, 1) := by decide +kernel
theorem dX3_pickedMonths_130 : decode cX3_pickedMonths 130 = .ok (.istore 7, 2) := by decide +kernel
theorem dX3_pickedMonths_132 : decode cX3_pickedMonths 132 = .ok (.iload 7, 2) := by decide +kernel
theorem dX3_pickedMonths_134 : decode cX3_pickedMonths 134 = .ok (.bipush 12, 2) := by decide +kernel
theorem dX3_pickedMonths_136 : decode cX3_pickedMonths 136 = .ok (.if_icmp .ge 86, 3) := by decide +kernel
theorem dX3_pickedMonths_139 : decode cX3_pickedMonths 139 = .ok (.iload_n 3, 1) := by decide +kernel
theorem dX3_pickedMonths_140 : decode cX3_pickedMonths 140 = .ok (.aload_n 0, 1) := by decide +kernel
theorem dX3_pickedMonths_141 : decode cX3_pickedMonths 141 = .ok (.getfield 31, 3) := by decide +kernel
theorem dX3_pickedMonths_144 : decode cX3_pickedMonths 144 = .ok (.iload 7, 2) := by decide +kernel
theorem dX3_pickedMonths_146 : decode cX3_pickedMonths 146 = .ok (.iaload, 1) := by decide +kernel
theorem dX3_pickedMonths_147 : decode cX3_pickedMonths 147 = .ok (.isub, 1) := by decide +kernel
theorem dX3_pickedMonths_148 : decode cX3_pickedMonths 148 = .ok (.istore 8, 2) := by decide +kernel
theorem dX3_pickedMonths_150 : decode cX3_pickedMonths 150 = .ok (.aload_n 0, 1) := by decide +kernel
theorem dX3_pickedMonths_151 : decode cX3_pickedMonths 151 = .ok (.getfield 31, 3) := by decide +kernel
theorem dX3_pickedMonths_154 : decode cX3_pickedMonths 154 = .ok (.iload 7, 2) := by decide +kernel
theorem dX3_pickedMonths_156 : decode cX3_pickedMonths 156 = .ok (.iaload, 1) := by decide +kernel
theorem dX3_pickedMonths_157 : decode cX3_pickedMonths 157 = .ok (.ifCond .le 59, 3) := by decide +kernel
theorem dX3_pickedMonths_160 : decode cX3_pickedMonths 160 = .ok (.iload 8, 2) := by decide +kernel
theorem dX3_pickedMonths_162 : decode cX3_pickedMonths 162 = .ok (.ifCond .le 54, 3) := by decide +kernel
theorem dX3_pickedMonths_165 : decode cX3_pickedMonths 165 = .ok (.ldc2_w 131, 3) := by decide +kernel
theorem dX3_pickedMonths_168 : decode cX3_pickedMonths 168 = .ok (.aload_n 0, 1) := by decide +kernel
theorem dX3_pickedMonths_169 : decode cX3_pickedMonths 169 = .ok (.getfield 34, 3) := by decide +kernel
theorem dX3_pickedMonths_172 : decode cX3_pickedMonths 172 = .ok (.iload 7, 2) := by decide +kernel
theorem dX3_pickedMonths_174 : decode cX3_pickedMonths 174 = .ok (.laload, 1) := by decide +kernel
theorem dX3_pickedMonths_175 : decode cX3_pickedMonths 175 = .ok (.aload_n 0, 1) := by decide +kernel
theorem dX3_pickedMonths_176 : decode cX3_pickedMonths 176 = .ok (.getfield 31, 3) := by decide +kernel
theorem dX3_pickedMonths_179 : decode cX3_pickedMonths 179 = .ok (.iload 7, 2) := by decide +kernel
theorem dX3_pickedMonths_181 : decode cX3_pickedMonths 181 = .ok (.iaload, 1) := by decide +kernel
theorem dX3_pickedMonths_182 : decode cX3_pickedMonths 182 = .ok (.i2l, 1) := by decide +kernel
theorem dX3_pickedMonths_183 : decode cX3_pickedMonths 183 = .ok (.ldiv, 1) := by decide +kernel
theorem dX3_pickedMonths_184 : decode cX3_pickedMonths 184 = .ok (.lmul, 1) := by decide +kernel
theorem dX3_pickedMonths_185 : decode cX3_pickedMonths 185 = .ok (.ldc2_w 133, 3) := by decide +kernel
theorem dX3_pickedMonths_188 : decode cX3_pickedMonths 188 = .ok (.lload 4, 2) := by decide +kernel
theorem dX3_pickedMonths_190 : decode cX3_pickedMonths 190 = .ok (.aload_n 0, 1) := by decide +kernel
theorem dX3_pickedMonths_191 : decode cX3_pickedMonths 191 = .ok (.getfield 34, 3) := by decide +kernel
theorem dX3_pickedMonths_194 : decode cX3_pickedMonths 194 = .ok (.iload 7, 2) := by decide +kernel
theorem dX3_pickedMonths_196 : decode cX3_pickedMonths 196 = .ok (.laload, 1) := by decide +kernel
theorem dX3_pickedMonths_197 : decode cX3_pickedMonths 197 = .ok (.lsub, 1) := by decide +kernel
theorem dX3_pickedMonths_198 : decode cX3_pickedMonths 198 = .ok (.iload 8, 2) := by decide +kernel
theorem dX3_pickedMonths_200 : decode cX3_pickedMonths 200 = .ok (.i2l, 1) := by decide +kernel
theorem dX3_pickedMonths_201 : decode cX3_pickedMonths 201 = .ok (.ldiv, 1) := by decide +kernel
theorem dX3_pickedMonths_202 : decode cX3_pickedMonths 202 = .ok (.lmul, 1) := by decide +kernel
theorem dX3_pickedMonths_203 : decode cX3_pickedMonths 203 = .ok (.lcmp, 1) := by decide +kernel
theorem dX3_pickedMonths_204 : decode cX3_pickedMonths 204 = .ok (.ifCond .ge 12, 3) := by decide +kernel
theorem dX3_pickedMonths_207 : decode cX3_pickedMonths 207 = .ok (.iload 6, 2) := by decide +kernel
theorem dX3_pickedMonths_209 : decode cX3_pickedMonths 209 = .ok (.iconst 1, 1) := by decide +kernel
theorem dX3_pickedMonths_210 : decode cX3_pickedMonths 210 = .ok (.iload 7, 2) := by decide +kernel
theorem dX3_pickedMonths_212 : decode cX3_pickedMonths 212 = .ok (.ishl, 1) := by decide +kernel
theorem dX3_pickedMonths_213 : decode cX3_pickedMonths 213 = .ok (.ior, 1) := by decide +kernel
theorem dX3_pickedMonths_214 : decode cX3_pickedMonths 214 = .ok (.istore 6, 2) := by decide +kernel
theorem dX3_pickedMonths_216 : decode cX3_pickedMonths 216 = .ok (.iinc 7 1, 3) := by decide +kernel
theorem dX3_pickedMonths_219 : decode cX3_pickedMonths 219 = .ok (.goto (-87), 3) := by decide +kernel
theorem dX3_pickedMonths_222 : decode cX3_pickedMonths 222 = .ok (.iload 6, 2) := by decide +kernel
theorem dX3_pickedMonths_224 : decode cX3_pickedMonths 224 = .ok (.ireturn, 1) := by decide +kernel
theorem dX3_depositOf_0 : decode cX3_depositOf 0 = .ok (.aload_n 0, 1) := by decide +kernel
theorem dX3_depositOf_1 : decode cX3_depositOf 1 = .ok (.getfield 15, 3) := by decide +kernel
theorem dX3_depositOf_4 : decode cX3_depositOf 4 = .ok (.aload_n 1, 1) := by decide +kernel
theorem dX3_depositOf_5 : decode cX3_depositOf 5 = .ok (.getfield 135, 3) := by decide +kernel
theorem dX3_depositOf_8 : decode cX3_depositOf 8 = .ok (.iload_n 2, 1) := by decide +kernel
theorem dX3_depositOf_9 : decode cX3_depositOf 9 = .ok (.iaload, 1) := by decide +kernel
theorem dX3_depositOf_10 : decode cX3_depositOf 10 = .ok (.iaload, 1) := by decide +kernel
theorem dX3_depositOf_11 : decode cX3_depositOf 11 = .ok (.i2l, 1) := by decide +kernel
theorem dX3_depositOf_12 : decode cX3_depositOf 12 = .ok (.aload_n 1, 1) := by decide +kernel
theorem dX3_depositOf_13 : decode cX3_depositOf 13 = .ok (.getfield 111, 3) := by decide +kernel
theorem dX3_depositOf_16 : decode cX3_depositOf 16 = .ok (.iload_n 2, 1) := by decide +kernel
theorem dX3_depositOf_17 : decode cX3_depositOf 17 = .ok (.iaload, 1) := by decide +kernel
theorem dX3_depositOf_18 : decode cX3_depositOf 18 = .ok (.i2l, 1) := by decide +kernel
theorem dX3_depositOf_19 : decode cX3_depositOf 19 = .ok (.lmul, 1) := by decide +kernel
theorem dX3_depositOf_20 : decode cX3_depositOf 20 = .ok (.aload_n 1, 1) := by decide +kernel
theorem dX3_depositOf_21 : decode cX3_depositOf 21 = .ok (.getfield 114, 3) := by decide +kernel
theorem dX3_depositOf_24 : decode cX3_depositOf 24 = .ok (.iload_n 2, 1) := by decide +kernel
theorem dX3_depositOf_25 : decode cX3_depositOf 25 = .ok (.iaload, 1) := by decide +kernel
theorem dX3_depositOf_26 : decode cX3_depositOf 26 = .ok (.i2l, 1) := by decide +kernel
theorem dX3_depositOf_27 : decode cX3_depositOf 27 = .ok (.lmul, 1) := by decide +kernel
theorem dX3_depositOf_28 : decode cX3_depositOf 28 = .ok (.ldc2_w 138, 3) := by decide +kernel
theorem dX3_depositOf_31 : decode cX3_depositOf 31 = .ok (.ldiv, 1) := by decide +kernel
theorem dX3_depositOf_32 : decode cX3_depositOf 32 = .ok (.lreturn, 1) := by decide +kernel
theorem dX3_depositsOf_0 : decode cX3_depositsOf 0 = .ok (.lconst 0, 1) := by decide +kernel
theorem dX3_depositsOf_1 : decode cX3_depositsOf 1 = .ok (.lstore_n 3, 1) := by decide +kernel
theorem dX3_depositsOf_2 : decode cX3_depositsOf 2 = .ok (.iconst 0, 1) := by decide +kernel
theorem dX3_depositsOf_3 : decode cX3_depositsOf 3 = .ok (.istore 5, 2) := by decide +kernel
theorem dX3_depositsOf_5 : decode cX3_depositsOf 5 = .ok (.iload 5, 2) := by decide +kernel
theorem dX3_depositsOf_7 : decode cX3_depositsOf 7 = .ok (.aload_n 1, 1) := by decide +kernel
theorem dX3_depositsOf_8 : decode cX3_depositsOf 8 = .ok (.getfield 98, 3) := by decide +kernel
theorem dX3_depositsOf_11 : decode cX3_depositsOf 11 = .ok (.if_icmp .ge 30, 3) := by decide +kernel
theorem dX3_depositsOf_14 : decode cX3_depositsOf 14 = .ok (.aload_n 1, 1) := by decide +kernel
theorem dX3_depositsOf_15 : decode cX3_depositsOf 15 = .ok (.iload 5, 2) := by decide +kernel
theorem dX3_depositsOf_17 : decode cX3_depositsOf 17 = .ok (.iload_n 2, 1) := by decide +kernel
theorem dX3_depositsOf_18 : decode cX3_depositsOf 18 = .ok (.iconst 1, 1) := by decide +kernel
theorem dX3_depositsOf_19 : decode cX3_depositsOf 19 = .ok (.invokevirtual 105, 3) := by decide +kernel
theorem dX3_depositsOf_22 : decode cX3_depositsOf 22 = .ok (.ifCond .eq 13, 3) := by decide +kernel
theorem dX3_depositsOf_25 : decode cX3_depositsOf 25 = .ok (.lload_n 3, 1) := by decide +kernel
theorem dX3_depositsOf_26 : decode cX3_depositsOf 26 = .ok (.aload_n 0, 1) := by decide +kernel
theorem dX3_depositsOf_27 : decode cX3_depositsOf 27 = .ok (.aload_n 1, 1) := by decide +kernel
theorem dX3_depositsOf_28 : decode cX3_depositsOf 28 = .ok (.iload 5, 2) := by decide +kernel
theorem dX3_depositsOf_30 : decode cX3_depositsOf 30 = .ok (.invokevirtual 140, 3) := by decide +kernel
theorem dX3_depositsOf_33 : decode cX3_depositsOf 33 = .ok (.ladd, 1) := by decide +kernel
theorem dX3_depositsOf_34 : decode cX3_depositsOf 34 = .ok (.lstore_n 3, 1) := by decide +kernel
theorem dX3_depositsOf_35 : decode cX3_depositsOf 35 = .ok (.iinc 5 1, 3) := by decide +kernel
theorem dX3_depositsOf_38 : decode cX3_depositsOf 38 = .ok (.goto (-33), 3) := by decide +kernel
theorem dX3_depositsOf_41 : decode cX3_depositsOf 41 = .ok (.lload_n 3, 1) := by decide +kernel
theorem dX3_depositsOf_42 : decode cX3_depositsOf 42 = .ok (.lreturn, 1) := by decide +kernel
theorem dX3_placeOf_0 : decode cX3_placeOf 0 = .ok (.iconst 0, 1) := by decide +kernel
theorem dX3_placeOf_1 : decode cX3_placeOf 1 = .ok (.istore_n 3, 1) := by decide +kernel
theorem dX3_placeOf_2 : decode cX3_placeOf 2 = .ok (.iconst 0, 1) := by decide +kernel
theorem dX3_placeOf_3 : decode cX3_placeOf 3 = .ok (.istore 4, 2) := by decide +kernel
theorem dX3_placeOf_5 : decode cX3_placeOf 5 = .ok (.iload 4, 2) := by decide +kernel
theorem dX3_placeOf_7 : decode cX3_placeOf 7 = .ok (.iload_n 2, 1) := by decide +kernel
theorem dX3_placeOf_8 : decode cX3_placeOf 8 = .ok (.if_icmp .ge 50, 3) := by decide +kernel
theorem dX3_placeOf_11 : decode cX3_placeOf 11 = .ok (.aload_n 0, 1) := by decide +kernel
theorem dX3_placeOf_12 : decode cX3_placeOf 12 = .ok (.getfield 21, 3) := by decide +kernel
theorem dX3_placeOf_15 : decode cX3_placeOf 15 = .ok (.iload 4, 2) := by decide +kernel
theorem dX3_placeOf_17 : decode cX3_placeOf 17 = .ok (.iaload, 1) := by decide +kernel
theorem dX3_placeOf_18 : decode cX3_placeOf 18 = .ok (.aload_n 0, 1) := by decide +kernel
theorem dX3_placeOf_19 : decode cX3_placeOf 19 = .ok (.getfield 21, 3) := by decide +kernel
theorem dX3_placeOf_22 : decode cX3_placeOf 22 = .ok (.iload_n 1, 1) := by decide +kernel
theorem dX3_placeOf_23 : decode cX3_placeOf 23 = .ok (.iaload, 1) := by decide +kernel
theorem dX3_placeOf_24 : decode cX3_placeOf 24 = .ok (.if_icmp .gt 25, 3) := by decide +kernel
theorem dX3_placeOf_27 : decode cX3_placeOf 27 = .ok (.aload_n 0, 1) := by decide +kernel
theorem dX3_placeOf_28 : decode cX3_placeOf 28 = .ok (.getfield 21, 3) := by decide +kernel
theorem dX3_placeOf_31 : decode cX3_placeOf 31 = .ok (.iload 4, 2) := by decide +kernel
theorem dX3_placeOf_33 : decode cX3_placeOf 33 = .ok (.iaload, 1) := by decide +kernel
theorem dX3_placeOf_34 : decode cX3_placeOf 34 = .ok (.aload_n 0, 1) := by decide +kernel
theorem dX3_placeOf_35 : decode cX3_placeOf 35 = .ok (.getfield 21, 3) := by decide +kernel
theorem dX3_placeOf_38 : decode cX3_placeOf 38 = .ok (.iload_n 1, 1) := by decide +kernel
theorem dX3_placeOf_39 : decode cX3_placeOf 39 = .ok (.iaload, 1) := by decide +kernel
theorem dX3_placeOf_40 : decode cX3_placeOf 40 = .ok (.if_icmp .ne 12, 3) := by decide +kernel
theorem dX3_placeOf_43 : decode cX3_placeOf 43 = .ok (.iload 4, 2) := by decide +kernel
theorem dX3_placeOf_45 : decode cX3_placeOf 45 = .ok (.iload_n 1, 1) := by decide +kernel
theorem dX3_placeOf_46 : decode cX3_placeOf 46 = .ok (.if_icmp .ge 6, 3) := by decide +kernel
theorem dX3_placeOf_49 : decode cX3_placeOf 49 = .ok (.iinc 3 1, 3) := by decide +kernel
theorem dX3_placeOf_52 : decode cX3_placeOf 52 = .ok (.iinc 4 1, 3) := by decide +kernel
theorem dX3_placeOf_55 : decode cX3_placeOf 55 = .ok (.goto (-50), 3) := by decide +kernel
theorem dX3_placeOf_58 : decode cX3_placeOf 58 = .ok (.iload_n 3, 1) := by decide +kernel
theorem dX3_placeOf_59 : decode cX3_placeOf 59 = .ok (.ireturn, 1) := by decide +kernel
theorem dX4_init_0 : decode cX4_init 0 = .ok (.aload_n 0, 1) := by decide +kernel
theorem dX4_init_1 : decode cX4_init 1 = .ok (.invokespecial 3, 3) := by decide +kernel
theorem dX4_init_4 : decode cX4_init 4 = .ok (.aload_n 0, 1) := by decide +kernel
theorem dX4_init_5 : decode cX4_init 5 = .ok (.bipush 36, 2) := by decide +kernel
theorem dX4_init_7 : decode cX4_init 7 = .ok (.newarray .byte, 2) := by decide +kernel
theorem dX4_init_9 : decode cX4_init 9 = .ok (.putfield 9, 3) := by decide +kernel
theorem dX4_init_12 : decode cX4_init 12 = .ok (.aload_n 0, 1) := by decide +kernel
theorem dX4_init_13 : decode cX4_init 13 = .ok (.bipush 6, 2) := by decide +kernel
theorem dX4_init_15 : decode cX4_init 15 = .ok (.newarray .int, 2) := by decide +kernel
theorem dX4_init_17 : decode cX4_init 17 = .ok (.putfield 15, 3) := by decide +kernel
theorem dX4_init_20 : decode cX4_init 20 = .ok (.return_, 1) := by decide +kernel
theorem dX4_find_0 : decode cX4_find 0 = .ok (.iconst 0, 1) := by decide +kernel
theorem dX4_find_1 : decode cX4_find 1 = .ok (.istore 4, 2) := by decide +kernel
theorem dX4_find_3 : decode cX4_find 3 = .ok (.iload 4, 2) := by decide +kernel
theorem dX4_find_5 : decode cX4_find 5 = .ok (.aload_n 0, 1) := by decide +kernel
theorem dX4_find_6 : decode cX4_find 6 = .ok (.getfield 19, 3) := by decide +kernel
theorem dX4_find_9 : decode cX4_find 9 = .ok (.if_icmp .ge 36, 3) := by decide +kernel
theorem dX4_find_12 : decode cX4_find 12 = .ok (.aload_n 0, 1) := by decide +kernel
theorem dX4_find_13 : decode cX4_find 13 = .ok (.getfield 15, 3) := by decide +kernel
theorem dX4_find_16 : decode cX4_find 16 = .ok (.iload 4, 2) := by decide +kernel
theorem dX4_find_18 : decode cX4_find 18 = .ok (.iaload, 1) := by decide +kernel
theorem dX4_find_19 : decode cX4_find 19 = .ok (.iload_n 3, 1) := by decide +kernel
theorem dX4_find_20 : decode cX4_find 20 = .ok (.iload_n 2, 1) := by decide +kernel
theorem dX4_find_21 : decode cX4_find 21 = .ok (.isub, 1) := by decide +kernel
theorem dX4_find_22 : decode cX4_find 22 = .ok (.if_icmp .ne 17, 3) := by decide +kernel
theorem dX4_find_25 : decode cX4_find 25 = .ok (.aload_n 0, 1) := by decide +kernel
theorem dX4_find_26 : decode cX4_find 26 = .ok (.iload 4, 2) := by decide +kernel
theorem dX4_find_28 : decode cX4_find 28 = .ok (.aload_n 1, 1) := by decide +kernel
theorem dX4_find_29 : decode cX4_find 29 = .ok (.iload_n 2, 1) := by decide +kernel
theorem dX4_find_30 : decode cX4_find 30 = .ok (.invokevirtual 23, 3) := by decide +kernel
theorem dX4_find_33 : decode cX4_find 33 = .ok (.ifCond .eq 6, 3) := by decide +kernel
theorem dX4_find_36 : decode cX4_find 36 = .ok (.iload 4, 2) := by decide +kernel
theorem dX4_find_38 : decode cX4_find 38 = .ok (.ireturn, 1) := by decide +kernel
theorem dX4_find_39 : decode cX4_find 39 = .ok (.iinc 4 1, 3) := by decide +kernel
theorem dX4_find_42 : decode cX4_find 42 = .ok (.goto (-39), 3) := by decide +kernel
theorem dX4_find_45 : decode cX4_find 45 = .ok (.iconst (-1), 1) := by decide +kernel
theorem dX4_find_46 : decode cX4_find 46 = .ok (.ireturn, 1) := by decide +kernel
theorem dX4_isAt_0 : decode cX4_isAt 0 = .ok (.iconst 0, 1) := by decide +kernel
theorem dX4_isAt_1 : decode cX4_isAt 1 = .ok (.istore 4, 2) := by decide +kernel
theorem dX4_isAt_3 : decode cX4_isAt 3 = .ok (.iload 4, 2) := by decide +kernel
theorem dX4_isAt_5 : decode cX4_isAt 5 = .ok (.aload_n 0, 1) := by decide +kernel
theorem dX4_isAt_6 : decode cX4_isAt 6 = .ok (.getfield 15, 3) := by decide +kernel
theorem dX4_isAt_9 : decode cX4_isAt 9 = .ok (.iload_n 1, 1) := by decide +kernel
theorem dX4_isAt_10 : decode cX4_isAt 10 = .ok (.iaload, 1) := by decide +kernel
theorem dX4_isAt_11 : decode cX4_isAt 11 = .ok (.if_icmp .ge 32, 3) := by decide +kernel
theorem dX4_isAt_14 : decode cX4_isAt 14 = .ok (.aload_n 0, 1) := by decide +kernel
theorem dX4_isAt_15 : decode cX4_isAt 15 = .ok (.getfield 9, 3) := by decide +kernel
theorem dX4_isAt_18 : decode cX4_isAt 18 = .ok (.iload_n 1, 1) := by decide +kernel
theorem dX4_isAt_19 : decode cX4_isAt 19 = .ok (.bipush 6, 2) := by decide +kernel
theorem dX4_isAt_21 : decode cX4_isAt 21 = .ok (.imul, 1) := by decide +kernel
theorem dX4_isAt_22 : decode cX4_isAt 22 = .ok (.iload 4, 2) := by decide +kernel
theorem dX4_isAt_24 : decode cX4_isAt 24 = .ok (.iadd, 1) := by decide +kernel
theorem dX4_isAt_25 : decode cX4_isAt 25 = .ok (.baload, 1) := by decide +kernel
theorem dX4_isAt_26 : decode cX4_isAt 26 = .ok (.aload_n 2, 1) := by decide +kernel
theorem dX4_isAt_27 : decode cX4_isAt 27 = .ok (.iload_n 3, 1) := by decide +kernel
theorem dX4_isAt_28 : decode cX4_isAt 28 = .ok (.iload 4, 2) := by decide +kernel
theorem dX4_isAt_30 : decode cX4_isAt 30 = .ok (.iadd, 1) := by decide +kernel
theorem dX4_isAt_31 : decode cX4_isAt 31 = .ok (.baload, 1) := by decide +kernel
theorem dX4_isAt_32 : decode cX4_isAt 32 = .ok (.if_icmp .eq 5, 3) := by decide +kernel
theorem dX4_isAt_35 : decode cX4_isAt 35 = .ok (.iconst 0, 1) := by decide +kernel
theorem dX4_isAt_36 : decode cX4_isAt 36 = .ok (.ireturn, 1) := by decide +kernel
theorem dX4_isAt_37 : decode cX4_isAt 37 = .ok (.iinc 4 1, 3) := by decide +kernel
theorem dX4_isAt_40 : decode cX4_isAt 40 = .ok (.goto (-37), 3) := by decide +kernel
theorem dX4_isAt_43 : decode cX4_isAt 43 = .ok (.iconst 1, 1) := by decide +kernel
theorem dX4_isAt_44 : decode cX4_isAt 44 = .ok (.ireturn, 1) := by decide +kernel
theorem dX4_add_0 : decode cX4_add 0 = .ok (.aload_n 0, 1) := by decide +kernel
theorem dX4_add_1 : decode cX4_add 1 = .ok (.getfield 19, 3) := by decide +kernel
theorem dX4_add_4 : decode cX4_add 4 = .ok (.bipush 6, 2) := by decide +kernel
theorem dX4_add_6 : decode cX4_add 6 = .ok (.if_icmp .ge 11, 3) := by decide +kernel
theorem dX4_add_9 : decode cX4_add 9 = .ok (.iload_n 3, 1) := by decide +kernel
theorem dX4_add_10 : decode cX4_add 10 = .ok (.iload_n 2, 1) := by decide +kernel
theorem dX4_add_11 : decode cX4_add 11 = .ok (.isub, 1) := by decide +kernel
theorem dX4_add_12 : decode cX4_add 12 = .ok (.bipush 6, 2) := by decide +kernel
theorem dX4_add_14 : decode cX4_add 14 = .ok (.if_icmp .le 4, 3) := by decide +kernel
theorem dX4_add_17 : decode cX4_add 17 = .ok (.return_, 1) := by decide +kernel
theorem dX4_add_18 : decode cX4_add 18 = .ok (.iconst 0, 1) := by decide +kernel
theorem dX4_add_19 : decode cX4_add 19 = .ok (.istore 4, 2) := by decide +kernel
theorem dX4_add_21 : decode cX4_add 21 = .ok (.iload 4, 2) := by decide +kernel
theorem dX4_add_23 : decode cX4_add 23 = .ok (.iload_n 3, 1) := by decide +kernel
theorem dX4_add_24 : decode cX4_add 24 = .ok (.iload_n 2, 1) := by decide +kernel
theorem dX4_add_25 : decode cX4_add 25 = .ok (.isub, 1) := by decide +kernel
theorem dX4_add_26 : decode cX4_add 26 = .ok (.if_icmp .ge 30, 3) := by decide +kernel
theorem dX4_add_29 : decode cX4_add 29 = .ok (.aload_n 0, 1) := by decide +kernel
theorem dX4_add_30 : decode cX4_add 30 = .ok (.getfield 9, 3) := by decide +kernel
theorem dX4_add_33 : decode cX4_add 33 = .ok (.aload_n 0, 1) := by decide +kernel
theorem dX4_add_34 : decode cX4_add 34 = .ok (.getfield 19, 3) := by decide +kernel
theorem dX4_add_37 : decode cX4_add 37 = .ok (.bipush 6, 2) := by decide +kernel
theorem dX4_add_39 : decode cX4_add 39 = .ok (.imul, 1) := by decide +kernel
theorem dX4_add_40 : decode cX4_add 40 = .ok (.iload 4, 2) := by decide +kernel
theorem dX4_add_42 : decode cX4_add 42 = .ok (.iadd, 1) := by decide +kernel
theorem dX4_add_43 : decode cX4_add 43 = .ok (.aload_n 1, 1) := by decide +kernel
theorem dX4_add_44 : decode cX4_add 44 = .ok (.iload_n 2, 1) := by decide +kernel
theorem dX4_add_45 : decode cX4_add 45 = .ok (.iload 4, 2) := by decide +kernel
theorem dX4_add_47 : decode cX4_add 47 = .ok (.iadd, 1) := by decide +kernel
theorem dX4_add_48 : decode cX4_add 48 = .ok (.baload, 1) := by decide +kernel
theorem dX4_add_49 : decode cX4_add 49 = .ok (.bastore, 1) := by decide +kernel
theorem dX4_add_50 : decode cX4_add 50 = .ok (.iinc 4 1, 3) := by decide +kernel
theorem dX4_add_53 : decode cX4_add 53 = .ok (.goto (-32), 3) := by decide +kernel
theorem dX4_add_56 : decode cX4_add 56 = .ok (.aload_n 0, 1) := by decide +kernel
theorem dX4_add_57 : decode cX4_add 57 = .ok (.getfield 15, 3) := by decide +kernel
theorem dX4_add_60 : decode cX4_add 60 = .ok (.aload_n 0, 1) := by decide +kernel
theorem dX4_add_61 : decode cX4_add 61 = .ok (.getfield 19, 3) := by decide +kernel
theorem dX4_add_64 : decode cX4_add 64 = .ok (.iload_n 3, 1) := by decide +kernel
theorem dX4_add_65 : decode cX4_add 65 = .ok (.iload_n 2, 1) := by decide +kernel
theorem dX4_add_66 : decode cX4_add 66 = .ok (.isub, 1) := by decide +kernel
theorem dX4_add_67 : decode cX4_add 67 = .ok (.iastore, 1) := by decide +kernel
theorem dX4_add_68 : decode cX4_add 68 = .ok (.aload_n 0, 1) := by decide +kernel
theorem dX4_add_69 : decode cX4_add 69 = .ok (.dup, 1) := by decide +kernel
theorem dX4_add_70 : decode cX4_add 70 = .ok (.getfield 19, 3) := by decide +kernel
theorem dX4_add_73 : decode cX4_add 73 = .ok (.iconst 1, 1) := by decide +kernel
theorem dX4_add_74 : decode cX4_add 74 = .ok (.iadd, 1) := by decide +kernel
theorem dX4_add_75 : decode cX4_add 75 = .ok (.putfield 19, 3) := by decide +kernel
theorem dX4_add_78 : decode cX4_add 78 = .ok (.return_, 1) := by decide +kernel
theorem dX4_letterAt_0 : decode cX4_letterAt 0 = .ok (.iload_n 2, 1) := by decide +kernel
theorem dX4_letterAt_1 : decode cX4_letterAt 1 = .ok (.ifCond .lt 13, 3) := by decide +kernel
theorem dX4_letterAt_4 : decode cX4_letterAt 4 = .ok (.iload_n 2, 1) := by decide +kernel
theorem dX4_letterAt_5 : decode cX4_letterAt 5 = .ok (.aload_n 0, 1) := by decide +kernel
theorem dX4_letterAt_6 : decode cX4_letterAt 6 = .ok (.getfield 15, 3) := by decide +kernel
theorem dX4_letterAt_9 : decode cX4_letterAt 9 = .ok (.iload_n 1, 1) := by decide +kernel
theorem dX4_letterAt_10 : decode cX4_letterAt 10 = .ok (.iaload, 1) := by decide +kernel
theorem dX4_letterAt_11 : decode cX4_letterAt 11 = .ok (.if_icmp .lt 7, 3) := by decide +kernel
theorem dX4_letterAt_14 : decode cX4_letterAt 14 = .ok (.iconst (-1), 1) := by decide +kernel
theorem dX4_letterAt_15 : decode cX4_letterAt 15 = .ok (.goto 14, 3) := by decide +kernel
theorem dX4_letterAt_18 : decode cX4_letterAt 18 = .ok (.aload_n 0, 1) := by decide +kernel
theorem dX4_letterAt_19 : decode cX4_letterAt 19 = .ok (.getfield 9, 3) := by decide +kernel
theorem dX4_letterAt_22 : decode cX4_letterAt 22 = .ok (.iload_n 1, 1) := by decide +kernel
theorem dX4_letterAt_23 : decode cX4_letterAt 23 = .ok (.bipush 6, 2) := by decide +kernel
theorem dX4_letterAt_25 : decode cX4_letterAt 25 = .ok (.imul, 1) := by decide +kernel
theorem dX4_letterAt_26 : decode cX4_letterAt 26 = .ok (.iload_n 2, 1) := by decide +kernel
theorem dX4_letterAt_27 : decode cX4_letterAt 27 = .ok (.iadd, 1) := by decide +kernel
theorem dX4_letterAt_28 : decode cX4_letterAt 28 = .ok (.baload, 1) := by decide +kernel
theorem dX4_letterAt_29 : decode cX4_letterAt 29 = .ok (.ireturn, 1) := by decide +kernel
theorem dX5_init_0 : decode cX5_init 0 = .ok (.aload_n 0, 1) := by decide +kernel
theorem dX5_init_1 : decode cX5_init 1 = .ok (.invokespecial 3, 3) := by decide +kernel
theorem dX5_init_4 : decode cX5_init 4 = .ok (.aload_n 0, 1) := by decide +kernel
theorem dX5_init_5 : decode cX5_init 5 = .ok (.sipush 400, 3) := by decide +kernel
theorem dX5_init_8 : decode cX5_init 8 = .ok (.newarray .byte, 2) := by decide +kernel
theorem dX5_init_10 : decode cX5_init 10 = .ok (.putfield 9, 3) := by decide +kernel
theorem dX5_init_13 : decode cX5_init 13 = .ok (.aload_n 0, 1) := by decide +kernel
theorem dX5_init_14 : decode cX5_init 14 = .ok (.iconst (-1), 1) := by decide +kernel
theorem dX5_init_15 : decode cX5_init 15 = .ok (.putfield 15, 3) := by decide +kernel
theorem dX5_init_18 : decode cX5_init 18 = .ok (.aload_n 0, 1) := by decide +kernel
theorem dX5_init_19 : decode cX5_init 19 = .ok (.aload_n 1, 1) := by decide +kernel
theorem dX5_init_20 : decode cX5_init 20 = .ok (.putfield 19, 3) := by decide +kernel
theorem dX5_init_23 : decode cX5_init 23 = .ok (.return_, 1) := by decide +kernel
theorem dX5_append_0 : decode cX5_append 0 = .ok (.bipush 24, 2) := by decide +kernel
theorem dX5_append_2 : decode cX5_append 2 = .ok (.istore_n 2, 1) := by decide +kernel
theorem dX5_append_3 : decode cX5_append 3 = .ok (.iload_n 2, 1) := by decide +kernel
theorem dX5_append_4 : decode cX5_append 4 = .ok (.ifCond .lt 42, 3) := by decide +kernel
theorem dX5_append_7 : decode cX5_append 7 = .ok (.aload_n 0, 1) := by decide +kernel
theorem dX5_append_8 : decode cX5_append 8 = .ok (.getfield 23, 3) := by decide +kernel
theorem dX5_append_11 : decode cX5_append 11 = .ok (.sipush 400, 3) := by decide +kernel
theorem dX5_append_14 : decode cX5_append 14 = .ok (.if_icmp .ge 26, 3) := by decide +kernel
theorem dX5_append_17 : decode cX5_append 17 = .ok (.aload_n 0, 1) := by decide +kernel
theorem dX5_append_18 : decode cX5_append 18 = .ok (.getfield 9, 3) := by decide +kernel
theorem dX5_append_21 : decode cX5_append 21 = .ok (.aload_n 0, 1) := by decide +kernel
theorem dX5_append_22 : decode cX5_append 22 = .ok (.getfield 23, 3) := by decide +kernel
theorem dX5_append_25 : decode cX5_append 25 = .ok (.iload_n 1, 1) := by decide +kernel
theorem dX5_append_26 : decode cX5_append 26 = .ok (.iload_n 2, 1) := by decide +kernel
theorem dX5_append_27 : decode cX5_append 27 = .ok (.ishr, 1) := by decide +kernel
theorem dX5_append_28 : decode cX5_append 28 = .ok (.i2b, 1) := by decide +kernel
theorem dX5_append_29 : decode cX5_append 29 = .ok (.bastore, 1) := by decide +kernel
theorem dX5_append_30 : decode cX5_append 30 = .ok (.aload_n 0, 1) := by decide +kernel
theorem dX5_append_31 : decode cX5_append 31 = .ok (.dup, 1) := by decide +kernel
theorem dX5_append_32 : decode cX5_append 32 = .ok (.getfield 23, 3) := by decide +kernel
theorem dX5_append_35 : decode cX5_append 35 = .ok (.iconst 1, 1) := by decide +kernel
theorem dX5_append_36 : decode cX5_append 36 = .ok (.iadd, 1) := by decide +kernel
theorem dX5_append_37 : decode cX5_append 37 = .ok (.putfield 23, 3) := by decide +kernel
theorem dX5_append_40 : decode cX5_append 40 = .ok (.iinc 2 (-8), 3) := by decide +kernel
theorem dX5_append_43 : decode cX5_append 43 = .ok (.goto (-40), 3) := by decide +kernel
theorem dX5_append_46 : decode cX5_append 46 = .ok (.return_, 1) := by decide +kernel
theorem dX5_parse_0 : decode cX5_parse 0 = .ok (.aload_n 0, 1) := by decide +kernel
theorem dX5_parse_1 : decode cX5_parse 1 = .ok (.aload_n 1, 1) := by decide +kernel
theorem dX5_parse_2 : decode cX5_parse 2 = .ok (.putfield 19, 3) := by decide +kernel
theorem dX5_parse_5 : decode cX5_parse 5 = .ok (.aload_n 0, 1) := by decide +kernel
theorem dX5_parse_6 : decode cX5_parse 6 = .ok (.getfield 19, 3) := by decide +kernel
theorem dX5_parse_9 : decode cX5_parse 9 = .ok (.invokevirtual 26, 3) := by decide +kernel
theorem dX5_parse_12 : decode cX5_parse 12 = .ok (.aload_n 0, 1) := by decide +kernel
theorem dX5_parse_13 : decode cX5_parse 13 = .ok (.iconst (-1), 1) := by decide +kernel
theorem dX5_parse_14 : decode cX5_parse 14 = .ok (.putfield 15, 3) := by decide +kernel
theorem dX5_parse_17 : decode cX5_parse 17 = .ok (.aload_n 0, 1) := by decide +kernel
theorem dX5_parse_18 : decode cX5_parse 18 = .ok (.iconst 0, 1) := by decide +kernel
theorem dX5_parse_19 : decode cX5_parse 19 = .ok (.putfield 31, 3) := by decide +kernel
theorem dX5_parse_22 : decode cX5_parse 22 = .ok (.aload_n 0, 1) := by decide +kernel
theorem dX5_parse_23 : decode cX5_parse 23 = .ok (.invokevirtual 34, 3) := by decide +kernel
theorem dX5_parse_26 : decode cX5_parse 26 = .ok (.iconst 0, 1) := by decide +kernel
theorem dX5_parse_27 : decode cX5_parse 27 = .ok (.istore_n 2, 1) := by decide +kernel
theorem dX5_parse_28 : decode cX5_parse 28 = .ok (.iload_n 2, 1) := by decide +kernel
theorem dX5_parse_29 : decode cX5_parse 29 = .ok (.sipush 400, 3) := by decide +kernel
theorem dX5_parse_32 : decode cX5_parse 32 = .ok (.if_icmp .ge 37, 3) := by decide +kernel
theorem dX5_parse_35 : decode cX5_parse 35 = .ok (.aload_n 0, 1) := by decide +kernel
theorem dX5_parse_36 : decode cX5_parse 36 = .ok (.getfield 37, 3) := by decide +kernel
theorem dX5_parse_39 : decode cX5_parse 39 = .ok (.sipush 258, 3) := by decide +kernel
theorem dX5_parse_42 : decode cX5_parse 42 = .ok (.if_icmp .eq 27, 3) := by decide +kernel
theorem dX5_parse_45 : decode cX5_parse 45 = .ok (.aload_n 0, 1) := by decide +kernel
theorem dX5_parse_46 : decode cX5_parse 46 = .ok (.getfield 15, 3) := by decide +kernel
theorem dX5_parse_49 : decode cX5_parse 49 = .ok (.iconst (-1), 1) := by decide +kernel
theorem dX5_parse_50 : decode cX5_parse 50 = .ok (.if_icmp .ne 19, 3) := by decide +kernel
theorem dX5_parse_53 : decode cX5_parse 53 = .ok (.aload_n 0, 1) := by decide +kernel
theorem dX5_parse_54 : decode cX5_parse 54 = .ok (.invokevirtual 40, 3) := by decide +kernel
theorem dX5_parse_57 : decode cX5_parse 57 = .ok (.aload_n 0, 1) := by decide +kernel
theorem dX5_parse_58 : decode cX5_parse 58 = .ok (.bipush 59, 2) := by decide +kernel
theorem dX5_parse_60 : decode cX5_parse 60 = .ok (.invokevirtual 43, 3) := by decide +kernel
theorem dX5_parse_63 : decode cX5_parse 63 = .ok (.iinc 2 1, 3) := by decide +kernel
theorem dX5_parse_66 : decode cX5_parse 66 = .ok (.goto (-38), 3) := by decide +kernel
theorem dX5_parse_69 : decode cX5_parse 69 = .ok (.aload_n 0, 1) := by decide +kernel
theorem dX5_parse_70 : decode cX5_parse 70 = .ok (.getfield 15, 3) := by decide +kernel
theorem dX5_parse_73 : decode cX5_parse 73 = .ok (.iconst (-1), 1) := by decide +kernel
theorem dX5_parse_74 : decode cX5_parse 74 = .ok (.if_icmp .ne 10, 3) := by decide +kernel
theorem dX5_parse_77 : decode cX5_parse 77 = .ok (.aload_n 0, 1) := by decide +kernel
theorem dX5_parse_78 : decode cX5_parse 78 = .ok (.getfield 19, 3) := by decide +kernel
theorem dX5_parse_81 : decode cX5_parse 81 = .ok (.invokevirtual 47, 3) := by decide +kernel
theorem dX5_parse_84 : decode cX5_parse 84 = .ok (.return_, 1) := by decide +kernel
theorem dX5_line_0 : decode cX5_line 0 = .ok (.aload_n 0, 1) := by decide +kernel
theorem dX5_line_1 : decode cX5_line 1 = .ok (.invokevirtual 50, 3) := by decide +kernel
theorem dX5_line_4 : decode cX5_line 4 = .ok (.tableswitch 106 0 7 #[48, 55, 62, 69, 76, 83, 90, 98], 48) := by decide +kernel
theorem dX5_line_52 : decode cX5_line 52 = .ok (.aload_n 0, 1) := by decide +kernel
theorem dX5_line_53 : decode cX5_line 53 = .ok (.invokevirtual 54, 3) := by decide +kernel
theorem dX5_line_56 : decode cX5_line 56 = .ok (.goto 58, 3) := by decide +kernel
theorem dX5_line_59 : decode cX5_line 59 = .ok (.aload_n 0, 1) := by decide +kernel
theorem dX5_line_60 : decode cX5_line 60 = .ok (.invokevirtual 57, 3) := by decide +kernel
theorem dX5_line_63 : decode cX5_line 63 = .ok (.goto 51, 3) := by decide +kernel
theorem dX5_line_66 : decode cX5_line 66 = .ok (.aload_n 0, 1) := by decide +kernel
theorem dX5_line_67 : decode cX5_line 67 = .ok (.invokevirtual 60, 3) := by decide +kernel
theorem dX5_line_70 : decode cX5_line 70 = .ok (.goto 44, 3) := by decide +kernel
theorem dX5_line_73 : decode cX5_line 73 = .ok (.aload_n 0, 1) := by decide +kernel
theorem dX5_line_74 : decode cX5_line 74 = .ok (.invokevirtual 63, 3) := by decide +kernel
theorem dX5_line_77 : decode cX5_line 77 = .ok (.goto 37, 3) := by decide +kernel
theorem dX5_line_80 : decode cX5_line 80 = .ok (.aload_n 0, 1) := by decide +kernel
theorem dX5_line_81 : decode cX5_line 81 = .ok (.invokevirtual 66, 3) := by decide +kernel
theorem dX5_line_84 : decode cX5_line 84 = .ok (.goto 30, 3) := by decide +kernel
theorem dX5_line_87 : decode cX5_line 87 = .ok (.aload_n 0, 1) := by decide +kernel
theorem dX5_line_88 : decode cX5_line 88 = .ok (.invokevirtual 69, 3) := by decide +kernel
theorem dX5_line_91 : decode cX5_line 91 = .ok (.goto 23, 3) := by decide +kernel
theorem dX5_line_94 : decode cX5_line 94 = .ok (.aload_n 0, 1) := by decide +kernel
theorem dX5_line_95 : decode cX5_line 95 = .ok (.iconst 4, 1) := by decide +kernel
theorem dX5_line_96 : decode cX5_line 96 = .ok (.invokevirtual 72, 3) := by decide +kernel
theorem dX5_line_99 : decode cX5_line 99 = .ok (.goto 15, 3) := by decide +kernel
theorem dX5_line_102 : decode cX5_line 102 = .ok (.aload_n 0, 1) := by decide +kernel
theorem dX5_line_103 : decode cX5_line 103 = .ok (.iconst 5, 1) := by decide +kernel
theorem dX5_line_104 : decode cX5_line 104 = .ok (.invokevirtual 72, 3) := by decide +kernel
theorem dX5_line_107 : decode cX5_line 107 = .ok (.goto 7, 3) := by decide +kernel
theorem dX5_line_110 : decode cX5_line 110 = .ok (.aload_n 0, 1) := by decide +kernel
theorem dX5_line_111 : decode cX5_line 111 = .ok (.invokevirtual 75, 3) := by decide +kernel
theorem dX5_line_114 : decode cX5_line 114 = .ok (.return_, 1) := by decide +kernel
theorem dX5_modelLine_0 : decode cX5_modelLine 0 = .ok (.aload_n 0, 1) := by decide +kernel
theorem dX5_modelLine_1 : decode cX5_modelLine 1 = .ok (.getfield 19, 3) := by decide +kernel
theorem dX5_modelLine_4 : decode cX5_modelLine 4 = .ok (.getfield 78, 3) := by decide +kernel
theorem dX5_modelLine_7 : decode cX5_modelLine 7 = .ok (.getfield 82, 3) := by decide +kernel
theorem dX5_modelLine_10 : decode cX5_modelLine 10 = .ok (.istore_n 1, 1) := by decide +kernel
theorem dX5_modelLine_11 : decode cX5_modelLine 11 = .ok (.iload_n 1, 1) := by decide +kernel
theorem dX5_modelLine_12 : decode cX5_modelLine 12 = .ok (.bipush 6, 2) := by decide +kernel
theorem dX5_modelLine_14 : decode cX5_modelLine 14 = .ok (.if_icmp .lt 8, 3) := by decide +kernel
theorem dX5_modelLine_17 : decode cX5_modelLine 17 = .ok (.aload_n 0, 1) := by decide +kernel
theorem dX5_modelLine_18 : decode cX5_modelLine 18 = .ok (.invokevirtual 75, 3) := by decide +kernel
theorem dX5_modelLine_21 : decode cX5_modelLine 21 = .ok (.return_, 1) := by decide +kernel
theorem dX5_modelLine_22 : decode cX5_modelLine 22 = .ok (.aload_n 0, 1) := by decide +kernel
theorem dX5_modelLine_23 : decode cX5_modelLine 23 = .ok (.invokevirtual 34, 3) := by decide +kernel
theorem dX5_modelLine_26 : decode cX5_modelLine 26 = .ok (.aload_n 0, 1) := by decide +kernel
theorem dX5_modelLine_27 : decode cX5_modelLine 27 = .ok (.aload_n 0, 1) := by decide +kernel
theorem dX5_modelLine_28 : decode cX5_modelLine 28 = .ok (.getfield 19, 3) := by decide +kernel
theorem dX5_modelLine_31 : decode cX5_modelLine 31 = .ok (.getfield 78, 3) := by decide +kernel
theorem dX5_modelLine_34 : decode cX5_modelLine 34 = .ok (.invokevirtual 87, 3) := by decide +kernel
theorem dX5_modelLine_37 : decode cX5_modelLine 37 = .ok (.aload_n 0, 1) := by decide +kernel
theorem dX5_modelLine_38 : decode cX5_modelLine 38 = .ok (.getfield 19, 3) := by decide +kernel
theorem dX5_modelLine_41 : decode cX5_modelLine 41 = .ok (.getfield 91, 3) := by decide +kernel
theorem dX5_modelLine_44 : decode cX5_modelLine 44 = .ok (.iload_n 1, 1) := by decide +kernel
theorem dX5_modelLine_45 : decode cX5_modelLine 45 = .ok (.aload_n 0, 1) := by decide +kernel
theorem dX5_modelLine_46 : decode cX5_modelLine 46 = .ok (.iconst 1, 1) := by decide +kernel
theorem dX5_modelLine_47 : decode cX5_modelLine 47 = .ok (.sipush 9999, 3) := by decide +kernel
theorem dX5_modelLine_50 : decode cX5_modelLine 50 = .ok (.invokevirtual 95, 3) := by decide +kernel
theorem dX5_modelLine_53 : decode cX5_modelLine 53 = .ok (.iastore, 1) := by decide +kernel
theorem dX5_modelLine_54 : decode cX5_modelLine 54 = .ok (.aload_n 0, 1) := by decide +kernel
theorem dX5_modelLine_55 : decode cX5_modelLine 55 = .ok (.getfield 19, 3) := by decide +kernel
theorem dX5_modelLine_58 : decode cX5_modelLine 58 = .ok (.getfield 99, 3) := by decide +kernel
theorem dX5_modelLine_61 : decode cX5_modelLine 61 = .ok (.iload_n 1, 1) := by decide +kernel
theorem dX5_modelLine_62 : decode cX5_modelLine 62 = .ok (.aload_n 0, 1) := by decide +kernel
theorem dX5_modelLine_63 : decode cX5_modelLine 63 = .ok (.iconst 0, 1) := by decide +kernel
theorem dX5_modelLine_64 : decode cX5_modelLine 64 = .ok (.bipush 99, 2) := by decide +kernel
theorem dX5_modelLine_66 : decode cX5_modelLine 66 = .ok (.invokevirtual 95, 3) := by decide +kernel
theorem dX5_modelLine_69 : decode cX5_modelLine 69 = .ok (.iastore, 1) := by decide +kernel
theorem dX5_modelLine_70 : decode cX5_modelLine 70 = .ok (.aload_n 0, 1) := by decide +kernel
theorem dX5_modelLine_71 : decode cX5_modelLine 71 = .ok (.getfield 19, 3) := by decide +kernel
theorem dX5_modelLine_74 : decode cX5_modelLine 74 = .ok (.getfield 102, 3) := by decide +kernel
theorem dX5_modelLine_77 : decode cX5_modelLine 77 = .ok (.iload_n 1, 1) := by decide +kernel
theorem dX5_modelLine_78 : decode cX5_modelLine 78 = .ok (.aload_n 0, 1) := by decide +kernel
theorem dX5_modelLine_79 : decode cX5_modelLine 79 = .ok (.iconst 0, 1) := by decide +kernel
theorem dX5_modelLine_80 : decode cX5_modelLine 80 = .ok (.sipush 9999, 3) := by decide +kernel
theorem dX5_modelLine_83 : decode cX5_modelLine 83 = .ok (.invokevirtual 95, 3) := by decide +kernel
theorem dX5_modelLine_86 : decode cX5_modelLine 86 = .ok (.iastore, 1) := by decide +kernel
theorem dX5_modelLine_87 : decode cX5_modelLine 87 = .ok (.return_, 1) := by decide +kernel
theorem dX5_firmLine_0 : decode cX5_firmLine 0 = .ok (.aload_n 0, 1) := by decide +kernel
theorem dX5_firmLine_1 : decode cX5_firmLine 1 = .ok (.getfield 19, 3) := by decide +kernel
theorem dX5_firmLine_4 : decode cX5_firmLine 4 = .ok (.getfield 105, 3) := by decide +kernel
theorem dX5_firmLine_7 : decode cX5_firmLine 7 = .ok (.getfield 82, 3) := by decide +kernel
theorem dX5_firmLine_10 : decode cX5_firmLine 10 = .ok (.iconst 4, 1) := by decide +kernel
theorem dX5_firmLine_11 : decode cX5_firmLine 11 = .ok (.if_icmp .lt 8, 3) := by decide +kernel
theorem dX5_firmLine_14 : decode cX5_firmLine 14 = .ok (.aload_n 0, 1) := by decide +kernel
theorem dX5_firmLine_15 : decode cX5_firmLine 15 = .ok (.invokevirtual 75, 3) := by decide +kernel
theorem dX5_firmLine_18 : decode cX5_firmLine 18 = .ok (.return_, 1) := by decide +kernel
theorem dX5_firmLine_19 : decode cX5_firmLine 19 = .ok (.aload_n 0, 1) := by decide +kernel
theorem dX5_firmLine_20 : decode cX5_firmLine 20 = .ok (.invokevirtual 34, 3) := by decide +kernel
theorem dX5_firmLine_23 : decode cX5_firmLine 23 = .ok (.aload_n 0, 1) := by decide +kernel
theorem dX5_firmLine_24 : decode cX5_firmLine 24 = .ok (.aload_n 0, 1) := by decide +kernel
theorem dX5_firmLine_25 : decode cX5_firmLine 25 = .ok (.getfield 19, 3) := by decide +kernel
theorem dX5_firmLine_28 : decode cX5_firmLine 28 = .ok (.getfield 105, 3) := by decide +kernel
theorem dX5_firmLine_31 : decode cX5_firmLine 31 = .ok (.invokevirtual 87, 3) := by decide +kernel
theorem dX5_firmLine_34 : decode cX5_firmLine 34 = .ok (.return_, 1) := by decide +kernel
theorem dX5_silentLine_0 : decode cX5_silentLine 0 = .ok (.aload_n 0, 1) := by decide +kernel
theorem dX5_silentLine_1 : decode cX5_silentLine 1 = .ok (.invokevirtual 34, 3) := by decide +kernel
theorem dX5_silentLine_4 : decode cX5_silentLine 4 = .ok (.aload_n 0, 1) := by decide +kernel
theorem dX5_silentLine_5 : decode cX5_silentLine 5 = .ok (.aload_n 0, 1) := by decide +kernel
theorem dX5_silentLine_6 : decode cX5_silentLine 6 = .ok (.getfield 19, 3) := by decide +kernel
theorem dX5_silentLine_9 : decode cX5_silentLine 9 = .ok (.getfield 105, 3) := by decide +kernel
theorem dX5_silentLine_12 : decode cX5_silentLine 12 = .ok (.invokevirtual 108, 3) := by decide +kernel
theorem dX5_silentLine_15 : decode cX5_silentLine 15 = .ok (.istore_n 1, 1) := by decide +kernel
theorem dX5_silentLine_16 : decode cX5_silentLine 16 = .ok (.aload_n 0, 1) := by decide +kernel
theorem dX5_silentLine_17 : decode cX5_silentLine 17 = .ok (.getfield 15, 3) := by decide +kernel
theorem dX5_silentLine_20 : decode cX5_silentLine 20 = .ok (.iconst (-1), 1) := by decide +kernel
theorem dX5_silentLine_21 : decode cX5_silentLine 21 = .ok (.if_icmp .ne 13, 3) := by decide +kernel
theorem dX5_silentLine_24 : decode cX5_silentLine 24 = .ok (.aload_n 0, 1) := by decide +kernel
theorem dX5_silentLine_25 : decode cX5_silentLine 25 = .ok (.getfield 19, 3) := by decide +kernel
theorem dX5_silentLine_28 : decode cX5_silentLine 28 = .ok (.getfield 112, 3) := by decide +kernel
theorem dX5_silentLine_31 : decode cX5_silentLine 31 = .ok (.iload_n 1, 1) := by decide +kernel
theorem dX5_silentLine_32 : decode cX5_silentLine 32 = .ok (.iconst 1, 1) := by decide +kernel
theorem dX5_silentLine_33 : decode cX5_silentLine 33 = .ok (.bastore, 1) := by decide +kernel
theorem dX5_silentLine_34 : decode cX5_silentLine 34 = .ok (.return_, 1) := by decide +kernel
theorem dX5_costLine_0 : decode cX5_costLine 0 = .ok (.aload_n 0, 1) := by decide +kernel
theorem dX5_costLine_1 : decode cX5_costLine 1 = .ok (.invokevirtual 34, 3) := by decide +kernel
theorem dX5_costLine_4 : decode cX5_costLine 4 = .ok (.aload_n 0, 1) := by decide +kernel
theorem dX5_costLine_5 : decode cX5_costLine 5 = .ok (.aload_n 0, 1) := by decide +kernel
theorem dX5_costLine_6 : decode cX5_costLine 6 = .ok (.getfield 19, 3) := by decide +kernel
theorem dX5_costLine_9 : decode cX5_costLine 9 = .ok (.getfield 105, 3) := by decide +kernel
theorem dX5_costLine_12 : decode cX5_costLine 12 = .ok (.invokevirtual 108, 3) := by decide +kernel
theorem dX5_costLine_15 : decode cX5_costLine 15 = .ok (.istore_n 1, 1) := by decide +kernel
theorem dX5_costLine_16 : decode cX5_costLine 16 = .ok (.aload_n 0, 1) := by decide +kernel
theorem dX5_costLine_17 : decode cX5_costLine 17 = .ok (.aload_n 0, 1) := by decide +kernel
theorem dX5_costLine_18 : decode cX5_costLine 18 = .ok (.getfield 19, 3) := by decide +kernel
theorem dX5_costLine_21 : decode cX5_costLine 21 = .ok (.getfield 78, 3) := by decide +kernel
theorem dX5_costLine_24 : decode cX5_costLine 24 = .ok (.invokevirtual 108, 3) := by decide +kernel
theorem dX5_costLine_27 : decode cX5_costLine 27 = .ok (.istore_n 2, 1) := by decide +kernel
theorem dX5_costLine_28 : decode cX5_costLine 28 = .ok (.aload_n 0, 1) := by decide +kernel
theorem dX5_costLine_29 : decode cX5_costLine 29 = .ok (.iconst 1, 1) := by decide +kernel
theorem dX5_costLine_30 : decode cX5_costLine 30 = .ok (.sipush 9999, 3) := by decide +kernel
theorem dX5_costLine_33 : decode cX5_costLine 33 = .ok (.invokevirtual 95, 3) := by decide +kernel
theorem dX5_costLine_36 : decode cX5_costLine 36 = .ok (.istore_n 3, 1) := by decide +kernel
theorem dX5_costLine_37 : decode cX5_costLine 37 = .ok (.aload_n 0, 1) := by decide +kernel
theorem dX5_costLine_38 : decode cX5_costLine 38 = .ok (.getfield 15, 3) := by decide +kernel
theorem dX5_costLine_41 : decode cX5_costLine 41 = .ok (.iconst (-1), 1) := by decide +kernel
theorem dX5_costLine_42 : decode cX5_costLine 42 = .ok (.if_icmp .ne 18, 3) := by decide +kernel
theorem dX5_costLine_45 : decode cX5_costLine 45 = .ok (.aload_n 0, 1) := by decide +kernel
theorem dX5_costLine_46 : decode cX5_costLine 46 = .ok (.getfield 19, 3) := by decide +kernel
theorem dX5_costLine_49 : decode cX5_costLine 49 = .ok (.getfield 116, 3) := by decide +kernel
theorem dX5_costLine_52 : decode cX5_costLine 52 = .ok (.iload_n 1, 1) := by decide +kernel
theorem dX5_costLine_53 : decode cX5_costLine 53 = .ok (.bipush 6, 2) := by decide +kernel
theorem dX5_costLine_55 : decode cX5_costLine 55 = .ok (.imul, 1) := by decide +kernel
theorem dX5_costLine_56 : decode cX5_costLine 56 = .ok (.iload_n 2, 1) := by decide +kernel
theorem dX5_costLine_57 : decode cX5_costLine 57 = .ok (.iadd, 1) := by decide +kernel
theorem dX5_costLine_58 : decode cX5_costLine 58 = .ok (.iload_n 3, 1) := by decide +kernel
theorem dX5_costLine_59 : decode cX5_costLine 59 = .ok (.iastore, 1) := by decide +kernel
theorem dX5_costLine_60 : decode cX5_costLine 60 = .ok (.return_, 1) := by decide +kernel
theorem dX5_adjustLine_0 : decode cX5_adjustLine 0 = .ok (.aload_n 0, 1) := by decide +kernel
theorem dX5_adjustLine_1 : decode cX5_adjustLine 1 = .ok (.invokevirtual 34, 3) := by decide +kernel
theorem dX5_adjustLine_4 : decode cX5_adjustLine 4 = .ok (.aload_n 0, 1) := by decide +kernel
theorem dX5_adjustLine_5 : decode cX5_adjustLine 5 = .ok (.invokevirtual 119, 3) := by decide +kernel
theorem dX5_adjustLine_8 : decode cX5_adjustLine 8 = .ok (.istore_n 1, 1) := by decide +kernel
theorem dX5_adjustLine_9 : decode cX5_adjustLine 9 = .ok (.aload_n 0, 1) := by decide +kernel
theorem dX5_adjustLine_10 : decode cX5_adjustLine 10 = .ok (.getfield 19, 3) := by decide +kernel
theorem dX5_adjustLine_13 : decode cX5_adjustLine 13 = .ok (.getfield 122, 3) := by decide +kernel
theorem dX5_adjustLine_16 : decode cX5_adjustLine 16 = .ok (.getfield 126, 3) := by decide +kernel
theorem dX5_adjustLine_19 : decode cX5_adjustLine 19 = .ok (.istore_n 2, 1) := by decide +kernel
theorem dX5_adjustLine_20 : decode cX5_adjustLine 20 = .ok (.aload_n 0, 1) := by decide +kernel
theorem dX5_adjustLine_21 : decode cX5_adjustLine 21 = .ok (.iconst 0, 1) := by decide +kernel
theorem dX5_adjustLine_22 : decode cX5_adjustLine 22 = .ok (.invokevirtual 129, 3) := by decide +kernel
theorem dX5_adjustLine_25 : decode cX5_adjustLine 25 = .ok (.aload_n 0, 1) := by decide +kernel
theorem dX5_adjustLine_26 : decode cX5_adjustLine 26 = .ok (.getfield 15, 3) := by decide +kernel
theorem dX5_adjustLine_29 : decode cX5_adjustLine 29 = .ok (.iconst (-1), 1) := by decide +kernel
theorem dX5_adjustLine_30 : decode cX5_adjustLine 30 = .ok (.if_icmp .ne 15, 3) := by decide +kernel
theorem dX5_adjustLine_33 : decode cX5_adjustLine 33 = .ok (.aload_n 0, 1) := by decide +kernel
theorem dX5_adjustLine_34 : decode cX5_adjustLine 34 = .ok (.getfield 19, 3) := by decide +kernel
theorem dX5_adjustLine_37 : decode cX5_adjustLine 37 = .ok (.getfield 122, 3) := by decide +kernel
theorem dX5_adjustLine_40 : decode cX5_adjustLine 40 = .ok (.iload_n 1, 1) := by decide +kernel
theorem dX5_adjustLine_41 : decode cX5_adjustLine 41 = .ok (.iload_n 2, 1) := by decide +kernel
theorem dX5_adjustLine_42 : decode cX5_adjustLine 42 = .ok (.invokevirtual 132, 3) := by decide +kernel
theorem dX5_adjustLine_45 : decode cX5_adjustLine 45 = .ok (.return_, 1) := by decide +kernel
theorem dX5_sellLine_0 : decode cX5_sellLine 0 = .ok (.aload_n 0, 1) := by decide +kernel
theorem dX5_sellLine_1 : decode cX5_sellLine 1 = .ok (.getfield 19, 3) := by decide +kernel
theorem dX5_sellLine_4 : decode cX5_sellLine 4 = .ok (.getfield 136, 3) := by decide +kernel
theorem dX5_sellLine_7 : decode cX5_sellLine 7 = .ok (.getfield 140, 3) := by decide +kernel
theorem dX5_sellLine_10 : decode cX5_sellLine 10 = .ok (.bipush 40, 2) := by decide +kernel
theorem dX5_sellLine_12 : decode cX5_sellLine 12 = .ok (.if_icmp .lt 8, 3) := by decide +kernel
theorem dX5_sellLine_15 : decode cX5_sellLine 15 = .ok (.aload_n 0, 1) := by decide +kernel
theorem dX5_sellLine_16 : decode cX5_sellLine 16 = .ok (.invokevirtual 75, 3) := by decide +kernel
theorem dX5_sellLine_19 : decode cX5_sellLine 19 = .ok (.return_, 1) := by decide +kernel
theorem dX5_sellLine_20 : decode cX5_sellLine 20 = .ok (.aload_n 0, 1) := by decide +kernel
theorem dX5_sellLine_21 : decode cX5_sellLine 21 = .ok (.invokevirtual 34, 3) := by decide +kernel
theorem dX5_sellLine_24 : decode cX5_sellLine 24 = .ok (.aload_n 0, 1) := by decide +kernel
theorem dX5_sellLine_25 : decode cX5_sellLine 25 = .ok (.invokevirtual 119, 3) := by decide +kernel
theorem dX5_sellLine_28 : decode cX5_sellLine 28 = .ok (.istore_n 1, 1) := by decide +kernel
theorem dX5_sellLine_29 : decode cX5_sellLine 29 = .ok (.aload_n 0, 1) := by decide +kernel
theorem dX5_sellLine_30 : decode cX5_sellLine 30 = .ok (.aload_n 0, 1) := by decide +kernel
theorem dX5_sellLine_31 : decode cX5_sellLine 31 = .ok (.getfield 19, 3) := by decide +kernel
theorem dX5_sellLine_34 : decode cX5_sellLine 34 = .ok (.getfield 105, 3) := by decide +kernel
theorem dX5_sellLine_37 : decode cX5_sellLine 37 = .ok (.invokevirtual 108, 3) := by decide +kernel
theorem dX5_sellLine_40 : decode cX5_sellLine 40 = .ok (.istore_n 2, 1) := by decide +kernel
theorem dX5_sellLine_41 : decode cX5_sellLine 41 = .ok (.aload_n 0, 1) := by decide +kernel
theorem dX5_sellLine_42 : decode cX5_sellLine 42 = .ok (.aload_n 0, 1) := by decide +kernel
theorem dX5_sellLine_43 : decode cX5_sellLine 43 = .ok (.getfield 19, 3) := by decide +kernel
theorem dX5_sellLine_46 : decode cX5_sellLine 46 = .ok (.getfield 78, 3) := by decide +kernel
theorem dX5_sellLine_49 : decode cX5_sellLine 49 = .ok (.invokevirtual 108, 3) := by decide +kernel
theorem dX5_sellLine_52 : decode cX5_sellLine 52 = .ok (.istore_n 3, 1) := by decide +kernel
theorem dX5_sellLine_53 : decode cX5_sellLine 53 = .ok (.aload_n 0, 1) := by decide +kernel
theorem dX5_sellLine_54 : decode cX5_sellLine 54 = .ok (.iconst 0, 1) := by decide +kernel
theorem dX5_sellLine_55 : decode cX5_sellLine 55 = .ok (.iconst 3, 1) := by decide +kernel
theorem dX5_sellLine_56 : decode cX5_sellLine 56 = .ok (.invokevirtual 95, 3) := by decide +kernel
theorem dX5_sellLine_59 : decode cX5_sellLine 59 = .ok (.istore 4, 2) := by decide +kernel
theorem dX5_sellLine_61 : decode cX5_sellLine 61 = .ok (.aload_n 0, 1) := by decide +kernel
theorem dX5_sellLine_62 : decode cX5_sellLine 62 = .ok (.iconst 0, 1) := by decide +kernel
theorem dX5_sellLine_63 : decode cX5_sellLine 63 = .ok (.bipush 11, 2) := by decide +kernel
theorem dX5_sellLine_65 : decode cX5_sellLine 65 = .ok (.invokevirtual 95, 3) := by decide +kernel
theorem dX5_sellLine_68 : decode cX5_sellLine 68 = .ok (.istore 5, 2) := by decide +kernel
theorem dX5_sellLine_70 : decode cX5_sellLine 70 = .ok (.aload_n 0, 1) := by decide +kernel
theorem dX5_sellLine_71 : decode cX5_sellLine 71 = .ok (.iconst 1, 1) := by decide +kernel
theorem dX5_sellLine_72 : decode cX5_sellLine 72 = .ok (.sipush 999, 3) := by decide +kernel
theorem dX5_sellLine_75 : decode cX5_sellLine 75 = .ok (.invokevirtual 95, 3) := by decide +kernel
theorem dX5_sellLine_78 : decode cX5_sellLine 78 = .ok (.istore 6, 2) := by decide +kernel
theorem dX5_sellLine_80 : decode cX5_sellLine 80 = .ok (.aload_n 0, 1) := by decide +kernel
theorem dX5_sellLine_81 : decode cX5_sellLine 81 = .ok (.iconst 1, 1) := by decide +kernel
theorem dX5_sellLine_82 : decode cX5_sellLine 82 = .ok (.sipush 9999, 3) := by decide +kernel
theorem dX5_sellLine_85 : decode cX5_sellLine 85 = .ok (.invokevirtual 95, 3) := by decide +kernel
theorem dX5_sellLine_88 : decode cX5_sellLine 88 = .ok (.istore 7, 2) := by decide +kernel
theorem dX5_sellLine_90 : decode cX5_sellLine 90 = .ok (.aload_n 0, 1) := by decide +kernel
theorem dX5_sellLine_91 : decode cX5_sellLine 91 = .ok (.getfield 15, 3) := by decide +kernel
theorem dX5_sellLine_94 : decode cX5_sellLine 94 = .ok (.iconst (-1), 1) := by decide +kernel
theorem dX5_sellLine_95 : decode cX5_sellLine 95 = .ok (.if_icmp .ne 24, 3) := by decide +kernel
theorem dX5_sellLine_98 : decode cX5_sellLine 98 = .ok (.aload_n 0, 1) := by decide +kernel
theorem dX5_sellLine_99 : decode cX5_sellLine 99 = .ok (.getfield 19, 3) := by decide +kernel
theorem dX5_sellLine_102 : decode cX5_sellLine 102 = .ok (.getfield 136, 3) := by decide +kernel
theorem dX5_sellLine_105 : decode cX5_sellLine 105 = .ok (.iload_n 1, 1) := by decide +kernel
theorem dX5_sellLine_106 : decode cX5_sellLine 106 = .ok (.iload_n 2, 1) := by decide +kernel
theorem dX5_sellLine_107 : decode cX5_sellLine 107 = .ok (.iload_n 3, 1) := by decide +kernel
theorem dX5_sellLine_108 : decode cX5_sellLine 108 = .ok (.iload 4, 2) := by decide +kernel
theorem dX5_sellLine_110 : decode cX5_sellLine 110 = .ok (.iload 5, 2) := by decide +kernel
theorem dX5_sellLine_112 : decode cX5_sellLine 112 = .ok (.iload 6, 2) := by decide +kernel
theorem dX5_sellLine_114 : decode cX5_sellLine 114 = .ok (.iload 7, 2) := by decide +kernel
theorem dX5_sellLine_116 : decode cX5_sellLine 116 = .ok (.invokevirtual 143, 3) := by decide +kernel
theorem dX5_sellLine_119 : decode cX5_sellLine 119 = .ok (.return_, 1) := by decide +kernel
theorem dX5_settingLine_0 : decode cX5_settingLine 0 = .ok (.aload_n 0, 1) := by decide +kernel
theorem dX5_settingLine_1 : decode cX5_settingLine 1 = .ok (.invokevirtual 34, 3) := by decide +kernel
theorem dX5_settingLine_4 : decode cX5_settingLine 4 = .ok (.aload_n 0, 1) := by decide +kernel
theorem dX5_settingLine_5 : decode cX5_settingLine 5 = .ok (.getfield 19, 3) := by decide +kernel
theorem dX5_settingLine_8 : decode cX5_settingLine 8 = .ok (.getfield 147, 3) := by decide +kernel
theorem dX5_settingLine_11 : decode cX5_settingLine 11 = .ok (.iload_n 1, 1) := by decide +kernel
theorem dX5_settingLine_12 : decode cX5_settingLine 12 = .ok (.aload_n 0, 1) := by decide +kernel
theorem dX5_settingLine_13 : decode cX5_settingLine 13 = .ok (.iconst 0, 1) := by decide +kernel
theorem dX5_settingLine_14 : decode cX5_settingLine 14 = .ok (.bipush 99, 2) := by decide +kernel
theorem dX5_settingLine_16 : decode cX5_settingLine 16 = .ok (.invokevirtual 95, 3) := by decide +kernel
theorem dX5_settingLine_19 : decode cX5_settingLine 19 = .ok (.iastore, 1) := by decide +kernel
theorem dX5_settingLine_20 : decode cX5_settingLine 20 = .ok (.return_, 1) := by decide +kernel
theorem dX5_readSum_0 : decode cX5_readSum 0 = .ok (.aload_n 0, 1) := by decide +kernel
theorem dX5_readSum_1 : decode cX5_readSum 1 = .ok (.iload_n 1, 1) := by decide +kernel
theorem dX5_readSum_2 : decode cX5_readSum 2 = .ok (.invokevirtual 150, 3) := by decide +kernel
theorem dX5_readSum_5 : decode cX5_readSum 5 = .ok (.iconst 0, 1) := by decide +kernel
theorem dX5_readSum_6 : decode cX5_readSum 6 = .ok (.istore_n 2, 1) := by decide +kernel
theorem dX5_readSum_7 : decode cX5_readSum 7 = .ok (.iload_n 2, 1) := by decide +kernel
theorem dX5_readSum_8 : decode cX5_readSum 8 = .ok (.sipush 400, 3) := by decide +kernel
theorem dX5_readSum_11 : decode cX5_readSum 11 = .ok (.if_icmp .ge 72, 3) := by decide +kernel
theorem dX5_readSum_14 : decode cX5_readSum 14 = .ok (.aload_n 0, 1) := by decide +kernel
theorem dX5_readSum_15 : decode cX5_readSum 15 = .ok (.getfield 15, 3) := by decide +kernel
theorem dX5_readSum_18 : decode cX5_readSum 18 = .ok (.iconst (-1), 1) := by decide +kernel
theorem dX5_readSum_19 : decode cX5_readSum 19 = .ok (.if_icmp .ne 64, 3) := by decide +kernel
theorem dX5_readSum_22 : decode cX5_readSum 22 = .ok (.aload_n 0, 1) := by decide +kernel
theorem dX5_readSum_23 : decode cX5_readSum 23 = .ok (.getfield 37, 3) := by decide +kernel
theorem dX5_readSum_26 : decode cX5_readSum 26 = .ok (.bipush 43, 2) := by decide +kernel
theorem dX5_readSum_28 : decode cX5_readSum 28 = .ok (.if_icmp .eq 12, 3) := by decide +kernel
theorem dX5_readSum_31 : decode cX5_readSum 31 = .ok (.aload_n 0, 1) := by decide +kernel
theorem dX5_readSum_32 : decode cX5_readSum 32 = .ok (.getfield 37, 3) := by decide +kernel
theorem dX5_readSum_35 : decode cX5_readSum 35 = .ok (.bipush 45, 2) := by decide +kernel
theorem dX5_readSum_37 : decode cX5_readSum 37 = .ok (.if_icmp .ne 46, 3) := by decide +kernel
theorem dX5_readSum_40 : decode cX5_readSum 40 = .ok (.aload_n 0, 1) := by decide +kernel
theorem dX5_readSum_41 : decode cX5_readSum 41 = .ok (.getfield 37, 3) := by decide +kernel
theorem dX5_readSum_44 : decode cX5_readSum 44 = .ok (.bipush 43, 2) := by decide +kernel
theorem dX5_readSum_46 : decode cX5_readSum 46 = .ok (.if_icmp .ne 8, 3) := by decide +kernel
theorem dX5_readSum_49 : decode cX5_readSum 49 = .ok (.bipush (-6), 2) := by decide +kernel
theorem dX5_readSum_51 : decode cX5_readSum 51 = .ok (.goto 5, 3) := by decide +kernel
theorem dX5_readSum_54 : decode cX5_readSum 54 = .ok (.bipush (-7), 2) := by decide +kernel
theorem dX5_readSum_56 : decode cX5_readSum 56 = .ok (.istore_n 3, 1) := by decide +kernel
theorem dX5_readSum_57 : decode cX5_readSum 57 = .ok (.aload_n 0, 1) := by decide +kernel
theorem dX5_readSum_58 : decode cX5_readSum 58 = .ok (.invokevirtual 34, 3) := by decide +kernel
theorem dX5_readSum_61 : decode cX5_readSum 61 = .ok (.aload_n 0, 1) := by decide +kernel
theorem dX5_readSum_62 : decode cX5_readSum 62 = .ok (.iload_n 1, 1) := by decide +kernel
theorem dX5_readSum_63 : decode cX5_readSum 63 = .ok (.invokevirtual 150, 3) := by decide +kernel
theorem dX5_readSum_66 : decode cX5_readSum 66 = .ok (.aload_n 0, 1) := by decide +kernel
theorem dX5_readSum_67 : decode cX5_readSum 67 = .ok (.getfield 19, 3) := by decide +kernel
theorem dX5_readSum_70 : decode cX5_readSum 70 = .ok (.getfield 122, 3) := by decide +kernel
theorem dX5_readSum_73 : decode cX5_readSum 73 = .ok (.iload_n 3, 1) := by decide +kernel
theorem dX5_readSum_74 : decode cX5_readSum 74 = .ok (.invokevirtual 153, 3) := by decide +kernel
theorem dX5_readSum_77 : decode cX5_readSum 77 = .ok (.iinc 2 1, 3) := by decide +kernel
theorem dX5_readSum_80 : decode cX5_readSum 80 = .ok (.goto (-73), 3) := by decide +kernel
theorem dX5_readSum_83 : decode cX5_readSum 83 = .ok (.return_, 1) := by decide +kernel
theorem dX5_readTerm_0 : decode cX5_readTerm 0 = .ok (.aload_n 0, 1) := by decide +kernel
theorem dX5_readTerm_1 : decode cX5_readTerm 1 = .ok (.iload_n 1, 1) := by decide +kernel
theorem dX5_readTerm_2 : decode cX5_readTerm 2 = .ok (.invokevirtual 156, 3) := by decide +kernel
theorem dX5_readTerm_5 : decode cX5_readTerm 5 = .ok (.iconst 0, 1) := by decide +kernel
theorem dX5_readTerm_6 : decode cX5_readTerm 6 = .ok (.istore_n 2, 1) := by decide +kernel
theorem dX5_readTerm_7 : decode cX5_readTerm 7 = .ok (.iload_n 2, 1) := by decide +kernel
theorem dX5_readTerm_8 : decode cX5_readTerm 8 = .ok (.sipush 400, 3) := by decide +kernel
theorem dX5_readTerm_11 : decode cX5_readTerm 11 = .ok (.if_icmp .ge 72, 3) := by decide +kernel
theorem dX5_readTerm_14 : decode cX5_readTerm 14 = .ok (.aload_n 0, 1) := by decide +kernel
theorem dX5_readTerm_15 : decode cX5_readTerm 15 = .ok (.getfield 15, 3) := by decide +kernel
theorem dX5_readTerm_18 : decode cX5_readTerm 18 = .ok (.iconst (-1), 1) := by decide +kernel
theorem dX5_readTerm_19 : decode cX5_readTerm 19 = .ok (.if_icmp .ne 64, 3) := by decide +kernel
theorem dX5_readTerm_22 : decode cX5_readTerm 22 = .ok (.aload_n 0, 1) := by decide +kernel
theorem dX5_readTerm_23 : decode cX5_readTerm 23 = .ok (.getfield 37, 3) := by decide +kernel
theorem dX5_readTerm_26 : decode cX5_readTerm 26 = .ok (.bipush 42, 2) := by decide +kernel
theorem dX5_readTerm_28 : decode cX5_readTerm 28 = .ok (.if_icmp .eq 12, 3) := by decide +kernel
theorem dX5_readTerm_31 : decode cX5_readTerm 31 = .ok (.aload_n 0, 1) := by decide +kernel
theorem dX5_readTerm_32 : decode cX5_readTerm 32 = .ok (.getfield 37, 3) := by decide +kernel
theorem dX5_readTerm_35 : decode cX5_readTerm 35 = .ok (.bipush 47, 2) := by decide +kernel
theorem dX5_readTerm_37 : decode cX5_readTerm 37 = .ok (.if_icmp .ne 46, 3) := by decide +kernel
theorem dX5_readTerm_40 : decode cX5_readTerm 40 = .ok (.aload_n 0, 1) := by decide +kernel
theorem dX5_readTerm_41 : decode cX5_readTerm 41 = .ok (.getfield 37, 3) := by decide +kernel
theorem dX5_readTerm_44 : decode cX5_readTerm 44 = .ok (.bipush 42, 2) := by decide +kernel
theorem dX5_readTerm_46 : decode cX5_readTerm 46 = .ok (.if_icmp .ne 8, 3) := by decide +kernel
theorem dX5_readTerm_49 : decode cX5_readTerm 49 = .ok (.bipush (-8), 2) := by decide +kernel
theorem dX5_readTerm_51 : decode cX5_readTerm 51 = .ok (.goto 5, 3) := by decide +kernel
theorem dX5_readTerm_54 : decode cX5_readTerm 54 = .ok (.bipush (-9), 2) := by decide +kernel
theorem dX5_readTerm_56 : decode cX5_readTerm 56 = .ok (.istore_n 3, 1) := by decide +kernel
theorem dX5_readTerm_57 : decode cX5_readTerm 57 = .ok (.aload_n 0, 1) := by decide +kernel
theorem dX5_readTerm_58 : decode cX5_readTerm 58 = .ok (.invokevirtual 34, 3) := by decide +kernel
theorem dX5_readTerm_61 : decode cX5_readTerm 61 = .ok (.aload_n 0, 1) := by decide +kernel
theorem dX5_readTerm_62 : decode cX5_readTerm 62 = .ok (.iload_n 1, 1) := by decide +kernel
theorem dX5_readTerm_63 : decode cX5_readTerm 63 = .ok (.invokevirtual 156, 3) := by decide +kernel
theorem dX5_readTerm_66 : decode cX5_readTerm 66 = .ok (.aload_n 0, 1) := by decide +kernel
theorem dX5_readTerm_67 : decode cX5_readTerm 67 = .ok (.getfield 19, 3) := by decide +kernel
theorem dX5_readTerm_70 : decode cX5_readTerm 70 = .ok (.getfield 122, 3) := by decide +kernel
theorem dX5_readTerm_73 : decode cX5_readTerm 73 = .ok (.iload_n 3, 1) := by decide +kernel
theorem dX5_readTerm_74 : decode cX5_readTerm 74 = .ok (.invokevirtual 153, 3) := by decide +kernel
theorem dX5_readTerm_77 : decode cX5_readTerm 77 = .ok (.iinc 2 1, 3) := by decide +kernel
theorem dX5_readTerm_80 : decode cX5_readTerm 80 = .ok (.goto (-73), 3) := by decide +kernel
theorem dX5_readTerm_83 : decode cX5_readTerm 83 = .ok (.return_, 1) := by decide +kernel
theorem dX5_readAtom_0 : decode cX5_readAtom 0 = .ok (.aload_n 0, 1) := by decide +kernel
theorem dX5_readAtom_1 : decode cX5_readAtom 1 = .ok (.getfield 15, 3) := by decide +kernel
theorem dX5_readAtom_4 : decode cX5_readAtom 4 = .ok (.iconst (-1), 1) := by decide +kernel
theorem dX5_readAtom_5 : decode cX5_readAtom 5 = .ok (.if_icmp .eq 4, 3) := by decide +kernel
theorem dX5_readAtom_8 : decode cX5_readAtom 8 = .ok (.return_, 1) := by decide +kernel
theorem dX5_readAtom_9 : decode cX5_readAtom 9 = .ok (.aload_n 0, 1) := by decide +kernel
theorem dX5_readAtom_10 : decode cX5_readAtom 10 = .ok (.getfield 37, 3) := by decide +kernel
theorem dX5_readAtom_13 : decode cX5_readAtom 13 = .ok (.bipush 40, 2) := by decide +kernel
theorem dX5_readAtom_15 : decode cX5_readAtom 15 = .ok (.if_icmp .ne 29, 3) := by decide +kernel
theorem dX5_readAtom_18 : decode cX5_readAtom 18 = .ok (.iload_n 1, 1) := by decide +kernel
theorem dX5_readAtom_19 : decode cX5_readAtom 19 = .ok (.bipush 6, 2) := by decide +kernel
theorem dX5_readAtom_21 : decode cX5_readAtom 21 = .ok (.if_icmp .ge 23, 3) := by decide +kernel
theorem dX5_readAtom_24 : decode cX5_readAtom 24 = .ok (.aload_n 0, 1) := by decide +kernel
theorem dX5_readAtom_25 : decode cX5_readAtom 25 = .ok (.invokevirtual 34, 3) := by decide +kernel
theorem dX5_readAtom_28 : decode cX5_readAtom 28 = .ok (.aload_n 0, 1) := by decide +kernel
theorem dX5_readAtom_29 : decode cX5_readAtom 29 = .ok (.iload_n 1, 1) := by decide +kernel
theorem dX5_readAtom_30 : decode cX5_readAtom 30 = .ok (.iconst 1, 1) := by decide +kernel
theorem dX5_readAtom_31 : decode cX5_readAtom 31 = .ok (.iadd, 1) := by decide +kernel
theorem dX5_readAtom_32 : decode cX5_readAtom 32 = .ok (.invokevirtual 129, 3) := by decide +kernel
theorem dX5_readAtom_35 : decode cX5_readAtom 35 = .ok (.aload_n 0, 1) := by decide +kernel
theorem dX5_readAtom_36 : decode cX5_readAtom 36 = .ok (.bipush 41, 2) := by decide +kernel
theorem dX5_readAtom_38 : decode cX5_readAtom 38 = .ok (.invokevirtual 43, 3) := by decide +kernel
theorem dX5_readAtom_41 : decode cX5_readAtom 41 = .ok (.goto 102, 3) := by decide +kernel
theorem dX5_readAtom_44 : decode cX5_readAtom 44 = .ok (.aload_n 0, 1) := by decide +kernel
theorem dX5_readAtom_45 : decode cX5_readAtom 45 = .ok (.getfield 37, 3) := by decide +kernel
theorem dX5_readAtom_48 : decode cX5_readAtom 48 = .ok (.sipush 257, 3) := by decide +kernel
theorem dX5_readAtom_51 : decode cX5_readAtom 51 = .ok (.if_icmp .ne 37, 3) := by decide +kernel
theorem dX5_readAtom_54 : decode cX5_readAtom 54 = .ok (.aload_n 0, 1) := by decide +kernel
theorem dX5_readAtom_55 : decode cX5_readAtom 55 = .ok (.getfield 31, 3) := by decide +kernel
theorem dX5_readAtom_58 : decode cX5_readAtom 58 = .ok (.aload_n 0, 1) := by decide +kernel
theorem dX5_readAtom_59 : decode cX5_readAtom 59 = .ok (.getfield 159, 3) := by decide +kernel
theorem dX5_readAtom_62 : decode cX5_readAtom 62 = .ok (.isub, 1) := by decide +kernel
theorem dX5_readAtom_63 : decode cX5_readAtom 63 = .ok (.iconst 4, 1) := by decide +kernel
theorem dX5_readAtom_64 : decode cX5_readAtom 64 = .ok (.if_icmp .gt 24, 3) := by decide +kernel
theorem dX5_readAtom_67 : decode cX5_readAtom 67 = .ok (.aload_n 0, 1) := by decide +kernel
theorem dX5_readAtom_68 : decode cX5_readAtom 68 = .ok (.getfield 19, 3) := by decide +kernel
theorem dX5_readAtom_71 : decode cX5_readAtom 71 = .ok (.getfield 122, 3) := by decide +kernel
theorem dX5_readAtom_74 : decode cX5_readAtom 74 = .ok (.aload_n 0, 1) := by decide +kernel
theorem dX5_readAtom_75 : decode cX5_readAtom 75 = .ok (.invokevirtual 162, 3) := by decide +kernel
theorem dX5_readAtom_78 : decode cX5_readAtom 78 = .ok (.invokevirtual 153, 3) := by decide +kernel
theorem dX5_readAtom_81 : decode cX5_readAtom 81 = .ok (.aload_n 0, 1) := by decide +kernel
theorem dX5_readAtom_82 : decode cX5_readAtom 82 = .ok (.invokevirtual 34, 3) := by decide +kernel
theorem dX5_readAtom_85 : decode cX5_readAtom 85 = .ok (.goto 58, 3) := by decide +kernel
theorem dX5_readAtom_88 : decode cX5_readAtom 88 = .ok (.aload_n 0, 1) := by decide +kernel
theorem dX5_readAtom_89 : decode cX5_readAtom 89 = .ok (.getfield 37, 3) := by decide +kernel
theorem dX5_readAtom_92 : decode cX5_readAtom 92 = .ok (.sipush 256, 3) := by decide +kernel
theorem dX5_readAtom_95 : decode cX5_readAtom 95 = .ok (.if_icmp .ne 44, 3) := by decide +kernel
theorem dX5_readAtom_98 : decode cX5_readAtom 98 = .ok (.aload_n 0, 1) := by decide +kernel
theorem dX5_readAtom_99 : decode cX5_readAtom 99 = .ok (.getfield 31, 3) := by decide +kernel
theorem dX5_readAtom_102 : decode cX5_readAtom 102 = .ok (.aload_n 0, 1) := by decide +kernel
theorem dX5_readAtom_103 : decode cX5_readAtom 103 = .ok (.getfield 159, 3) := by decide +kernel
theorem dX5_readAtom_106 : decode cX5_readAtom 106 = .ok (.isub, 1) := by decide +kernel
theorem dX5_readAtom_107 : decode cX5_readAtom 107 = .ok (.iconst 1, 1) := by decide +kernel
theorem dX5_readAtom_108 : decode cX5_readAtom 108 = .ok (.if_icmp .ne 31, 3) := by decide +kernel
theorem dX5_readAtom_111 : decode cX5_readAtom 111 = .ok (.aload_n 0, 1) := by decide +kernel
theorem dX5_readAtom_112 : decode cX5_readAtom 112 = .ok (.invokevirtual 165, 3) := by decide +kernel
theorem dX5_readAtom_115 : decode cX5_readAtom 115 = .ok (.ifCond .eq 24, 3) := by decide +kernel
theorem dX5_readAtom_118 : decode cX5_readAtom 118 = .ok (.aload_n 0, 1) := by decide +kernel
theorem dX5_readAtom_119 : decode cX5_readAtom 119 = .ok (.getfield 19, 3) := by decide +kernel
theorem dX5_readAtom_122 : decode cX5_readAtom 122 = .ok (.getfield 122, 3) := by decide +kernel
theorem dX5_readAtom_125 : decode cX5_readAtom 125 = .ok (.aload_n 0, 1) := by decide +kernel
theorem dX5_readAtom_126 : decode cX5_readAtom 126 = .ok (.invokevirtual 165, 3) := by decide +kernel
theorem dX5_readAtom_129 : decode cX5_readAtom 129 = .ok (.invokevirtual 153, 3) := by decide +kernel
theorem dX5_readAtom_132 : decode cX5_readAtom 132 = .ok (.aload_n 0, 1) := by decide +kernel
theorem dX5_readAtom_133 : decode cX5_readAtom 133 = .ok (.invokevirtual 34, 3) := by decide +kernel
theorem dX5_readAtom_136 : decode cX5_readAtom 136 = .ok (.goto 7, 3) := by decide +kernel
theorem dX5_readAtom_139 : decode cX5_readAtom 139 = .ok (.aload_n 0, 1) := by decide +kernel
theorem dX5_readAtom_140 : decode cX5_readAtom 140 = .ok (.invokevirtual 75, 3) := by decide +kernel
theorem dX5_readAtom_143 : decode cX5_readAtom 143 = .ok (.return_, 1) := by decide +kernel
theorem dX5_letterCode_0 : decode cX5_letterCode 0 = .ok (.aload_n 0, 1) := by decide +kernel
theorem dX5_letterCode_1 : decode cX5_letterCode 1 = .ok (.getfield 9, 3) := by decide +kernel
theorem dX5_letterCode_4 : decode cX5_letterCode 4 = .ok (.aload_n 0, 1) := by decide +kernel
theorem dX5_letterCode_5 : decode cX5_letterCode 5 = .ok (.getfield 159, 3) := by decide +kernel
theorem dX5_letterCode_8 : decode cX5_letterCode 8 = .ok (.baload, 1) := by decide +kernel
theorem dX5_letterCode_9 : decode cX5_letterCode 9 = .ok (.tableswitch 89 99 113 #[86, 89, 89, 89, 89, 89, 89, 89, 89, 80, 83, 89, 89, 77, 75], 75) := by decide +kernel
theorem dX5_letterCode_84 : decode cX5_letterCode 84 = .ok (.iconst (-1), 1) := by decide +kernel
theorem dX5_letterCode_85 : decode cX5_letterCode 85 = .ok (.ireturn, 1) := by decide +kernel
theorem dX5_letterCode_86 : decode cX5_letterCode 86 = .ok (.bipush (-2), 2) := by decide +kernel
theorem dX5_letterCode_88 : decode cX5_letterCode 88 = .ok (.ireturn, 1) := by decide +kernel
theorem dX5_letterCode_89 : decode cX5_letterCode 89 = .ok (.bipush (-3), 2) := by decide +kernel
theorem dX5_letterCode_91 : decode cX5_letterCode 91 = .ok (.ireturn, 1) := by decide +kernel
theorem dX5_letterCode_92 : decode cX5_letterCode 92 = .ok (.bipush (-4), 2) := by decide +kernel
theorem dX5_letterCode_94 : decode cX5_letterCode 94 = .ok (.ireturn, 1) := by decide +kernel
theorem dX5_letterCode_95 : decode cX5_letterCode 95 = .ok (.bipush (-5), 2) := by decide +kernel
theorem dX5_letterCode_97 : decode cX5_letterCode 97 = .ok (.ireturn, 1) := by decide +kernel
theorem dX5_letterCode_98 : decode cX5_letterCode 98 = .ok (.iconst 0, 1) := by decide +kernel
theorem dX5_letterCode_99 : decode cX5_letterCode 99 = .ok (.ireturn, 1) := by decide +kernel
theorem dX5_newName_0 : decode cX5_newName 0 = .ok (.aload_n 0, 1) := by decide +kernel
theorem dX5_newName_1 : decode cX5_newName 1 = .ok (.getfield 15, 3) := by decide +kernel
theorem dX5_newName_4 : decode cX5_newName 4 = .ok (.iconst (-1), 1) := by decide +kernel
theorem dX5_newName_5 : decode cX5_newName 5 = .ok (.if_icmp .eq 4, 3) := by decide +kernel
theorem dX5_newName_8 : decode cX5_newName 8 = .ok (.return_, 1) := by decide +kernel
theorem dX5_newName_9 : decode cX5_newName 9 = .ok (.aload_n 0, 1) := by decide +kernel
theorem dX5_newName_10 : decode cX5_newName 10 = .ok (.getfield 37, 3) := by decide +kernel
theorem dX5_newName_13 : decode cX5_newName 13 = .ok (.sipush 256, 3) := by decide +kernel
theorem dX5_newName_16 : decode cX5_newName 16 = .ok (.if_icmp .ne 29, 3) := by decide +kernel
theorem dX5_newName_19 : decode cX5_newName 19 = .ok (.aload_n 0, 1) := by decide +kernel
theorem dX5_newName_20 : decode cX5_newName 20 = .ok (.getfield 31, 3) := by decide +kernel
theorem dX5_newName_23 : decode cX5_newName 23 = .ok (.aload_n 0, 1) := by decide +kernel
theorem dX5_newName_24 : decode cX5_newName 24 = .ok (.getfield 159, 3) := by decide +kernel
theorem dX5_newName_27 : decode cX5_newName 27 = .ok (.isub, 1) := by decide +kernel
theorem dX5_newName_28 : decode cX5_newName 28 = .ok (.bipush 6, 2) := by decide +kernel
theorem dX5_newName_30 : decode cX5_newName 30 = .ok (.if_icmp .gt 15, 3) := by decide +kernel
theorem dX5_newName_33 : decode cX5_newName 33 = .ok (.aload_n 0, 1) := by decide +kernel
theorem dX5_newName_34 : decode cX5_newName 34 = .ok (.invokevirtual 50, 3) := by decide +kernel
theorem dX5_newName_37 : decode cX5_newName 37 = .ok (.iconst (-1), 1) := by decide +kernel
theorem dX5_newName_38 : decode cX5_newName 38 = .ok (.if_icmp .ne 7, 3) := by decide +kernel
theorem dX5_newName_41 : decode cX5_newName 41 = .ok (.iconst 1, 1) := by decide +kernel
theorem dX5_newName_42 : decode cX5_newName 42 = .ok (.goto 4, 3) := by decide +kernel
theorem dX5_newName_45 : decode cX5_newName 45 = .ok (.iconst 0, 1) := by decide +kernel
theorem dX5_newName_46 : decode cX5_newName 46 = .ok (.istore_n 2, 1) := by decide +kernel
theorem dX5_newName_47 : decode cX5_newName 47 = .ok (.iload_n 2, 1) := by decide +kernel
theorem dX5_newName_48 : decode cX5_newName 48 = .ok (.ifCond .eq 23, 3) := by decide +kernel
theorem dX5_newName_51 : decode cX5_newName 51 = .ok (.aload_n 1, 1) := by decide +kernel
theorem dX5_newName_52 : decode cX5_newName 52 = .ok (.aload_n 0, 1) := by decide +kernel
theorem dX5_newName_53 : decode cX5_newName 53 = .ok (.getfield 9, 3) := by decide +kernel
theorem dX5_newName_56 : decode cX5_newName 56 = .ok (.aload_n 0, 1) := by decide +kernel
theorem dX5_newName_57 : decode cX5_newName 57 = .ok (.getfield 159, 3) := by decide +kernel
theorem dX5_newName_60 : decode cX5_newName 60 = .ok (.aload_n 0, 1) := by decide +kernel
theorem dX5_newName_61 : decode cX5_newName 61 = .ok (.getfield 31, 3) := by decide +kernel
theorem dX5_newName_64 : decode cX5_newName 64 = .ok (.invokevirtual 168, 3) := by decide +kernel
theorem dX5_newName_67 : decode cX5_newName 67 = .ok (.iconst (-1), 1) := by decide +kernel
theorem dX5_newName_68 : decode cX5_newName 68 = .ok (.if_icmp .eq 8, 3) := by decide +kernel
theorem dX5_newName_71 : decode cX5_newName 71 = .ok (.aload_n 0, 1) := by decide +kernel
theorem dX5_newName_72 : decode cX5_newName 72 = .ok (.invokevirtual 75, 3) := by decide +kernel
theorem dX5_newName_75 : decode cX5_newName 75 = .ok (.return_, 1) := by decide +kernel
theorem dX5_newName_76 : decode cX5_newName 76 = .ok (.aload_n 1, 1) := by decide +kernel
theorem dX5_newName_77 : decode cX5_newName 77 = .ok (.aload_n 0, 1) := by decide +kernel
theorem dX5_newName_78 : decode cX5_newName 78 = .ok (.getfield 9, 3) := by decide +kernel
theorem dX5_newName_81 : decode cX5_newName 81 = .ok (.aload_n 0, 1) := by decide +kernel
theorem dX5_newName_82 : decode cX5_newName 82 = .ok (.getfield 159, 3) := by decide +kernel
theorem dX5_newName_85 : decode cX5_newName 85 = .ok (.aload_n 0, 1) := by decide +kernel
theorem dX5_newName_86 : decode cX5_newName 86 = .ok (.getfield 31, 3) := by decide +kernel
theorem dX5_newName_89 : decode cX5_newName 89 = .ok (.invokevirtual 172, 3) := by decide +kernel
theorem dX5_newName_92 : decode cX5_newName 92 = .ok (.aload_n 0, 1) := by decide +kernel
theorem dX5_newName_93 : decode cX5_newName 93 = .ok (.invokevirtual 34, 3) := by decide +kernel
theorem dX5_newName_96 : decode cX5_newName 96 = .ok (.return_, 1) := by decide +kernel
theorem dX5_toldName_0 : decode cX5_toldName 0 = .ok (.aload_n 0, 1) := by decide +kernel
theorem dX5_toldName_1 : decode cX5_toldName 1 = .ok (.getfield 15, 3) := by decide +kernel
theorem dX5_toldName_4 : decode cX5_toldName 4 = .ok (.iconst (-1), 1) := by decide +kernel
theorem dX5_toldName_5 : decode cX5_toldName 5 = .ok (.if_icmp .eq 5, 3) := by decide +kernel
theorem dX5_toldName_8 : decode cX5_toldName 8 = .ok (.iconst (-1), 1) := by decide +kernel
theorem dX5_toldName_9 : decode cX5_toldName 9 = .ok (.ireturn, 1) := by decide +kernel
theorem dX5_toldName_10 : decode cX5_toldName 10 = .ok (.aload_n 0, 1) := by decide +kernel
theorem dX5_toldName_11 : decode cX5_toldName 11 = .ok (.getfield 37, 3) := by decide +kernel
theorem dX5_toldName_14 : decode cX5_toldName 14 = .ok (.sipush 256, 3) := by decide +kernel
theorem dX5_toldName_17 : decode cX5_toldName 17 = .ok (.if_icmp .ne 22, 3) := by decide +kernel
theorem dX5_toldName_20 : decode cX5_toldName 20 = .ok (.aload_n 1, 1) := by decide +kernel
theorem dX5_toldName_21 : decode cX5_toldName 21 = .ok (.aload_n 0, 1) := by decide +kernel
theorem dX5_toldName_22 : decode cX5_toldName 22 = .ok (.getfield 9, 3) := by decide +kernel
theorem dX5_toldName_25 : decode cX5_toldName 25 = .ok (.aload_n 0, 1) := by decide +kernel
theorem dX5_toldName_26 : decode cX5_toldName 26 = .ok (.getfield 159, 3) := by decide +kernel
theorem dX5_toldName_29 : decode cX5_toldName 29 = .ok (.aload_n 0, 1) := by decide +kernel
theorem dX5_toldName_30 : decode cX5_toldName 30 = .ok (.getfield 31, 3) := by decide +kernel
theorem dX5_toldName_33 : decode cX5_toldName 33 = .ok (.invokevirtual 168, 3) := by decide +kernel
theorem dX5_toldName_36 : decode cX5_toldName 36 = .ok (.goto 4, 3) := by decide +kernel
theorem dX5_toldName_39 : decode cX5_toldName 39 = .ok (.iconst (-1), 1) := by decide +kernel
theorem dX5_toldName_40 : decode cX5_toldName 40 = .ok (.istore_n 2, 1) := by decide +kernel
theorem dX5_toldName_41 : decode cX5_toldName 41 = .ok (.iload_n 2, 1) := by decide +kernel
theorem dX5_toldName_42 : decode cX5_toldName 42 = .ok (.iconst (-1), 1) := by decide +kernel
theorem dX5_toldName_43 : decode cX5_toldName 43 = .ok (.if_icmp .ne 10, 3) := by decide +kernel
theorem dX5_toldName_46 : decode cX5_toldName 46 = .ok (.aload_n 0, 1) := by decide +kernel
theorem dX5_toldName_47 : decode cX5_toldName 47 = .ok (.invokevirtual 75, 3) := by decide +kernel
theorem dX5_toldName_50 : decode cX5_toldName 50 = .ok (.goto 7, 3) := by decide +kernel
theorem dX5_toldName_53 : decode cX5_toldName 53 = .ok (.aload_n 0, 1) := by decide +kernel
theorem dX5_toldName_54 : decode cX5_toldName 54 = .ok (.invokevirtual 34, 3) := by decide +kernel
theorem dX5_toldName_57 : decode cX5_toldName 57 = .ok (.iload_n 2, 1) := by decide +kernel
theorem dX5_toldName_58 : decode cX5_toldName 58 = .ok (.ireturn, 1) := by decide +kernel
theorem dX5_marketWord_0 : decode cX5_marketWord 0 = .ok (.aload_n 0, 1) := by decide +kernel
theorem dX5_marketWord_1 : decode cX5_marketWord 1 = .ok (.invokevirtual 50, 3) := by decide +kernel
theorem dX5_marketWord_4 : decode cX5_marketWord 4 = .ok (.istore_n 1, 1) := by decide +kernel
theorem dX5_marketWord_5 : decode cX5_marketWord 5 = .ok (.aload_n 0, 1) := by decide +kernel
theorem dX5_marketWord_6 : decode cX5_marketWord 6 = .ok (.getfield 15, 3) := by decide +kernel
theorem dX5_marketWord_9 : decode cX5_marketWord 9 = .ok (.iconst (-1), 1) := by decide +kernel
theorem dX5_marketWord_10 : decode cX5_marketWord 10 = .ok (.if_icmp .ne 15, 3) := by decide +kernel
theorem dX5_marketWord_13 : decode cX5_marketWord 13 = .ok (.iload_n 1, 1) := by decide +kernel
theorem dX5_marketWord_14 : decode cX5_marketWord 14 = .ok (.bipush 8, 2) := by decide +kernel
theorem dX5_marketWord_16 : decode cX5_marketWord 16 = .ok (.if_icmp .lt 9, 3) := by decide +kernel
theorem dX5_marketWord_19 : decode cX5_marketWord 19 = .ok (.iload_n 1, 1) := by decide +kernel
theorem dX5_marketWord_20 : decode cX5_marketWord 20 = .ok (.bipush 10, 2) := by decide +kernel
theorem dX5_marketWord_22 : decode cX5_marketWord 22 = .ok (.if_icmp .le 9, 3) := by decide +kernel
theorem dX5_marketWord_25 : decode cX5_marketWord 25 = .ok (.aload_n 0, 1) := by decide +kernel
theorem dX5_marketWord_26 : decode cX5_marketWord 26 = .ok (.invokevirtual 75, 3) := by decide +kernel
theorem dX5_marketWord_29 : decode cX5_marketWord 29 = .ok (.iconst (-1), 1) := by decide +kernel
theorem dX5_marketWord_30 : decode cX5_marketWord 30 = .ok (.ireturn, 1) := by decide +kernel
theorem dX5_marketWord_31 : decode cX5_marketWord 31 = .ok (.aload_n 0, 1) := by decide +kernel
theorem dX5_marketWord_32 : decode cX5_marketWord 32 = .ok (.invokevirtual 34, 3) := by decide +kernel
theorem dX5_marketWord_35 : decode cX5_marketWord 35 = .ok (.iload_n 1, 1) := by decide +kernel
theorem dX5_marketWord_36 : decode cX5_marketWord 36 = .ok (.bipush 8, 2) := by decide +kernel
theorem dX5_marketWord_38 : decode cX5_marketWord 38 = .ok (.isub, 1) := by decide +kernel
theorem dX5_marketWord_39 : decode cX5_marketWord 39 = .ok (.ireturn, 1) := by decide +kernel
theorem dX5_number_0 : decode cX5_number 0 = .ok (.aload_n 0, 1) := by decide +kernel
theorem dX5_number_1 : decode cX5_number 1 = .ok (.getfield 15, 3) := by decide +kernel
theorem dX5_number_4 : decode cX5_number 4 = .ok (.iconst (-1), 1) := by decide +kernel
theorem dX5_number_5 : decode cX5_number 5 = .ok (.if_icmp .eq 5, 3) := by decide +kernel
theorem dX5_number_8 : decode cX5_number 8 = .ok (.iconst (-1), 1) := by decide +kernel
theorem dX5_number_9 : decode cX5_number 9 = .ok (.ireturn, 1) := by decide +kernel
theorem dX5_number_10 : decode cX5_number 10 = .ok (.aload_n 0, 1) := by decide +kernel
theorem dX5_number_11 : decode cX5_number 11 = .ok (.getfield 37, 3) := by decide +kernel
theorem dX5_number_14 : decode cX5_number 14 = .ok (.sipush 257, 3) := by decide +kernel
theorem dX5_number_17 : decode cX5_number 17 = .ok (.if_icmp .ne 23, 3) := by decide +kernel
theorem dX5_number_20 : decode cX5_number 20 = .ok (.aload_n 0, 1) := by decide +kernel
theorem dX5_number_21 : decode cX5_number 21 = .ok (.getfield 31, 3) := by decide +kernel
theorem dX5_number_24 : decode cX5_number 24 = .ok (.aload_n 0, 1) := by decide +kernel
theorem dX5_number_25 : decode cX5_number 25 = .ok (.getfield 159, 3) := by decide +kernel
theorem dX5_number_28 : decode cX5_number 28 = .ok (.isub, 1) := by decide +kernel
theorem dX5_number_29 : decode cX5_number 29 = .ok (.iconst 5, 1) := by decide +kernel
theorem dX5_number_30 : decode cX5_number 30 = .ok (.if_icmp .gt 10, 3) := by decide +kernel
theorem dX5_number_33 : decode cX5_number 33 = .ok (.aload_n 0, 1) := by decide +kernel
theorem dX5_number_34 : decode cX5_number 34 = .ok (.invokevirtual 162, 3) := by decide +kernel
theorem dX5_number_37 : decode cX5_number 37 = .ok (.goto 4, 3) := by decide +kernel
theorem dX5_number_40 : decode cX5_number 40 = .ok (.iconst (-1), 1) := by decide +kernel
theorem dX5_number_41 : decode cX5_number 41 = .ok (.istore_n 3, 1) := by decide +kernel
theorem dX5_number_42 : decode cX5_number 42 = .ok (.iload_n 3, 1) := by decide +kernel
theorem dX5_number_43 : decode cX5_number 43 = .ok (.iload_n 1, 1) := by decide +kernel
theorem dX5_number_44 : decode cX5_number 44 = .ok (.if_icmp .lt 8, 3) := by decide +kernel
theorem dX5_number_47 : decode cX5_number 47 = .ok (.iload_n 3, 1) := by decide +kernel
theorem dX5_number_48 : decode cX5_number 48 = .ok (.iload_n 2, 1) := by decide +kernel
theorem dX5_number_49 : decode cX5_number 49 = .ok (.if_icmp .le 9, 3) := by decide +kernel
theorem dX5_number_52 : decode cX5_number 52 = .ok (.aload_n 0, 1) := by decide +kernel
theorem dX5_number_53 : decode cX5_number 53 = .ok (.invokevirtual 75, 3) := by decide +kernel
theorem dX5_number_56 : decode cX5_number 56 = .ok (.iconst (-1), 1) := by decide +kernel
theorem dX5_number_57 : decode cX5_number 57 = .ok (.ireturn, 1) := by decide +kernel
theorem dX5_number_58 : decode cX5_number 58 = .ok (.aload_n 0, 1) := by decide +kernel
theorem dX5_number_59 : decode cX5_number 59 = .ok (.invokevirtual 34, 3) := by decide +kernel
theorem dX5_number_62 : decode cX5_number 62 = .ok (.iload_n 3, 1) := by decide +kernel
theorem dX5_number_63 : decode cX5_number 63 = .ok (.ireturn, 1) := by decide +kernel
theorem dX5_take_0 : decode cX5_take 0 = .ok (.aload_n 0, 1) := by decide +kernel
theorem dX5_take_1 : decode cX5_take 1 = .ok (.getfield 37, 3) := by decide +kernel
theorem dX5_take_4 : decode cX5_take 4 = .ok (.iload_n 1, 1) := by decide +kernel
theorem dX5_take_5 : decode cX5_take 5 = .ok (.if_icmp .ne 18, 3) := by decide +kernel
theorem dX5_take_8 : decode cX5_take 8 = .ok (.aload_n 0, 1) := by decide +kernel
theorem dX5_take_9 : decode cX5_take 9 = .ok (.getfield 15, 3) := by decide +kernel
theorem dX5_take_12 : decode cX5_take 12 = .ok (.iconst (-1), 1) := by decide +kernel
theorem dX5_take_13 : decode cX5_take 13 = .ok (.if_icmp .ne 10, 3) := by decide +kernel
theorem dX5_take_16 : decode cX5_take 16 = .ok (.aload_n 0, 1) := by decide +kernel
theorem dX5_take_17 : decode cX5_take 17 = .ok (.invokevirtual 34, 3) := by decide +kernel
theorem dX5_take_20 : decode cX5_take 20 = .ok (.goto 7, 3) := by decide +kernel
theorem dX5_take_23 : decode cX5_take 23 = .ok (.aload_n 0, 1) := by decide +kernel
theorem dX5_take_24 : decode cX5_take 24 = .ok (.invokevirtual 75, 3) := by decide +kernel
theorem dX5_take_27 : decode cX5_take 27 = .ok (.return_, 1) := by decide +kernel
theorem dX5_fail_0 : decode cX5_fail 0 = .ok (.aload_n 0, 1) := by decide +kernel
theorem dX5_fail_1 : decode cX5_fail 1 = .ok (.getfield 15, 3) := by decide +kernel
theorem dX5_fail_4 : decode cX5_fail 4 = .ok (.iconst (-1), 1) := by decide +kernel
theorem dX5_fail_5 : decode cX5_fail 5 = .ok (.if_icmp .ne 11, 3) := by decide +kernel
theorem dX5_fail_8 : decode cX5_fail 8 = .ok (.aload_n 0, 1) := by decide +kernel
theorem dX5_fail_9 : decode cX5_fail 9 = .ok (.aload_n 0, 1) := by decide +kernel
theorem dX5_fail_10 : decode cX5_fail 10 = .ok (.getfield 159, 3) := by decide +kernel
theorem dX5_fail_13 : decode cX5_fail 13 = .ok (.putfield 15, 3) := by decide +kernel
theorem dX5_fail_16 : decode cX5_fail 16 = .ok (.return_, 1) := by decide +kernel
theorem dX5_digits_0 : decode cX5_digits 0 = .ok (.iconst 0, 1) := by decide +kernel
theorem dX5_digits_1 : decode cX5_digits 1 = .ok (.istore_n 1, 1) := by decide +kernel
theorem dX5_digits_2 : decode cX5_digits 2 = .ok (.aload_n 0, 1) := by decide +kernel
theorem dX5_digits_3 : decode cX5_digits 3 = .ok (.getfield 159, 3) := by decide +kernel
theorem dX5_digits_6 : decode cX5_digits 6 = .ok (.istore_n 2, 1) := by decide +kernel
theorem dX5_digits_7 : decode cX5_digits 7 = .ok (.iload_n 2, 1) := by decide +kernel
theorem dX5_digits_8 : decode cX5_digits 8 = .ok (.aload_n 0, 1) := by decide +kernel
theorem dX5_digits_9 : decode cX5_digits 9 = .ok (.getfield 31, 3) := by decide +kernel
theorem dX5_digits_12 : decode cX5_digits 12 = .ok (.if_icmp .ge 24, 3) := by decide +kernel
theorem dX5_digits_15 : decode cX5_digits 15 = .ok (.iload_n 1, 1) := by decide +kernel
theorem dX5_digits_16 : decode cX5_digits 16 = .ok (.bipush 10, 2) := by decide +kernel
theorem dX5_digits_18 : decode cX5_digits 18 = .ok (.imul, 1) := by decide +kernel
theorem dX5_digits_19 : decode cX5_digits 19 = .ok (.aload_n 0, 1) := by decide +kernel
theorem dX5_digits_20 : decode cX5_digits 20 = .ok (.getfield 9, 3) := by decide +kernel
theorem dX5_digits_23 : decode cX5_digits 23 = .ok (.iload_n 2, 1) := by decide +kernel
theorem dX5_digits_24 : decode cX5_digits 24 = .ok (.baload, 1) := by decide +kernel
theorem dX5_digits_25 : decode cX5_digits 25 = .ok (.bipush 48, 2) := by decide +kernel
theorem dX5_digits_27 : decode cX5_digits 27 = .ok (.isub, 1) := by decide +kernel
theorem dX5_digits_28 : decode cX5_digits 28 = .ok (.iadd, 1) := by decide +kernel
theorem dX5_digits_29 : decode cX5_digits 29 = .ok (.istore_n 1, 1) := by decide +kernel
theorem dX5_digits_30 : decode cX5_digits 30 = .ok (.iinc 2 1, 3) := by decide +kernel
theorem dX5_digits_33 : decode cX5_digits 33 = .ok (.goto (-26), 3) := by decide +kernel
theorem dX5_digits_36 : decode cX5_digits 36 = .ok (.iload_n 1, 1) := by decide +kernel
theorem dX5_digits_37 : decode cX5_digits 37 = .ok (.ireturn, 1) := by decide +kernel
theorem dX5_keyword_0 : decode cX5_keyword 0 = .ok (.aload_n 0, 1) := by decide +kernel
theorem dX5_keyword_1 : decode cX5_keyword 1 = .ok (.getfield 37, 3) := by decide +kernel
theorem dX5_keyword_4 : decode cX5_keyword 4 = .ok (.sipush 256, 3) := by decide +kernel
theorem dX5_keyword_7 : decode cX5_keyword 7 = .ok (.if_icmp .eq 5, 3) := by decide +kernel
theorem dX5_keyword_10 : decode cX5_keyword 10 = .ok (.iconst (-1), 1) := by decide +kernel
theorem dX5_keyword_11 : decode cX5_keyword 11 = .ok (.ireturn, 1) := by decide +kernel
theorem dX5_keyword_12 : decode cX5_keyword 12 = .ok (.aload_n 0, 1) := by decide +kernel
theorem dX5_keyword_13 : decode cX5_keyword 13 = .ok (.ldc 175, 2) := by decide +kernel
theorem dX5_keyword_15 : decode cX5_keyword 15 = .ok (.invokevirtual 177, 3) := by decide +kernel
theorem dX5_keyword_18 : decode cX5_keyword 18 = .ok (.ifCond .eq 5, 3) := by decide +kernel
theorem dX5_keyword_21 : decode cX5_keyword 21 = .ok (.iconst 0, 1) := by decide +kernel
theorem dX5_keyword_22 : decode cX5_keyword 22 = .ok (.ireturn, 1) := by decide +kernel
theorem dX5_keyword_23 : decode cX5_keyword 23 = .ok (.aload_n 0, 1) := by decide +kernel
theorem dX5_keyword_24 : decode cX5_keyword 24 = .ok (.ldc 181, 2) := by decide +kernel
theorem dX5_keyword_26 : decode cX5_keyword 26 = .ok (.invokevirtual 177, 3) := by decide +kernel
theorem dX5_keyword_29 : decode cX5_keyword 29 = .ok (.ifCond .eq 5, 3) := by decide +kernel
theorem dX5_keyword_32 : decode cX5_keyword 32 = .ok (.iconst 1, 1) := by decide +kernel
theorem dX5_keyword_33 : decode cX5_keyword 33 = .ok (.ireturn, 1) := by decide +kernel
theorem dX5_keyword_34 : decode cX5_keyword 34 = .ok (.aload_n 0, 1) := by decide +kernel
theorem dX5_keyword_35 : decode cX5_keyword 35 = .ok (.ldc 183, 2) := by decide +kernel
theorem dX5_keyword_37 : decode cX5_keyword 37 = .ok (.invokevirtual 177, 3) := by decide +kernel
theorem dX5_keyword_40 : decode cX5_keyword 40 = .ok (.ifCond .eq 5, 3) := by decide +kernel
theorem dX5_keyword_43 : decode cX5_keyword 43 = .ok (.iconst 2, 1) := by decide +kernel
theorem dX5_keyword_44 : decode cX5_keyword 44 = .ok (.ireturn, 1) := by decide +kernel
theorem dX5_keyword_45 : decode cX5_keyword 45 = .ok (.aload_n 0, 1) := by decide +kernel
theorem dX5_keyword_46 : decode cX5_keyword 46 = .ok (.ldc 184, 2) := by decide +kernel
theorem dX5_keyword_48 : decode cX5_keyword 48 = .ok (.invokevirtual 177, 3) := by decide +kernel
theorem dX5_keyword_51 : decode cX5_keyword 51 = .ok (.ifCond .eq 5, 3) := by decide +kernel
theorem dX5_keyword_54 : decode cX5_keyword 54 = .ok (.iconst 3, 1) := by decide +kernel
theorem dX5_keyword_55 : decode cX5_keyword 55 = .ok (.ireturn, 1) := by decide +kernel
theorem dX5_keyword_56 : decode cX5_keyword 56 = .ok (.aload_n 0, 1) := by decide +kernel
theorem dX5_keyword_57 : decode cX5_keyword 57 = .ok (.ldc 186, 2) := by decide +kernel
theorem dX5_keyword_59 : decode cX5_keyword 59 = .ok (.invokevirtual 177, 3) := by decide +kernel
theorem dX5_keyword_62 : decode cX5_keyword 62 = .ok (.ifCond .eq 5, 3) := by decide +kernel
theorem dX5_keyword_65 : decode cX5_keyword 65 = .ok (.iconst 4, 1) := by decide +kernel
theorem dX5_keyword_66 : decode cX5_keyword 66 = .ok (.ireturn, 1) := by decide +kernel
theorem dX5_keyword_67 : decode cX5_keyword 67 = .ok (.aload_n 0, 1) := by decide +kernel
theorem dX5_keyword_68 : decode cX5_keyword 68 = .ok (.ldc 188, 2) := by decide +kernel
theorem dX5_keyword_70 : decode cX5_keyword 70 = .ok (.invokevirtual 177, 3) := by decide +kernel
theorem dX5_keyword_73 : decode cX5_keyword 73 = .ok (.ifCond .eq 5, 3) := by decide +kernel
theorem dX5_keyword_76 : decode cX5_keyword 76 = .ok (.iconst 5, 1) := by decide +kernel
theorem dX5_keyword_77 : decode cX5_keyword 77 = .ok (.ireturn, 1) := by decide +kernel
theorem dX5_keyword_78 : decode cX5_keyword 78 = .ok (.aload_n 0, 1) := by decide +kernel
theorem dX5_keyword_79 : decode cX5_keyword 79 = .ok (.ldc 190, 2) := by decide +kernel
theorem dX5_keyword_81 : decode cX5_keyword 81 = .ok (.invokevirtual 177, 3) := by decide +kernel
theorem dX5_keyword_84 : decode cX5_keyword 84 = .ok (.ifCond .eq 6, 3) := by decide +kernel
theorem dX5_keyword_87 : decode cX5_keyword 87 = .ok (.bipush 6, 2) := by decide +kernel
theorem dX5_keyword_89 : decode cX5_keyword 89 = .ok (.ireturn, 1) := by decide +kernel
theorem dX5_keyword_90 : decode cX5_keyword 90 = .ok (.aload_n 0, 1) := by decide +kernel
theorem dX5_keyword_91 : decode cX5_keyword 91 = .ok (.ldc 192, 2) := by decide +kernel
theorem dX5_keyword_93 : decode cX5_keyword 93 = .ok (.invokevirtual 177, 3) := by decide +kernel
theorem dX5_keyword_96 : decode cX5_keyword 96 = .ok (.ifCond .eq 6, 3) := by decide +kernel
theorem dX5_keyword_99 : decode cX5_keyword 99 = .ok (.bipush 7, 2) := by decide +kernel
theorem dX5_keyword_101 : decode cX5_keyword 101 = .ok (.ireturn, 1) := by decide +kernel
theorem dX5_keyword_102 : decode cX5_keyword 102 = .ok (.aload_n 0, 1) := by decide +kernel
theorem dX5_keyword_103 : decode cX5_keyword 103 = .ok (.ldc 193, 2) := by decide +kernel
theorem dX5_keyword_105 : decode cX5_keyword 105 = .ok (.invokevirtual 177, 3) := by decide +kernel
theorem dX5_keyword_108 : decode cX5_keyword 108 = .ok (.ifCond .eq 6, 3) := by decide +kernel
theorem dX5_keyword_111 : decode cX5_keyword 111 = .ok (.bipush 8, 2) := by decide +kernel
theorem dX5_keyword_113 : decode cX5_keyword 113 = .ok (.ireturn, 1) := by decide +kernel
theorem dX5_keyword_114 : decode cX5_keyword 114 = .ok (.aload_n 0, 1) := by decide +kernel
theorem dX5_keyword_115 : decode cX5_keyword 115 = .ok (.ldc 195, 2) := by decide +kernel
theorem dX5_keyword_117 : decode cX5_keyword 117 = .ok (.invokevirtual 177, 3) := by decide +kernel
theorem dX5_keyword_120 : decode cX5_keyword 120 = .ok (.ifCond .eq 6, 3) := by decide +kernel
theorem dX5_keyword_123 : decode cX5_keyword 123 = .ok (.bipush 9, 2) := by decide +kernel
theorem dX5_keyword_125 : decode cX5_keyword 125 = .ok (.ireturn, 1) := by decide +kernel
theorem dX5_keyword_126 : decode cX5_keyword 126 = .ok (.aload_n 0, 1) := by decide +kernel
theorem dX5_keyword_127 : decode cX5_keyword 127 = .ok (.ldc 197, 2) := by decide +kernel
theorem dX5_keyword_129 : decode cX5_keyword 129 = .ok (.invokevirtual 177, 3) := by decide +kernel
theorem dX5_keyword_132 : decode cX5_keyword 132 = .ok (.ifCond .eq 6, 3) := by decide +kernel
theorem dX5_keyword_135 : decode cX5_keyword 135 = .ok (.bipush 10, 2) := by decide +kernel
theorem dX5_keyword_137 : decode cX5_keyword 137 = .ok (.ireturn, 1) := by decide +kernel
theorem dX5_keyword_138 : decode cX5_keyword 138 = .ok (.iconst (-1), 1) := by decide +kernel
theorem dX5_keyword_139 : decode cX5_keyword 139 = .ok (.ireturn, 1) := by decide +kernel
theorem dX5_spells_0 : decode cX5_spells 0 = .ok (.aload_n 0, 1) := by decide +kernel
theorem dX5_spells_1 : decode cX5_spells 1 = .ok (.getfield 31, 3) := by decide +kernel
theorem dX5_spells_4 : decode cX5_spells 4 = .ok (.aload_n 0, 1) := by decide +kernel
theorem dX5_spells_5 : decode cX5_spells 5 = .ok (.getfield 159, 3) := by decide +kernel
theorem dX5_spells_8 : decode cX5_spells 8 = .ok (.isub, 1) := by decide +kernel
theorem dX5_spells_9 : decode cX5_spells 9 = .ok (.aload_n 1, 1) := by decide +kernel
theorem dX5_spells_10 : decode cX5_spells 10 = .ok (.invokevirtual 199, 3) := by decide +kernel
theorem dX5_spells_13 : decode cX5_spells 13 = .ok (.if_icmp .eq 5, 3) := by decide +kernel
theorem dX5_spells_16 : decode cX5_spells 16 = .ok (.iconst 0, 1) := by decide +kernel
theorem dX5_spells_17 : decode cX5_spells 17 = .ok (.ireturn, 1) := by decide +kernel
theorem dX5_spells_18 : decode cX5_spells 18 = .ok (.iconst 0, 1) := by decide +kernel
theorem dX5_spells_19 : decode cX5_spells 19 = .ok (.istore_n 2, 1) := by decide +kernel
theorem dX5_spells_20 : decode cX5_spells 20 = .ok (.iload_n 2, 1) := by decide +kernel
theorem dX5_spells_21 : decode cX5_spells 21 = .ok (.aload_n 1, 1) := by decide +kernel
theorem dX5_spells_22 : decode cX5_spells 22 = .ok (.invokevirtual 199, 3) := by decide +kernel
theorem dX5_spells_25 : decode cX5_spells 25 = .ok (.if_icmp .ge 30, 3) := by decide +kernel
theorem dX5_spells_28 : decode cX5_spells 28 = .ok (.aload_n 0, 1) := by decide +kernel
theorem dX5_spells_29 : decode cX5_spells 29 = .ok (.getfield 9, 3) := by decide +kernel
theorem dX5_spells_32 : decode cX5_spells 32 = .ok (.aload_n 0, 1) := by decide +kernel
theorem dX5_spells_33 : decode cX5_spells 33 = .ok (.getfield 159, 3) := by decide +kernel
theorem dX5_spells_36 : decode cX5_spells 36 = .ok (.iload_n 2, 1) := by decide +kernel
theorem dX5_spells_37 : decode cX5_spells 37 = .ok (.iadd, 1) := by decide +kernel
theorem dX5_spells_38 : decode cX5_spells 38 = .ok (.baload, 1) := by decide +kernel
theorem dX5_spells_39 : decode cX5_spells 39 = .ok (.aload_n 1, 1) := by decide +kernel
theorem dX5_spells_40 : decode cX5_spells 40 = .ok (.iload_n 2, 1) := by decide +kernel
theorem dX5_spells_41 : decode cX5_spells 41 = .ok (.invokevirtual 203, 3) := by decide +kernel
theorem dX5_spells_44 : decode cX5_spells 44 = .ok (.if_icmp .eq 5, 3) := by decide +kernel
theorem dX5_spells_47 : decode cX5_spells 47 = .ok (.iconst 0, 1) := by decide +kernel
theorem dX5_spells_48 : decode cX5_spells 48 = .ok (.ireturn, 1) := by decide +kernel
theorem dX5_spells_49 : decode cX5_spells 49 = .ok (.iinc 2 1, 3) := by decide +kernel
theorem dX5_spells_52 : decode cX5_spells 52 = .ok (.goto (-32), 3) := by decide +kernel
theorem dX5_spells_55 : decode cX5_spells 55 = .ok (.iconst 1, 1) := by decide +kernel
theorem dX5_spells_56 : decode cX5_spells 56 = .ok (.ireturn, 1) := by decide +kernel
theorem dX5_step_0 : decode cX5_step 0 = .ok (.aload_n 0, 1) := by decide +kernel
theorem dX5_step_1 : decode cX5_step 1 = .ok (.getfield 31, 3) := by decide +kernel
theorem dX5_step_4 : decode cX5_step 4 = .ok (.aload_n 0, 1) := by decide +kernel
theorem dX5_step_5 : decode cX5_step 5 = .ok (.getfield 23, 3) := by decide +kernel
theorem dX5_step_8 : decode cX5_step 8 = .ok (.if_icmp .ge 31, 3) := by decide +kernel
theorem dX5_step_11 : decode cX5_step 11 = .ok (.aload_n 0, 1) := by decide +kernel
theorem dX5_step_12 : decode cX5_step 12 = .ok (.getfield 9, 3) := by decide +kernel
theorem dX5_step_15 : decode cX5_step 15 = .ok (.aload_n 0, 1) := by decide +kernel
theorem dX5_step_16 : decode cX5_step 16 = .ok (.getfield 31, 3) := by decide +kernel
theorem dX5_step_19 : decode cX5_step 19 = .ok (.baload, 1) := by decide +kernel
theorem dX5_step_20 : decode cX5_step 20 = .ok (.invokestatic 207, 3) := by decide +kernel
theorem dX5_step_23 : decode cX5_step 23 = .ok (.ifCond .eq 16, 3) := by decide +kernel
theorem dX5_step_26 : decode cX5_step 26 = .ok (.aload_n 0, 1) := by decide +kernel
theorem dX5_step_27 : decode cX5_step 27 = .ok (.dup, 1) := by decide +kernel
theorem dX5_step_28 : decode cX5_step 28 = .ok (.getfield 31, 3) := by decide +kernel
theorem dX5_step_31 : decode cX5_step 31 = .ok (.iconst 1, 1) := by decide +kernel
theorem dX5_step_32 : decode cX5_step 32 = .ok (.iadd, 1) := by decide +kernel
theorem dX5_step_33 : decode cX5_step 33 = .ok (.putfield 31, 3) := by decide +kernel
theorem dX5_step_36 : decode cX5_step 36 = .ok (.goto (-36), 3) := by decide +kernel
theorem dX5_step_39 : decode cX5_step 39 = .ok (.aload_n 0, 1) := by decide +kernel
theorem dX5_step_40 : decode cX5_step 40 = .ok (.aload_n 0, 1) := by decide +kernel
theorem dX5_step_41 : decode cX5_step 41 = .ok (.getfield 31, 3) := by decide +kernel
theorem dX5_step_44 : decode cX5_step 44 = .ok (.putfield 159, 3) := by decide +kernel
theorem dX5_step_47 : decode cX5_step 47 = .ok (.aload_n 0, 1) := by decide +kernel
theorem dX5_step_48 : decode cX5_step 48 = .ok (.getfield 31, 3) := by decide +kernel
theorem dX5_step_51 : decode cX5_step 51 = .ok (.aload_n 0, 1) := by decide +kernel
theorem dX5_step_52 : decode cX5_step 52 = .ok (.getfield 23, 3) := by decide +kernel
theorem dX5_step_55 : decode cX5_step 55 = .ok (.if_icmp .lt 13, 3) := by decide +kernel
theorem dX5_step_58 : decode cX5_step 58 = .ok (.aload_n 0, 1) := by decide +kernel
theorem dX5_step_59 : decode cX5_step 59 = .ok (.sipush 258, 3) := by decide +kernel
theorem dX5_step_62 : decode cX5_step 62 = .ok (.putfield 37, 3) := by decide +kernel
theorem dX5_step_65 : decode cX5_step 65 = .ok (.goto 148, 3) := by decide +kernel
theorem dX5_step_68 : decode cX5_step 68 = .ok (.aload_n 0, 1) := by decide +kernel
theorem dX5_step_69 : decode cX5_step 69 = .ok (.getfield 9, 3) := by decide +kernel
theorem dX5_step_72 : decode cX5_step 72 = .ok (.aload_n 0, 1) := by decide +kernel
theorem dX5_step_73 : decode cX5_step 73 = .ok (.getfield 31, 3) := by decide +kernel
theorem dX5_step_76 : decode cX5_step 76 = .ok (.baload, 1) := by decide +kernel
theorem dX5_step_77 : decode cX5_step 77 = .ok (.invokestatic 211, 3) := by decide +kernel
theorem dX5_step_80 : decode cX5_step 80 = .ok (.ifCond .eq 49, 3) := by decide +kernel
theorem dX5_step_83 : decode cX5_step 83 = .ok (.aload_n 0, 1) := by decide +kernel
theorem dX5_step_84 : decode cX5_step 84 = .ok (.sipush 256, 3) := by decide +kernel
theorem dX5_step_87 : decode cX5_step 87 = .ok (.putfield 37, 3) := by decide +kernel
theorem dX5_step_90 : decode cX5_step 90 = .ok (.aload_n 0, 1) := by decide +kernel
theorem dX5_step_91 : decode cX5_step 91 = .ok (.getfield 31, 3) := by decide +kernel
theorem dX5_step_94 : decode cX5_step 94 = .ok (.aload_n 0, 1) := by decide +kernel
theorem dX5_step_95 : decode cX5_step 95 = .ok (.getfield 23, 3) := by decide +kernel
theorem dX5_step_98 : decode cX5_step 98 = .ok (.if_icmp .ge 115, 3) := by decide +kernel
theorem dX5_step_101 : decode cX5_step 101 = .ok (.aload_n 0, 1) := by decide +kernel
theorem dX5_step_102 : decode cX5_step 102 = .ok (.getfield 9, 3) := by decide +kernel
theorem dX5_step_105 : decode cX5_step 105 = .ok (.aload_n 0, 1) := by decide +kernel
theorem dX5_step_106 : decode cX5_step 106 = .ok (.getfield 31, 3) := by decide +kernel
theorem dX5_step_109 : decode cX5_step 109 = .ok (.baload, 1) := by decide +kernel
theorem dX5_step_110 : decode cX5_step 110 = .ok (.invokestatic 211, 3) := by decide +kernel
theorem dX5_step_113 : decode cX5_step 113 = .ok (.ifCond .eq 100, 3) := by decide +kernel
theorem dX5_step_116 : decode cX5_step 116 = .ok (.aload_n 0, 1) := by decide +kernel
theorem dX5_step_117 : decode cX5_step 117 = .ok (.dup, 1) := by decide +kernel
theorem dX5_step_118 : decode cX5_step 118 = .ok (.getfield 31, 3) := by decide +kernel
theorem dX5_step_121 : decode cX5_step 121 = .ok (.iconst 1, 1) := by decide +kernel
theorem dX5_step_122 : decode cX5_step 122 = .ok (.iadd, 1) := by decide +kernel
theorem dX5_step_123 : decode cX5_step 123 = .ok (.putfield 31, 3) := by decide +kernel
theorem dX5_step_126 : decode cX5_step 126 = .ok (.goto (-36), 3) := by decide +kernel
theorem dX5_step_129 : decode cX5_step 129 = .ok (.aload_n 0, 1) := by decide +kernel
theorem dX5_step_130 : decode cX5_step 130 = .ok (.getfield 9, 3) := by decide +kernel
theorem dX5_step_133 : decode cX5_step 133 = .ok (.aload_n 0, 1) := by decide +kernel
theorem dX5_step_134 : decode cX5_step 134 = .ok (.getfield 31, 3) := by decide +kernel
theorem dX5_step_137 : decode cX5_step 137 = .ok (.baload, 1) := by decide +kernel
theorem dX5_step_138 : decode cX5_step 138 = .ok (.invokestatic 214, 3) := by decide +kernel
theorem dX5_step_141 : decode cX5_step 141 = .ok (.ifCond .eq 49, 3) := by decide +kernel
theorem dX5_step_144 : decode cX5_step 144 = .ok (.aload_n 0, 1) := by decide +kernel
theorem dX5_step_145 : decode cX5_step 145 = .ok (.sipush 257, 3) := by decide +kernel
theorem dX5_step_148 : decode cX5_step 148 = .ok (.putfield 37, 3) := by decide +kernel
theorem dX5_step_151 : decode cX5_step 151 = .ok (.aload_n 0, 1) := by decide +kernel
theorem dX5_step_152 : decode cX5_step 152 = .ok (.getfield 31, 3) := by decide +kernel
theorem dX5_step_155 : decode cX5_step 155 = .ok (.aload_n 0, 1) := by decide +kernel
theorem dX5_step_156 : decode cX5_step 156 = .ok (.getfield 23, 3) := by decide +kernel
theorem dX5_step_159 : decode cX5_step 159 = .ok (.if_icmp .ge 54, 3) := by decide +kernel
theorem dX5_step_162 : decode cX5_step 162 = .ok (.aload_n 0, 1) := by decide +kernel
theorem dX5_step_163 : decode cX5_step 163 = .ok (.getfield 9, 3) := by decide +kernel
theorem dX5_step_166 : decode cX5_step 166 = .ok (.aload_n 0, 1) := by decide +kernel
theorem dX5_step_167 : decode cX5_step 167 = .ok (.getfield 31, 3) := by decide +kernel
theorem dX5_step_170 : decode cX5_step 170 = .ok (.baload, 1) := by decide +kernel
theorem dX5_step_171 : decode cX5_step 171 = .ok (.invokestatic 214, 3) := by decide +kernel
theorem dX5_step_174 : decode cX5_step 174 = .ok (.ifCond .eq 39, 3) := by decide +kernel
theorem dX5_step_177 : decode cX5_step 177 = .ok (.aload_n 0, 1) := by decide +kernel
theorem dX5_step_178 : decode cX5_step 178 = .ok (.dup, 1) := by decide +kernel
theorem dX5_step_179 : decode cX5_step 179 = .ok (.getfield 31, 3) := by decide +kernel
theorem dX5_step_182 : decode cX5_step 182 = .ok (.iconst 1, 1) := by decide +kernel
theorem dX5_step_183 : decode cX5_step 183 = .ok (.iadd, 1) := by decide +kernel
theorem dX5_step_184 : decode cX5_step 184 = .ok (.putfield 31, 3) := by decide +kernel
theorem dX5_step_187 : decode cX5_step 187 = .ok (.goto (-36), 3) := by decide +kernel
theorem dX5_step_190 : decode cX5_step 190 = .ok (.aload_n 0, 1) := by decide +kernel
theorem dX5_step_191 : decode cX5_step 191 = .ok (.aload_n 0, 1) := by decide +kernel
theorem dX5_step_192 : decode cX5_step 192 = .ok (.getfield 9, 3) := by decide +kernel
theorem dX5_step_195 : decode cX5_step 195 = .ok (.aload_n 0, 1) := by decide +kernel
theorem dX5_step_196 : decode cX5_step 196 = .ok (.getfield 31, 3) := by decide +kernel
theorem dX5_step_199 : decode cX5_step 199 = .ok (.baload, 1) := by decide +kernel
theorem dX5_step_200 : decode cX5_step 200 = .ok (.putfield 37, 3) := by decide +kernel
theorem dX5_step_203 : decode cX5_step 203 = .ok (.aload_n 0, 1) := by decide +kernel
theorem dX5_step_204 : decode cX5_step 204 = .ok (.dup, 1) := by decide +kernel
theorem dX5_step_205 : decode cX5_step 205 = .ok (.getfield 31, 3) := by decide +kernel
theorem dX5_step_208 : decode cX5_step 208 = .ok (.iconst 1, 1) := by decide +kernel
theorem dX5_step_209 : decode cX5_step 209 = .ok (.iadd, 1) := by decide +kernel
theorem dX5_step_210 : decode cX5_step 210 = .ok (.putfield 31, 3) := by decide +kernel
theorem dX5_step_213 : decode cX5_step 213 = .ok (.return_, 1) := by decide +kernel
theorem dX5_isBlank_0 : decode cX5_isBlank 0 = .ok (.iload_n 0, 1) := by decide +kernel
theorem dX5_isBlank_1 : decode cX5_isBlank 1 = .ok (.bipush 9, 2) := by decide +kernel
theorem dX5_isBlank_3 : decode cX5_isBlank 3 = .ok (.if_icmp .eq 15, 3) := by decide +kernel
theorem dX5_isBlank_6 : decode cX5_isBlank 6 = .ok (.iload_n 0, 1) := by decide +kernel
theorem dX5_isBlank_7 : decode cX5_isBlank 7 = .ok (.bipush 10, 2) := by decide +kernel
theorem dX5_isBlank_9 : decode cX5_isBlank 9 = .ok (.if_icmp .eq 9, 3) := by decide +kernel
theorem dX5_isBlank_12 : decode cX5_isBlank 12 = .ok (.iload_n 0, 1) := by decide +kernel
theorem dX5_isBlank_13 : decode cX5_isBlank 13 = .ok (.bipush 32, 2) := by decide +kernel
theorem dX5_isBlank_15 : decode cX5_isBlank 15 = .ok (.if_icmp .ne 7, 3) := by decide +kernel
theorem dX5_isBlank_18 : decode cX5_isBlank 18 = .ok (.iconst 1, 1) := by decide +kernel
theorem dX5_isBlank_19 : decode cX5_isBlank 19 = .ok (.goto 4, 3) := by decide +kernel
theorem dX5_isBlank_22 : decode cX5_isBlank 22 = .ok (.iconst 0, 1) := by decide +kernel
theorem dX5_isBlank_23 : decode cX5_isBlank 23 = .ok (.ireturn, 1) := by decide +kernel
theorem dX5_isLetter_0 : decode cX5_isLetter 0 = .ok (.iload_n 0, 1) := by decide +kernel
theorem dX5_isLetter_1 : decode cX5_isLetter 1 = .ok (.bipush 97, 2) := by decide +kernel
theorem dX5_isLetter_3 : decode cX5_isLetter 3 = .ok (.if_icmp .lt 13, 3) := by decide +kernel
theorem dX5_isLetter_6 : decode cX5_isLetter 6 = .ok (.iload_n 0, 1) := by decide +kernel
theorem dX5_isLetter_7 : decode cX5_isLetter 7 = .ok (.bipush 122, 2) := by decide +kernel
theorem dX5_isLetter_9 : decode cX5_isLetter 9 = .ok (.if_icmp .gt 7, 3) := by decide +kernel
theorem dX5_isLetter_12 : decode cX5_isLetter 12 = .ok (.iconst 1, 1) := by decide +kernel
theorem dX5_isLetter_13 : decode cX5_isLetter 13 = .ok (.goto 4, 3) := by decide +kernel
theorem dX5_isLetter_16 : decode cX5_isLetter 16 = .ok (.iconst 0, 1) := by decide +kernel
theorem dX5_isLetter_17 : decode cX5_isLetter 17 = .ok (.ireturn, 1) := by decide +kernel
theorem dX5_isDigit_0 : decode cX5_isDigit 0 = .ok (.iload_n 0, 1) := by decide +kernel
theorem dX5_isDigit_1 : decode cX5_isDigit 1 = .ok (.bipush 48, 2) := by decide +kernel
theorem dX5_isDigit_3 : decode cX5_isDigit 3 = .ok (.if_icmp .lt 13, 3) := by decide +kernel
theorem dX5_isDigit_6 : decode cX5_isDigit 6 = .ok (.iload_n 0, 1) := by decide +kernel
theorem dX5_isDigit_7 : decode cX5_isDigit 7 = .ok (.bipush 57, 2) := by decide +kernel
theorem dX5_isDigit_9 : decode cX5_isDigit 9 = .ok (.if_icmp .gt 7, 3) := by decide +kernel
theorem dX5_isDigit_12 : decode cX5_isDigit 12 = .ok (.iconst 1, 1) := by decide +kernel
theorem dX5_isDigit_13 : decode cX5_isDigit 13 = .ok (.goto 4, 3) := by decide +kernel
theorem dX5_isDigit_16 : decode cX5_isDigit 16 = .ok (.iconst 0, 1) := by decide +kernel
theorem dX5_isDigit_17 : decode cX5_isDigit 17 = .ok (.ireturn, 1) := by decide +kernel
theorem dX6_init_0 : decode cX6_init 0 = .ok (.aload_n 0, 1) := by decide +kernel
theorem dX6_init_1 : decode cX6_init 1 = .ok (.invokespecial 1, 3) := by decide +kernel
theorem dX6_init_4 : decode cX6_init 4 = .ok (.aload_n 0, 1) := by decide +kernel
theorem dX6_init_5 : decode cX6_init 5 = .ok (.bipush 64, 2) := by decide +kernel
theorem dX6_init_7 : decode cX6_init 7 = .ok (.newarray .byte, 2) := by decide +kernel
theorem dX6_init_9 : decode cX6_init 9 = .ok (.putfield 9, 3) := by decide +kernel
theorem dX6_init_12 : decode cX6_init 12 = .ok (.return_, 1) := by decide +kernel
theorem dX6_add_0 : decode cX6_add 0 = .ok (.aload_n 0, 1) := by decide +kernel
theorem dX6_add_1 : decode cX6_add 1 = .ok (.getfield 13, 3) := by decide +kernel
theorem dX6_add_4 : decode cX6_add 4 = .ok (.bipush 64, 2) := by decide +kernel
theorem dX6_add_6 : decode cX6_add 6 = .ok (.if_icmp .ge 24, 3) := by decide +kernel
theorem dX6_add_9 : decode cX6_add 9 = .ok (.aload_n 0, 1) := by decide +kernel
theorem dX6_add_10 : decode cX6_add 10 = .ok (.getfield 9, 3) := by decide +kernel
theorem dX6_add_13 : decode cX6_add 13 = .ok (.aload_n 0, 1) := by decide +kernel
theorem dX6_add_14 : decode cX6_add 14 = .ok (.getfield 13, 3) := by decide +kernel
theorem dX6_add_17 : decode cX6_add 17 = .ok (.iload_n 1, 1) := by decide +kernel
theorem dX6_add_18 : decode cX6_add 18 = .ok (.i2b, 1) := by decide +kernel
theorem dX6_add_19 : decode cX6_add 19 = .ok (.bastore, 1) := by decide +kernel
theorem dX6_add_20 : decode cX6_add 20 = .ok (.aload_n 0, 1) := by decide +kernel
theorem dX6_add_21 : decode cX6_add 21 = .ok (.dup, 1) := by decide +kernel
theorem dX6_add_22 : decode cX6_add 22 = .ok (.getfield 13, 3) := by decide +kernel
theorem dX6_add_25 : decode cX6_add 25 = .ok (.iconst 1, 1) := by decide +kernel
theorem dX6_add_26 : decode cX6_add 26 = .ok (.iadd, 1) := by decide +kernel
theorem dX6_add_27 : decode cX6_add 27 = .ok (.putfield 13, 3) := by decide +kernel
theorem dX6_add_30 : decode cX6_add 30 = .ok (.return_, 1) := by decide +kernel
theorem dX6_addText_0 : decode cX6_addText 0 = .ok (.iconst 0, 1) := by decide +kernel
theorem dX6_addText_1 : decode cX6_addText 1 = .ok (.istore_n 2, 1) := by decide +kernel
theorem dX6_addText_2 : decode cX6_addText 2 = .ok (.iload_n 2, 1) := by decide +kernel
theorem dX6_addText_3 : decode cX6_addText 3 = .ok (.aload_n 1, 1) := by decide +kernel
theorem dX6_addText_4 : decode cX6_addText 4 = .ok (.invokevirtual 17, 3) := by decide +kernel
theorem dX6_addText_7 : decode cX6_addText 7 = .ok (.if_icmp .ge 18, 3) := by decide +kernel
theorem dX6_addText_10 : decode cX6_addText 10 = .ok (.aload_n 0, 1) := by decide +kernel
theorem dX6_addText_11 : decode cX6_addText 11 = .ok (.aload_n 1, 1) := by decide +kernel
theorem dX6_addText_12 : decode cX6_addText 12 = .ok (.iload_n 2, 1) := by decide +kernel
theorem dX6_addText_13 : decode cX6_addText 13 = .ok (.invokevirtual 22, 3) := by decide +kernel
theorem dX6_addText_16 : decode cX6_addText 16 = .ok (.invokevirtual 26, 3) := by decide +kernel
theorem dX6_addText_19 : decode cX6_addText 19 = .ok (.iinc 2 1, 3) := by decide +kernel
theorem dX6_addText_22 : decode cX6_addText 22 = .ok (.goto (-20), 3) := by decide +kernel
theorem dX6_addText_25 : decode cX6_addText 25 = .ok (.return_, 1) := by decide +kernel
theorem dX6_addHundredths_0 : decode cX6_addHundredths 0 = .ok (.sipush 10000, 3) := by decide +kernel
theorem dX6_addHundredths_3 : decode cX6_addHundredths 3 = .ok (.istore_n 2, 1) := by decide +kernel
theorem dX6_addHundredths_4 : decode cX6_addHundredths 4 = .ok (.iload_n 2, 1) := by decide +kernel
theorem dX6_addHundredths_5 : decode cX6_addHundredths 5 = .ok (.ifCond .le 47, 3) := by decide +kernel
theorem dX6_addHundredths_8 : decode cX6_addHundredths 8 = .ok (.iload_n 2, 1) := by decide +kernel
theorem dX6_addHundredths_9 : decode cX6_addHundredths 9 = .ok (.bipush 10, 2) := by decide +kernel
theorem dX6_addHundredths_11 : decode cX6_addHundredths 11 = .ok (.if_icmp .ne 9, 3) := by decide +kernel
theorem dX6_addHundredths_14 : decode cX6_addHundredths 14 = .ok (.aload_n 0, 1) := by decide +kernel
theorem dX6_addHundredths_15 : decode cX6_addHundredths 15 = .ok (.bipush 46, 2) := by decide +kernel
theorem dX6_addHundredths_17 : decode cX6_addHundredths 17 = .ok (.invokevirtual 26, 3) := by decide +kernel
theorem dX6_addHundredths_20 : decode cX6_addHundredths 20 = .ok (.iload_n 2, 1) := by decide +kernel
theorem dX6_addHundredths_21 : decode cX6_addHundredths 21 = .ok (.bipush 100, 2) := by decide +kernel
theorem dX6_addHundredths_23 : decode cX6_addHundredths 23 = .ok (.if_icmp .le 8, 3) := by decide +kernel
theorem dX6_addHundredths_26 : decode cX6_addHundredths 26 = .ok (.iload_n 1, 1) := by decide +kernel
theorem dX6_addHundredths_27 : decode cX6_addHundredths 27 = .ok (.iload_n 2, 1) := by decide +kernel
theorem dX6_addHundredths_28 : decode cX6_addHundredths 28 = .ok (.if_icmp .lt 16, 3) := by decide +kernel
theorem dX6_addHundredths_31 : decode cX6_addHundredths 31 = .ok (.aload_n 0, 1) := by decide +kernel
theorem dX6_addHundredths_32 : decode cX6_addHundredths 32 = .ok (.bipush 48, 2) := by decide +kernel
theorem dX6_addHundredths_34 : decode cX6_addHundredths 34 = .ok (.iload_n 1, 1) := by decide +kernel
theorem dX6_addHundredths_35 : decode cX6_addHundredths 35 = .ok (.iload_n 2, 1) := by decide +kernel
theorem dX6_addHundredths_36 : decode cX6_addHundredths 36 = .ok (.idiv, 1) := by decide +kernel
theorem dX6_addHundredths_37 : decode cX6_addHundredths 37 = .ok (.bipush 10, 2) := by decide +kernel
theorem dX6_addHundredths_39 : decode cX6_addHundredths 39 = .ok (.irem, 1) := by decide +kernel
theorem dX6_addHundredths_40 : decode cX6_addHundredths 40 = .ok (.iadd, 1) := by decide +kernel
theorem dX6_addHundredths_41 : decode cX6_addHundredths 41 = .ok (.invokevirtual 26, 3) := by decide +kernel
theorem dX6_addHundredths_44 : decode cX6_addHundredths 44 = .ok (.iload_n 2, 1) := by decide +kernel
theorem dX6_addHundredths_45 : decode cX6_addHundredths 45 = .ok (.bipush 10, 2) := by decide +kernel
theorem dX6_addHundredths_47 : decode cX6_addHundredths 47 = .ok (.idiv, 1) := by decide +kernel
theorem dX6_addHundredths_48 : decode cX6_addHundredths 48 = .ok (.istore_n 2, 1) := by decide +kernel
theorem dX6_addHundredths_49 : decode cX6_addHundredths 49 = .ok (.goto (-45), 3) := by decide +kernel
theorem dX6_addHundredths_52 : decode cX6_addHundredths 52 = .ok (.return_, 1) := by decide +kernel
theorem dX7_init_0 : decode cX7_init 0 = .ok (.aload_n 0, 1) := by decide +kernel
theorem dX7_init_1 : decode cX7_init 1 = .ok (.invokespecial 3, 3) := by decide +kernel
theorem dX7_init_4 : decode cX7_init 4 = .ok (.aload_n 0, 1) := by decide +kernel
theorem dX7_init_5 : decode cX7_init 5 = .ok (.bipush 40, 2) := by decide +kernel
theorem dX7_init_7 : decode cX7_init 7 = .ok (.newarray .int, 2) := by decide +kernel
theorem dX7_init_9 : decode cX7_init 9 = .ok (.putfield 9, 3) := by decide +kernel
theorem dX7_init_12 : decode cX7_init 12 = .ok (.aload_n 0, 1) := by decide +kernel
theorem dX7_init_13 : decode cX7_init 13 = .ok (.bipush 40, 2) := by decide +kernel
theorem dX7_init_15 : decode cX7_init 15 = .ok (.newarray .int, 2) := by decide +kernel
theorem dX7_init_17 : decode cX7_init 17 = .ok (.putfield 15, 3) := by decide +kernel
theorem dX7_init_20 : decode cX7_init 20 = .ok (.aload_n 0, 1) := by decide +kernel
theorem dX7_init_21 : decode cX7_init 21 = .ok (.bipush 40, 2) := by decide +kernel
theorem dX7_init_23 : decode cX7_init 23 = .ok (.newarray .int, 2) := by decide +kernel
theorem dX7_init_25 : decode cX7_init 25 = .ok (.putfield 18, 3) := by decide +kernel
theorem dX7_init_28 : decode cX7_init 28 = .ok (.aload_n 0, 1) := by decide +kernel
theorem dX7_init_29 : decode cX7_init 29 = .ok (.bipush 40, 2) := by decide +kernel
theorem dX7_init_31 : decode cX7_init 31 = .ok (.newarray .int, 2) := by decide +kernel
theorem dX7_init_33 : decode cX7_init 33 = .ok (.putfield 21, 3) := by decide +kernel
theorem dX7_init_36 : decode cX7_init 36 = .ok (.aload_n 0, 1) := by decide +kernel
theorem dX7_init_37 : decode cX7_init 37 = .ok (.bipush 40, 2) := by decide +kernel
theorem dX7_init_39 : decode cX7_init 39 = .ok (.newarray .int, 2) := by decide +kernel
theorem dX7_init_41 : decode cX7_init 41 = .ok (.putfield 24, 3) := by decide +kernel
theorem dX7_init_44 : decode cX7_init 44 = .ok (.aload_n 0, 1) := by decide +kernel
theorem dX7_init_45 : decode cX7_init 45 = .ok (.bipush 40, 2) := by decide +kernel
theorem dX7_init_47 : decode cX7_init 47 = .ok (.newarray .int, 2) := by decide +kernel
theorem dX7_init_49 : decode cX7_init 49 = .ok (.putfield 27, 3) := by decide +kernel
theorem dX7_init_52 : decode cX7_init 52 = .ok (.aload_n 0, 1) := by decide +kernel
theorem dX7_init_53 : decode cX7_init 53 = .ok (.bipush 40, 2) := by decide +kernel
theorem dX7_init_55 : decode cX7_init 55 = .ok (.newarray .int, 2) := by decide +kernel
theorem dX7_init_57 : decode cX7_init 57 = .ok (.putfield 30, 3) := by decide +kernel
theorem dX7_init_60 : decode cX7_init 60 = .ok (.aload_n 0, 1) := by decide +kernel
theorem dX7_init_61 : decode cX7_init 61 = .ok (.bipush 40, 2) := by decide +kernel
theorem dX7_init_63 : decode cX7_init 63 = .ok (.newarray .int, 2) := by decide +kernel
theorem dX7_init_65 : decode cX7_init 65 = .ok (.putfield 33, 3) := by decide +kernel
theorem dX7_init_68 : decode cX7_init 68 = .ok (.aload_n 0, 1) := by decide +kernel
theorem dX7_init_69 : decode cX7_init 69 = .ok (.bipush 40, 2) := by decide +kernel
theorem dX7_init_71 : decode cX7_init 71 = .ok (.newarray .int, 2) := by decide +kernel
theorem dX7_init_73 : decode cX7_init 73 = .ok (.putfield 36, 3) := by decide +kernel
theorem dX7_init_76 : decode cX7_init 76 = .ok (.aload_n 0, 1) := by decide +kernel
theorem dX7_init_77 : decode cX7_init 77 = .ok (.bipush 40, 2) := by decide +kernel
theorem dX7_init_79 : decode cX7_init 79 = .ok (.newarray .boolean, 2) := by decide +kernel
theorem dX7_init_81 : decode cX7_init 81 = .ok (.putfield 39, 3) := by decide +kernel
theorem dX7_init_84 : decode cX7_init 84 = .ok (.return_, 1) := by decide +kernel
theorem dX7_add_0 : decode cX7_add 0 = .ok (.aload_n 0, 1) := by decide +kernel
theorem dX7_add_1 : decode cX7_add 1 = .ok (.getfield 43, 3) := by decide +kernel
theorem dX7_add_4 : decode cX7_add 4 = .ok (.bipush 40, 2) := by decide +kernel
theorem dX7_add_6 : decode cX7_add 6 = .ok (.if_icmp .lt 4, 3) := by decide +kernel
theorem dX7_add_9 : decode cX7_add 9 = .ok (.return_, 1) := by decide +kernel
theorem dX7_add_10 : decode cX7_add 10 = .ok (.aload_n 0, 1) := by decide +kernel
theorem dX7_add_11 : decode cX7_add 11 = .ok (.getfield 9, 3) := by decide +kernel
theorem dX7_add_14 : decode cX7_add 14 = .ok (.aload_n 0, 1) := by decide +kernel
theorem dX7_add_15 : decode cX7_add 15 = .ok (.getfield 43, 3) := by decide +kernel
theorem dX7_add_18 : decode cX7_add 18 = .ok (.iload_n 1, 1) := by decide +kernel
theorem dX7_add_19 : decode cX7_add 19 = .ok (.iastore, 1) := by decide +kernel
theorem dX7_add_20 : decode cX7_add 20 = .ok (.aload_n 0, 1) := by decide +kernel
theorem dX7_add_21 : decode cX7_add 21 = .ok (.getfield 15, 3) := by decide +kernel
theorem dX7_add_24 : decode cX7_add 24 = .ok (.aload_n 0, 1) := by decide +kernel
theorem dX7_add_25 : decode cX7_add 25 = .ok (.getfield 43, 3) := by decide +kernel
theorem dX7_add_28 : decode cX7_add 28 = .ok (.iload_n 2, 1) := by decide +kernel
theorem dX7_add_29 : decode cX7_add 29 = .ok (.iastore, 1) := by decide +kernel
theorem dX7_add_30 : decode cX7_add 30 = .ok (.aload_n 0, 1) := by decide +kernel
theorem dX7_add_31 : decode cX7_add 31 = .ok (.getfield 18, 3) := by decide +kernel
theorem dX7_add_34 : decode cX7_add 34 = .ok (.aload_n 0, 1) := by decide +kernel
theorem dX7_add_35 : decode cX7_add 35 = .ok (.getfield 43, 3) := by decide +kernel
theorem dX7_add_38 : decode cX7_add 38 = .ok (.iload_n 3, 1) := by decide +kernel
theorem dX7_add_39 : decode cX7_add 39 = .ok (.iastore, 1) := by decide +kernel
theorem dX7_add_40 : decode cX7_add 40 = .ok (.aload_n 0, 1) := by decide +kernel
theorem dX7_add_41 : decode cX7_add 41 = .ok (.getfield 21, 3) := by decide +kernel
theorem dX7_add_44 : decode cX7_add 44 = .ok (.aload_n 0, 1) := by decide +kernel
theorem dX7_add_45 : decode cX7_add 45 = .ok (.getfield 43, 3) := by decide +kernel
theorem dX7_add_48 : decode cX7_add 48 = .ok (.iload 4, 2) := by decide +kernel
theorem dX7_add_50 : decode cX7_add 50 = .ok (.iastore, 1) := by decide +kernel
theorem dX7_add_51 : decode cX7_add 51 = .ok (.aload_n 0, 1) := by decide +kernel
theorem dX7_add_52 : decode cX7_add 52 = .ok (.getfield 24, 3) := by decide +kernel
theorem dX7_add_55 : decode cX7_add 55 = .ok (.aload_n 0, 1) := by decide +kernel
theorem dX7_add_56 : decode cX7_add 56 = .ok (.getfield 43, 3) := by decide +kernel
theorem dX7_add_59 : decode cX7_add 59 = .ok (.iload 5, 2) := by decide +kernel
theorem dX7_add_61 : decode cX7_add 61 = .ok (.iastore, 1) := by decide +kernel
theorem dX7_add_62 : decode cX7_add 62 = .ok (.aload_n 0, 1) := by decide +kernel
theorem dX7_add_63 : decode cX7_add 63 = .ok (.getfield 27, 3) := by decide +kernel
theorem dX7_add_66 : decode cX7_add 66 = .ok (.aload_n 0, 1) := by decide +kernel
theorem dX7_add_67 : decode cX7_add 67 = .ok (.getfield 43, 3) := by decide +kernel
theorem dX7_add_70 : decode cX7_add 70 = .ok (.iload 6, 2) := by decide +kernel
theorem dX7_add_72 : decode cX7_add 72 = .ok (.iastore, 1) := by decide +kernel
theorem dX7_add_73 : decode cX7_add 73 = .ok (.aload_n 0, 1) := by decide +kernel
theorem dX7_add_74 : decode cX7_add 74 = .ok (.getfield 30, 3) := by decide +kernel
theorem dX7_add_77 : decode cX7_add 77 = .ok (.aload_n 0, 1) := by decide +kernel
theorem dX7_add_78 : decode cX7_add 78 = .ok (.getfield 43, 3) := by decide +kernel
theorem dX7_add_81 : decode cX7_add 81 = .ok (.iload 7, 2) := by decide +kernel
theorem dX7_add_83 : decode cX7_add 83 = .ok (.iastore, 1) := by decide +kernel
theorem dX7_add_84 : decode cX7_add 84 = .ok (.aload_n 0, 1) := by decide +kernel
theorem dX7_add_85 : decode cX7_add 85 = .ok (.getfield 39, 3) := by decide +kernel
theorem dX7_add_88 : decode cX7_add 88 = .ok (.aload_n 0, 1) := by decide +kernel
theorem dX7_add_89 : decode cX7_add 89 = .ok (.getfield 43, 3) := by decide +kernel
theorem dX7_add_92 : decode cX7_add 92 = .ok (.iconst 1, 1) := by decide +kernel
theorem dX7_add_93 : decode cX7_add 93 = .ok (.bastore, 1) := by decide +kernel
theorem dX7_add_94 : decode cX7_add 94 = .ok (.aload_n 0, 1) := by decide +kernel
theorem dX7_add_95 : decode cX7_add 95 = .ok (.dup, 1) := by decide +kernel
theorem dX7_add_96 : decode cX7_add 96 = .ok (.getfield 43, 3) := by decide +kernel
theorem dX7_add_99 : decode cX7_add 99 = .ok (.iconst 1, 1) := by decide +kernel
theorem dX7_add_100 : decode cX7_add 100 = .ok (.iadd, 1) := by decide +kernel
theorem dX7_add_101 : decode cX7_add 101 = .ok (.putfield 43, 3) := by decide +kernel
theorem dX7_add_104 : decode cX7_add 104 = .ok (.return_, 1) := by decide +kernel
theorem dX7_isOf_0 : decode cX7_isOf 0 = .ok (.aload_n 0, 1) := by decide +kernel
theorem dX7_isOf_1 : decode cX7_isOf 1 = .ok (.getfield 39, 3) := by decide +kernel
theorem dX7_isOf_4 : decode cX7_isOf 4 = .ok (.iload_n 1, 1) := by decide +kernel
theorem dX7_isOf_5 : decode cX7_isOf 5 = .ok (.baload, 1) := by decide +kernel
theorem dX7_isOf_6 : decode cX7_isOf 6 = .ok (.ifCond .eq 27, 3) := by decide +kernel
theorem dX7_isOf_9 : decode cX7_isOf 9 = .ok (.aload_n 0, 1) := by decide +kernel
theorem dX7_isOf_10 : decode cX7_isOf 10 = .ok (.getfield 15, 3) := by decide +kernel
theorem dX7_isOf_13 : decode cX7_isOf 13 = .ok (.iload_n 1, 1) := by decide +kernel
theorem dX7_isOf_14 : decode cX7_isOf 14 = .ok (.iaload, 1) := by decide +kernel
theorem dX7_isOf_15 : decode cX7_isOf 15 = .ok (.iload_n 2, 1) := by decide +kernel
theorem dX7_isOf_16 : decode cX7_isOf 16 = .ok (.if_icmp .ne 17, 3) := by decide +kernel
theorem dX7_isOf_19 : decode cX7_isOf 19 = .ok (.aload_n 0, 1) := by decide +kernel
theorem dX7_isOf_20 : decode cX7_isOf 20 = .ok (.getfield 9, 3) := by decide +kernel
theorem dX7_isOf_23 : decode cX7_isOf 23 = .ok (.iload_n 1, 1) := by decide +kernel
theorem dX7_isOf_24 : decode cX7_isOf 24 = .ok (.iaload, 1) := by decide +kernel
theorem dX7_isOf_25 : decode cX7_isOf 25 = .ok (.iload_n 3, 1) := by decide +kernel
theorem dX7_isOf_26 : decode cX7_isOf 26 = .ok (.if_icmp .ne 7, 3) := by decide +kernel
theorem dX7_isOf_29 : decode cX7_isOf 29 = .ok (.iconst 1, 1) := by decide +kernel
theorem dX7_isOf_30 : decode cX7_isOf 30 = .ok (.goto 4, 3) := by decide +kernel
theorem dX7_isOf_33 : decode cX7_isOf 33 = .ok (.iconst 0, 1) := by decide +kernel
theorem dX7_isOf_34 : decode cX7_isOf 34 = .ok (.ireturn, 1) := by decide +kernel
theorem dX7_valueAt_0 : decode cX7_valueAt 0 = .ok (.ldc2_w 47, 3) := by decide +kernel
theorem dX7_valueAt_3 : decode cX7_valueAt 3 = .ok (.aload_n 0, 1) := by decide +kernel
theorem dX7_valueAt_4 : decode cX7_valueAt 4 = .ok (.getfield 36, 3) := by decide +kernel
theorem dX7_valueAt_7 : decode cX7_valueAt 7 = .ok (.iload_n 1, 1) := by decide +kernel
theorem dX7_valueAt_8 : decode cX7_valueAt 8 = .ok (.iaload, 1) := by decide +kernel
theorem dX7_valueAt_9 : decode cX7_valueAt 9 = .ok (.i2l, 1) := by decide +kernel
theorem dX7_valueAt_10 : decode cX7_valueAt 10 = .ok (.lmul, 1) := by decide +kernel
theorem dX7_valueAt_11 : decode cX7_valueAt 11 = .ok (.aload_n 0, 1) := by decide +kernel
theorem dX7_valueAt_12 : decode cX7_valueAt 12 = .ok (.getfield 27, 3) := by decide +kernel
theorem dX7_valueAt_15 : decode cX7_valueAt 15 = .ok (.iload_n 1, 1) := by decide +kernel
theorem dX7_valueAt_16 : decode cX7_valueAt 16 = .ok (.iaload, 1) := by decide +kernel
theorem dX7_valueAt_17 : decode cX7_valueAt 17 = .ok (.i2l, 1) := by decide +kernel
theorem dX7_valueAt_18 : decode cX7_valueAt 18 = .ok (.lmul, 1) := by decide +kernel
theorem dX7_valueAt_19 : decode cX7_valueAt 19 = .ok (.lreturn, 1) := by decide +kernel
theorem dX7_exportValue_0 : decode cX7_exportValue 0 = .ok (.lconst 0, 1) := by decide +kernel
theorem dX7_exportValue_1 : decode cX7_exportValue 1 = .ok (.lstore_n 2, 1) := by decide +kernel
theorem dX7_exportValue_2 : decode cX7_exportValue 2 = .ok (.iconst 0, 1) := by decide +kernel
theorem dX7_exportValue_3 : decode cX7_exportValue 3 = .ok (.istore 4, 2) := by decide +kernel
theorem dX7_exportValue_5 : decode cX7_exportValue 5 = .ok (.iload 4, 2) := by decide +kernel
theorem dX7_exportValue_7 : decode cX7_exportValue 7 = .ok (.aload_n 0, 1) := by decide +kernel
theorem dX7_exportValue_8 : decode cX7_exportValue 8 = .ok (.getfield 43, 3) := by decide +kernel
theorem dX7_exportValue_11 : decode cX7_exportValue 11 = .ok (.if_icmp .ge 29, 3) := by decide +kernel
theorem dX7_exportValue_14 : decode cX7_exportValue 14 = .ok (.aload_n 0, 1) := by decide +kernel
theorem dX7_exportValue_15 : decode cX7_exportValue 15 = .ok (.iload 4, 2) := by decide +kernel
theorem dX7_exportValue_17 : decode cX7_exportValue 17 = .ok (.iload_n 1, 1) := by decide +kernel
theorem dX7_exportValue_18 : decode cX7_exportValue 18 = .ok (.iconst 1, 1) := by decide +kernel
theorem dX7_exportValue_19 : decode cX7_exportValue 19 = .ok (.invokevirtual 49, 3) := by decide +kernel
theorem dX7_exportValue_22 : decode cX7_exportValue 22 = .ok (.ifCond .eq 12, 3) := by decide +kernel
theorem dX7_exportValue_25 : decode cX7_exportValue 25 = .ok (.lload_n 2, 1) := by decide +kernel
theorem dX7_exportValue_26 : decode cX7_exportValue 26 = .ok (.aload_n 0, 1) := by decide +kernel
theorem dX7_exportValue_27 : decode cX7_exportValue 27 = .ok (.iload 4, 2) := by decide +kernel
theorem dX7_exportValue_29 : decode cX7_exportValue 29 = .ok (.invokevirtual 53, 3) := by decide +kernel
theorem dX7_exportValue_32 : decode cX7_exportValue 32 = .ok (.ladd, 1) := by decide +kernel
theorem dX7_exportValue_33 : decode cX7_exportValue 33 = .ok (.lstore_n 2, 1) := by decide +kernel
theorem dX7_exportValue_34 : decode cX7_exportValue 34 = .ok (.iinc 4 1, 3) := by decide +kernel
theorem dX7_exportValue_37 : decode cX7_exportValue 37 = .ok (.goto (-32), 3) := by decide +kernel
theorem dX7_exportValue_40 : decode cX7_exportValue 40 = .ok (.lload_n 2, 1) := by decide +kernel
theorem dX7_exportValue_41 : decode cX7_exportValue 41 = .ok (.lreturn, 1) := by decide +kernel
theorem dX7_exportMany_0 : decode cX7_exportMany 0 = .ok (.iconst 0, 1) := by decide +kernel
theorem dX7_exportMany_1 : decode cX7_exportMany 1 = .ok (.istore_n 2, 1) := by decide +kernel
theorem dX7_exportMany_2 : decode cX7_exportMany 2 = .ok (.iconst 0, 1) := by decide +kernel
theorem dX7_exportMany_3 : decode cX7_exportMany 3 = .ok (.istore_n 3, 1) := by decide +kernel
theorem dX7_exportMany_4 : decode cX7_exportMany 4 = .ok (.iload_n 3, 1) := by decide +kernel
theorem dX7_exportMany_5 : decode cX7_exportMany 5 = .ok (.aload_n 0, 1) := by decide +kernel
theorem dX7_exportMany_6 : decode cX7_exportMany 6 = .ok (.getfield 43, 3) := by decide +kernel
theorem dX7_exportMany_9 : decode cX7_exportMany 9 = .ok (.if_icmp .ge 28, 3) := by decide +kernel
theorem dX7_exportMany_12 : decode cX7_exportMany 12 = .ok (.aload_n 0, 1) := by decide +kernel
theorem dX7_exportMany_13 : decode cX7_exportMany 13 = .ok (.iload_n 3, 1) := by decide +kernel
theorem dX7_exportMany_14 : decode cX7_exportMany 14 = .ok (.iload_n 1, 1) := by decide +kernel
theorem dX7_exportMany_15 : decode cX7_exportMany 15 = .ok (.iconst 1, 1) := by decide +kernel
theorem dX7_exportMany_16 : decode cX7_exportMany 16 = .ok (.invokevirtual 49, 3) := by decide +kernel
theorem dX7_exportMany_19 : decode cX7_exportMany 19 = .ok (.ifCond .eq 12, 3) := by decide +kernel
theorem dX7_exportMany_22 : decode cX7_exportMany 22 = .ok (.iload_n 2, 1) := by decide +kernel
theorem dX7_exportMany_23 : decode cX7_exportMany 23 = .ok (.aload_n 0, 1) := by decide +kernel
theorem dX7_exportMany_24 : decode cX7_exportMany 24 = .ok (.getfield 27, 3) := by decide +kernel
theorem dX7_exportMany_27 : decode cX7_exportMany 27 = .ok (.iload_n 3, 1) := by decide +kernel
theorem dX7_exportMany_28 : decode cX7_exportMany 28 = .ok (.iaload, 1) := by decide +kernel
theorem dX7_exportMany_29 : decode cX7_exportMany 29 = .ok (.iadd, 1) := by decide +kernel
theorem dX7_exportMany_30 : decode cX7_exportMany 30 = .ok (.istore_n 2, 1) := by decide +kernel
theorem dX7_exportMany_31 : decode cX7_exportMany 31 = .ok (.iinc 3 1, 3) := by decide +kernel
theorem dX7_exportMany_34 : decode cX7_exportMany 34 = .ok (.goto (-30), 3) := by decide +kernel
theorem dX7_exportMany_37 : decode cX7_exportMany 37 = .ok (.iload_n 2, 1) := by decide +kernel
theorem dX7_exportMany_38 : decode cX7_exportMany 38 = .ok (.ireturn, 1) := by decide +kernel
theorem dX7_countLive_0 : decode cX7_countLive 0 = .ok (.iconst 0, 1) := by decide +kernel
theorem dX7_countLive_1 : decode cX7_countLive 1 = .ok (.istore_n 1, 1) := by decide +kernel
theorem dX7_countLive_2 : decode cX7_countLive 2 = .ok (.iconst 0, 1) := by decide +kernel
theorem dX7_countLive_3 : decode cX7_countLive 3 = .ok (.istore_n 2, 1) := by decide +kernel
theorem dX7_countLive_4 : decode cX7_countLive 4 = .ok (.iload_n 2, 1) := by decide +kernel
theorem dX7_countLive_5 : decode cX7_countLive 5 = .ok (.aload_n 0, 1) := by decide +kernel
theorem dX7_countLive_6 : decode cX7_countLive 6 = .ok (.getfield 43, 3) := by decide +kernel
theorem dX7_countLive_9 : decode cX7_countLive 9 = .ok (.if_icmp .ge 21, 3) := by decide +kernel
theorem dX7_countLive_12 : decode cX7_countLive 12 = .ok (.aload_n 0, 1) := by decide +kernel
theorem dX7_countLive_13 : decode cX7_countLive 13 = .ok (.getfield 39, 3) := by decide +kernel
theorem dX7_countLive_16 : decode cX7_countLive 16 = .ok (.iload_n 2, 1) := by decide +kernel
theorem dX7_countLive_17 : decode cX7_countLive 17 = .ok (.baload, 1) := by decide +kernel
theorem dX7_countLive_18 : decode cX7_countLive 18 = .ok (.ifCond .eq 6, 3) := by decide +kernel
theorem dX7_countLive_21 : decode cX7_countLive 21 = .ok (.iinc 1 1, 3) := by decide +kernel
theorem dX7_countLive_24 : decode cX7_countLive 24 = .ok (.iinc 2 1, 3) := by decide +kernel
theorem dX7_countLive_27 : decode cX7_countLive 27 = .ok (.goto (-23), 3) := by decide +kernel
theorem dX7_countLive_30 : decode cX7_countLive 30 = .ok (.iload_n 1, 1) := by decide +kernel
theorem dX7_countLive_31 : decode cX7_countLive 31 = .ok (.ireturn, 1) := by decide +kernel
theorem dX8_init_0 : decode cX8_init 0 = .ok (.aload_n 0, 1) := by decide +kernel
theorem dX8_init_1 : decode cX8_init 1 = .ok (.invokespecial 3, 3) := by decide +kernel
theorem dX8_init_4 : decode cX8_init 4 = .ok (.aload_n 0, 1) := by decide +kernel
theorem dX8_init_5 : decode cX8_init 5 = .ok (.bipush 6, 2) := by decide +kernel
theorem dX8_init_7 : decode cX8_init 7 = .ok (.newarray .int, 2) := by decide +kernel
theorem dX8_init_9 : decode cX8_init 9 = .ok (.putfield 9, 3) := by decide +kernel
theorem dX8_init_12 : decode cX8_init 12 = .ok (.aload_n 0, 1) := by decide +kernel
theorem dX8_init_13 : decode cX8_init 13 = .ok (.bipush 6, 2) := by decide +kernel
theorem dX8_init_15 : decode cX8_init 15 = .ok (.newarray .int, 2) := by decide +kernel
theorem dX8_init_17 : decode cX8_init 17 = .ok (.putfield 15, 3) := by decide +kernel
theorem dX8_init_20 : decode cX8_init 20 = .ok (.aload_n 0, 1) := by decide +kernel
theorem dX8_init_21 : decode cX8_init 21 = .ok (.bipush 40, 2) := by decide +kernel
theorem dX8_init_23 : decode cX8_init 23 = .ok (.newarray .boolean, 2) := by decide +kernel
theorem dX8_init_25 : decode cX8_init 25 = .ok (.putfield 18, 3) := by decide +kernel
theorem dX8_init_28 : decode cX8_init 28 = .ok (.aload_n 0, 1) := by decide +kernel
theorem dX8_init_29 : decode cX8_init 29 = .ok (.bipush 40, 2) := by decide +kernel
theorem dX8_init_31 : decode cX8_init 31 = .ok (.newarray .boolean, 2) := by decide +kernel
theorem dX8_init_33 : decode cX8_init 33 = .ok (.putfield 22, 3) := by decide +kernel
theorem dX8_init_36 : decode cX8_init 36 = .ok (.aload_n 0, 1) := by decide +kernel
theorem dX8_init_37 : decode cX8_init 37 = .ok (.iconst (-1), 1) := by decide +kernel
theorem dX8_init_38 : decode cX8_init 38 = .ok (.putfield 25, 3) := by decide +kernel
theorem dX8_init_41 : decode cX8_init 41 = .ok (.aload_n 0, 1) := by decide +kernel
theorem dX8_init_42 : decode cX8_init 42 = .ok (.bipush 6, 2) := by decide +kernel
theorem dX8_init_44 : decode cX8_init 44 = .ok (.newarray .boolean, 2) := by decide +kernel
theorem dX8_init_46 : decode cX8_init 46 = .ok (.putfield 29, 3) := by decide +kernel
theorem dX8_init_49 : decode cX8_init 49 = .ok (.aload_n 0, 1) := by decide +kernel
theorem dX8_init_50 : decode cX8_init 50 = .ok (.bipush 24, 2) := by decide +kernel
theorem dX8_init_52 : decode cX8_init 52 = .ok (.newarray .int, 2) := by decide +kernel
theorem dX8_init_54 : decode cX8_init 54 = .ok (.putfield 32, 3) := by decide +kernel
theorem dX8_init_57 : decode cX8_init 57 = .ok (.aload_n 0, 1) := by decide +kernel
theorem dX8_init_58 : decode cX8_init 58 = .ok (.bipush 24, 2) := by decide +kernel
theorem dX8_init_60 : decode cX8_init 60 = .ok (.newarray .long, 2) := by decide +kernel
theorem dX8_init_62 : decode cX8_init 62 = .ok (.putfield 35, 3) := by decide +kernel
theorem dX8_init_65 : decode cX8_init 65 = .ok (.aload_n 0, 1) := by decide +kernel
theorem dX8_init_66 : decode cX8_init 66 = .ok (.iconst 3, 1) := by decide +kernel
theorem dX8_init_67 : decode cX8_init 67 = .ok (.newarray .int, 2) := by decide +kernel
theorem dX8_init_69 : decode cX8_init 69 = .ok (.putfield 39, 3) := by decide +kernel
theorem dX8_init_72 : decode cX8_init 72 = .ok (.aload_n 0, 1) := by decide +kernel
theorem dX8_init_73 : decode cX8_init 73 = .ok (.aload_n 1, 1) := by decide +kernel
theorem dX8_init_74 : decode cX8_init 74 = .ok (.putfield 42, 3) := by decide +kernel
theorem dX8_init_77 : decode cX8_init 77 = .ok (.return_, 1) := by decide +kernel
theorem dX8_look_0 : decode cX8_look 0 = .ok (.aload_n 0, 1) := by decide +kernel
theorem dX8_look_1 : decode cX8_look 1 = .ok (.aload_n 1, 1) := by decide +kernel
theorem dX8_look_2 : decode cX8_look 2 = .ok (.putfield 42, 3) := by decide +kernel
theorem dX8_look_5 : decode cX8_look 5 = .ok (.aload_n 0, 1) := by decide +kernel
theorem dX8_look_6 : decode cX8_look 6 = .ok (.iload_n 2, 1) := by decide +kernel
theorem dX8_look_7 : decode cX8_look 7 = .ok (.putfield 46, 3) := by decide +kernel
theorem dX8_look_10 : decode cX8_look 10 = .ok (.aload_n 0, 1) := by decide +kernel
theorem dX8_look_11 : decode cX8_look 11 = .ok (.invokevirtual 49, 3) := by decide +kernel
theorem dX8_look_14 : decode cX8_look 14 = .ok (.aload_n 0, 1) := by decide +kernel
theorem dX8_look_15 : decode cX8_look 15 = .ok (.invokevirtual 52, 3) := by decide +kernel
theorem dX8_look_18 : decode cX8_look 18 = .ok (.aload_n 0, 1) := by decide +kernel
theorem dX8_look_19 : decode cX8_look 19 = .ok (.invokevirtual 55, 3) := by decide +kernel
theorem dX8_look_22 : decode cX8_look 22 = .ok (.return_, 1) := by decide +kernel
theorem dX8_chooseBase_0 : decode cX8_chooseBase 0 = .ok (.iconst 0, 1) := by decide +kernel
theorem dX8_chooseBase_1 : decode cX8_chooseBase 1 = .ok (.istore_n 1, 1) := by decide +kernel
theorem dX8_chooseBase_2 : decode cX8_chooseBase 2 = .ok (.iload_n 1, 1) := by decide +kernel
theorem dX8_chooseBase_3 : decode cX8_chooseBase 3 = .ok (.iconst 3, 1) := by decide +kernel
theorem dX8_chooseBase_4 : decode cX8_chooseBase 4 = .ok (.if_icmp .ge 16, 3) := by decide +kernel
theorem dX8_chooseBase_7 : decode cX8_chooseBase 7 = .ok (.aload_n 0, 1) := by decide +kernel
theorem dX8_chooseBase_8 : decode cX8_chooseBase 8 = .ok (.getfield 39, 3) := by decide +kernel
theorem dX8_chooseBase_11 : decode cX8_chooseBase 11 = .ok (.iload_n 1, 1) := by decide +kernel
theorem dX8_chooseBase_12 : decode cX8_chooseBase 12 = .ok (.iconst 0, 1) := by decide +kernel
theorem dX8_chooseBase_13 : decode cX8_chooseBase 13 = .ok (.iastore, 1) := by decide +kernel
theorem dX8_chooseBase_14 : decode cX8_chooseBase 14 = .ok (.iinc 1 1, 3) := by decide +kernel
theorem dX8_chooseBase_17 : decode cX8_chooseBase 17 = .ok (.goto (-15), 3) := by decide +kernel
theorem dX8_chooseBase_20 : decode cX8_chooseBase 20 = .ok (.aload_n 0, 1) := by decide +kernel
theorem dX8_chooseBase_21 : decode cX8_chooseBase 21 = .ok (.getfield 42, 3) := by decide +kernel
theorem dX8_chooseBase_24 : decode cX8_chooseBase 24 = .ok (.getfield 58, 3) := by decide +kernel
theorem dX8_chooseBase_27 : decode cX8_chooseBase 27 = .ok (.astore_n 1, 1) := by decide +kernel
theorem dX8_chooseBase_28 : decode cX8_chooseBase 28 = .ok (.iconst 0, 1) := by decide +kernel
theorem dX8_chooseBase_29 : decode cX8_chooseBase 29 = .ok (.istore_n 2, 1) := by decide +kernel
theorem dX8_chooseBase_30 : decode cX8_chooseBase 30 = .ok (.iload_n 2, 1) := by decide +kernel
theorem dX8_chooseBase_31 : decode cX8_chooseBase 31 = .ok (.aload_n 1, 1) := by decide +kernel
theorem dX8_chooseBase_32 : decode cX8_chooseBase 32 = .ok (.getfield 64, 3) := by decide +kernel
theorem dX8_chooseBase_35 : decode cX8_chooseBase 35 = .ok (.if_icmp .ge 51, 3) := by decide +kernel
theorem dX8_chooseBase_38 : decode cX8_chooseBase 38 = .ok (.aload_n 1, 1) := by decide +kernel
theorem dX8_chooseBase_39 : decode cX8_chooseBase 39 = .ok (.getfield 69, 3) := by decide +kernel
theorem dX8_chooseBase_42 : decode cX8_chooseBase 42 = .ok (.iload_n 2, 1) := by decide +kernel
theorem dX8_chooseBase_43 : decode cX8_chooseBase 43 = .ok (.baload, 1) := by decide +kernel
theorem dX8_chooseBase_44 : decode cX8_chooseBase 44 = .ok (.ifCond .eq 36, 3) := by decide +kernel
theorem dX8_chooseBase_47 : decode cX8_chooseBase 47 = .ok (.aload_n 1, 1) := by decide +kernel
theorem dX8_chooseBase_48 : decode cX8_chooseBase 48 = .ok (.getfield 72, 3) := by decide +kernel
theorem dX8_chooseBase_51 : decode cX8_chooseBase 51 = .ok (.iload_n 2, 1) := by decide +kernel
theorem dX8_chooseBase_52 : decode cX8_chooseBase 52 = .ok (.iaload, 1) := by decide +kernel
theorem dX8_chooseBase_53 : decode cX8_chooseBase 53 = .ok (.aload_n 0, 1) := by decide +kernel
theorem dX8_chooseBase_54 : decode cX8_chooseBase 54 = .ok (.getfield 46, 3) := by decide +kernel
theorem dX8_chooseBase_57 : decode cX8_chooseBase 57 = .ok (.if_icmp .ne 23, 3) := by decide +kernel
theorem dX8_chooseBase_60 : decode cX8_chooseBase 60 = .ok (.aload_n 0, 1) := by decide +kernel
theorem dX8_chooseBase_61 : decode cX8_chooseBase 61 = .ok (.getfield 39, 3) := by decide +kernel
theorem dX8_chooseBase_64 : decode cX8_chooseBase 64 = .ok (.aload_n 1, 1) := by decide +kernel
theorem dX8_chooseBase_65 : decode cX8_chooseBase 65 = .ok (.getfield 74, 3) := by decide +kernel
theorem dX8_chooseBase_68 : decode cX8_chooseBase 68 = .ok (.iload_n 2, 1) := by decide +kernel
theorem dX8_chooseBase_69 : decode cX8_chooseBase 69 = .ok (.iaload, 1) := by decide +kernel
theorem dX8_chooseBase_70 : decode cX8_chooseBase 70 = .ok (.dup2, 1) := by decide +kernel
theorem dX8_chooseBase_71 : decode cX8_chooseBase 71 = .ok (.iaload, 1) := by decide +kernel
theorem dX8_chooseBase_72 : decode cX8_chooseBase 72 = .ok (.aload_n 1, 1) := by decide +kernel
theorem dX8_chooseBase_73 : decode cX8_chooseBase 73 = .ok (.getfield 77, 3) := by decide +kernel
theorem dX8_chooseBase_76 : decode cX8_chooseBase 76 = .ok (.iload_n 2, 1) := by decide +kernel
theorem dX8_chooseBase_77 : decode cX8_chooseBase 77 = .ok (.iaload, 1) := by decide +kernel
theorem dX8_chooseBase_78 : decode cX8_chooseBase 78 = .ok (.iadd, 1) := by decide +kernel
theorem dX8_chooseBase_79 : decode cX8_chooseBase 79 = .ok (.iastore, 1) := by decide +kernel
theorem dX8_chooseBase_80 : decode cX8_chooseBase 80 = .ok (.iinc 2 1, 3) := by decide +kernel
theorem dX8_chooseBase_83 : decode cX8_chooseBase 83 = .ok (.goto (-53), 3) := by decide +kernel
theorem dX8_chooseBase_86 : decode cX8_chooseBase 86 = .ok (.aload_n 0, 1) := by decide +kernel
theorem dX8_chooseBase_87 : decode cX8_chooseBase 87 = .ok (.aload_n 0, 1) := by decide +kernel
theorem dX8_chooseBase_88 : decode cX8_chooseBase 88 = .ok (.iconst 0, 1) := by decide +kernel
theorem dX8_chooseBase_89 : decode cX8_chooseBase 89 = .ok (.invokevirtual 80, 3) := by decide +kernel
theorem dX8_chooseBase_92 : decode cX8_chooseBase 92 = .ok (.ifCond .eq 7, 3) := by decide +kernel
theorem dX8_chooseBase_95 : decode cX8_chooseBase 95 = .ok (.iconst 0, 1) := by decide +kernel
theorem dX8_chooseBase_96 : decode cX8_chooseBase 96 = .ok (.goto 16, 3) := by decide +kernel
theorem dX8_chooseBase_99 : decode cX8_chooseBase 99 = .ok (.aload_n 0, 1) := by decide +kernel
theorem dX8_chooseBase_100 : decode cX8_chooseBase 100 = .ok (.iconst 2, 1) := by decide +kernel
theorem dX8_chooseBase_101 : decode cX8_chooseBase 101 = .ok (.invokevirtual 80, 3) := by decide +kernel
theorem dX8_chooseBase_104 : decode cX8_chooseBase 104 = .ok (.ifCond .eq 7, 3) := by decide +kernel
theorem dX8_chooseBase_107 : decode cX8_chooseBase 107 = .ok (.iconst 2, 1) := by decide +kernel
theorem dX8_chooseBase_108 : decode cX8_chooseBase 108 = .ok (.goto 4, 3) := by decide +kernel
theorem dX8_chooseBase_111 : decode cX8_chooseBase 111 = .ok (.iconst (-1), 1) := by decide +kernel
theorem dX8_chooseBase_112 : decode cX8_chooseBase 112 = .ok (.putfield 25, 3) := by decide +kernel
theorem dX8_chooseBase_115 : decode cX8_chooseBase 115 = .ok (.return_, 1) := by decide +kernel
theorem dX8_canBeBase_0 : decode cX8_canBeBase 0 = .ok (.aload_n 0, 1) := by decide +kernel
theorem dX8_canBeBase_1 : decode cX8_canBeBase 1 = .ok (.getfield 39, 3) := by decide +kernel
theorem dX8_canBeBase_4 : decode cX8_canBeBase 4 = .ok (.iload_n 1, 1) := by decide +kernel
theorem dX8_canBeBase_5 : decode cX8_canBeBase 5 = .ok (.iaload, 1) := by decide +kernel
theorem dX8_canBeBase_6 : decode cX8_canBeBase 6 = .ok (.ifCond .le 25, 3) := by decide +kernel
theorem dX8_canBeBase_9 : decode cX8_canBeBase 9 = .ok (.bipush 20, 2) := by decide +kernel
theorem dX8_canBeBase_11 : decode cX8_canBeBase 11 = .ok (.aload_n 0, 1) := by decide +kernel
theorem dX8_canBeBase_12 : decode cX8_canBeBase 12 = .ok (.getfield 39, 3) := by decide +kernel
theorem dX8_canBeBase_15 : decode cX8_canBeBase 15 = .ok (.iload_n 1, 1) := by decide +kernel
theorem dX8_canBeBase_16 : decode cX8_canBeBase 16 = .ok (.iaload, 1) := by decide +kernel
theorem dX8_canBeBase_17 : decode cX8_canBeBase 17 = .ok (.imul, 1) := by decide +kernel
theorem dX8_canBeBase_18 : decode cX8_canBeBase 18 = .ok (.aload_n 0, 1) := by decide +kernel
theorem dX8_canBeBase_19 : decode cX8_canBeBase 19 = .ok (.getfield 39, 3) := by decide +kernel
theorem dX8_canBeBase_22 : decode cX8_canBeBase 22 = .ok (.iconst 1, 1) := by decide +kernel
theorem dX8_canBeBase_23 : decode cX8_canBeBase 23 = .ok (.iaload, 1) := by decide +kernel
theorem dX8_canBeBase_24 : decode cX8_canBeBase 24 = .ok (.if_icmp .lt 7, 3) := by decide +kernel
theorem dX8_canBeBase_27 : decode cX8_canBeBase 27 = .ok (.iconst 1, 1) := by decide +kernel
theorem dX8_canBeBase_28 : decode cX8_canBeBase 28 = .ok (.goto 4, 3) := by decide +kernel
theorem dX8_canBeBase_31 : decode cX8_canBeBase 31 = .ok (.iconst 0, 1) := by decide +kernel
theorem dX8_canBeBase_32 : decode cX8_canBeBase 32 = .ok (.ireturn, 1) := by decide +kernel
theorem dX8_countBelow_0 : decode cX8_countBelow 0 = .ok (.iconst 0, 1) := by decide +kernel
theorem dX8_countBelow_1 : decode cX8_countBelow 1 = .ok (.istore_n 1, 1) := by decide +kernel
theorem dX8_countBelow_2 : decode cX8_countBelow 2 = .ok (.iload_n 1, 1) := by decide +kernel
theorem dX8_countBelow_3 : decode cX8_countBelow 3 = .ok (.bipush 6, 2) := by decide +kernel
theorem dX8_countBelow_5 : decode cX8_countBelow 5 = .ok (.if_icmp .ge 23, 3) := by decide +kernel
theorem dX8_countBelow_8 : decode cX8_countBelow 8 = .ok (.aload_n 0, 1) := by decide +kernel
theorem dX8_countBelow_9 : decode cX8_countBelow 9 = .ok (.getfield 9, 3) := by decide +kernel
theorem dX8_countBelow_12 : decode cX8_countBelow 12 = .ok (.iload_n 1, 1) := by decide +kernel
theorem dX8_countBelow_13 : decode cX8_countBelow 13 = .ok (.iconst 0, 1) := by decide +kernel
theorem dX8_countBelow_14 : decode cX8_countBelow 14 = .ok (.iastore, 1) := by decide +kernel
theorem dX8_countBelow_15 : decode cX8_countBelow 15 = .ok (.aload_n 0, 1) := by decide +kernel
theorem dX8_countBelow_16 : decode cX8_countBelow 16 = .ok (.getfield 15, 3) := by decide +kernel
theorem dX8_countBelow_19 : decode cX8_countBelow 19 = .ok (.iload_n 1, 1) := by decide +kernel
theorem dX8_countBelow_20 : decode cX8_countBelow 20 = .ok (.iconst 0, 1) := by decide +kernel
theorem dX8_countBelow_21 : decode cX8_countBelow 21 = .ok (.iastore, 1) := by decide +kernel
theorem dX8_countBelow_22 : decode cX8_countBelow 22 = .ok (.iinc 1 1, 3) := by decide +kernel
theorem dX8_countBelow_25 : decode cX8_countBelow 25 = .ok (.goto (-23), 3) := by decide +kernel
theorem dX8_countBelow_28 : decode cX8_countBelow 28 = .ok (.aload_n 0, 1) := by decide +kernel
theorem dX8_countBelow_29 : decode cX8_countBelow 29 = .ok (.getfield 42, 3) := by decide +kernel
theorem dX8_countBelow_32 : decode cX8_countBelow 32 = .ok (.getfield 58, 3) := by decide +kernel
theorem dX8_countBelow_35 : decode cX8_countBelow 35 = .ok (.astore_n 1, 1) := by decide +kernel
theorem dX8_countBelow_36 : decode cX8_countBelow 36 = .ok (.iconst 0, 1) := by decide +kernel
theorem dX8_countBelow_37 : decode cX8_countBelow 37 = .ok (.istore_n 2, 1) := by decide +kernel
theorem dX8_countBelow_38 : decode cX8_countBelow 38 = .ok (.iload_n 2, 1) := by decide +kernel
theorem dX8_countBelow_39 : decode cX8_countBelow 39 = .ok (.aload_n 1, 1) := by decide +kernel
theorem dX8_countBelow_40 : decode cX8_countBelow 40 = .ok (.getfield 64, 3) := by decide +kernel
theorem dX8_countBelow_43 : decode cX8_countBelow 43 = .ok (.if_icmp .ge 148, 3) := by decide +kernel
theorem dX8_countBelow_46 : decode cX8_countBelow 46 = .ok (.aload_n 1, 1) := by decide +kernel
theorem dX8_countBelow_47 : decode cX8_countBelow 47 = .ok (.getfield 84, 3) := by decide +kernel
theorem dX8_countBelow_50 : decode cX8_countBelow 50 = .ok (.iload_n 2, 1) := by decide +kernel
theorem dX8_countBelow_51 : decode cX8_countBelow 51 = .ok (.iaload, 1) := by decide +kernel
theorem dX8_countBelow_52 : decode cX8_countBelow 52 = .ok (.istore_n 3, 1) := by decide +kernel
theorem dX8_countBelow_53 : decode cX8_countBelow 53 = .ok (.aload_n 0, 1) := by decide +kernel
theorem dX8_countBelow_54 : decode cX8_countBelow 54 = .ok (.getfield 22, 3) := by decide +kernel
theorem dX8_countBelow_57 : decode cX8_countBelow 57 = .ok (.iload_n 2, 1) := by decide +kernel
theorem dX8_countBelow_58 : decode cX8_countBelow 58 = .ok (.aload_n 0, 1) := by decide +kernel
theorem dX8_countBelow_59 : decode cX8_countBelow 59 = .ok (.getfield 25, 3) := by decide +kernel
theorem dX8_countBelow_62 : decode cX8_countBelow 62 = .ok (.iconst (-1), 1) := by decide +kernel
theorem dX8_countBelow_63 : decode cX8_countBelow 63 = .ok (.if_icmp .eq 23, 3) := by decide +kernel
theorem dX8_countBelow_66 : decode cX8_countBelow 66 = .ok (.aload_n 1, 1) := by decide +kernel
theorem dX8_countBelow_67 : decode cX8_countBelow 67 = .ok (.iload_n 2, 1) := by decide +kernel
theorem dX8_countBelow_68 : decode cX8_countBelow 68 = .ok (.aload_n 0, 1) := by decide +kernel
theorem dX8_countBelow_69 : decode cX8_countBelow 69 = .ok (.getfield 46, 3) := by decide +kernel
theorem dX8_countBelow_72 : decode cX8_countBelow 72 = .ok (.aload_n 0, 1) := by decide +kernel
theorem dX8_countBelow_73 : decode cX8_countBelow 73 = .ok (.getfield 25, 3) := by decide +kernel
theorem dX8_countBelow_76 : decode cX8_countBelow 76 = .ok (.invokevirtual 87, 3) := by decide +kernel
theorem dX8_countBelow_79 : decode cX8_countBelow 79 = .ok (.ifCond .eq 7, 3) := by decide +kernel
theorem dX8_countBelow_82 : decode cX8_countBelow 82 = .ok (.iconst 1, 1) := by decide +kernel
theorem dX8_countBelow_83 : decode cX8_countBelow 83 = .ok (.goto 4, 3) := by decide +kernel
theorem dX8_countBelow_86 : decode cX8_countBelow 86 = .ok (.iconst 0, 1) := by decide +kernel
theorem dX8_countBelow_87 : decode cX8_countBelow 87 = .ok (.bastore, 1) := by decide +kernel
theorem dX8_countBelow_88 : decode cX8_countBelow 88 = .ok (.aload_n 0, 1) := by decide +kernel
theorem dX8_countBelow_89 : decode cX8_countBelow 89 = .ok (.getfield 18, 3) := by decide +kernel
theorem dX8_countBelow_92 : decode cX8_countBelow 92 = .ok (.iload_n 2, 1) := by decide +kernel
theorem dX8_countBelow_93 : decode cX8_countBelow 93 = .ok (.aload_n 0, 1) := by decide +kernel
theorem dX8_countBelow_94 : decode cX8_countBelow 94 = .ok (.getfield 22, 3) := by decide +kernel
theorem dX8_countBelow_97 : decode cX8_countBelow 97 = .ok (.iload_n 2, 1) := by decide +kernel
theorem dX8_countBelow_98 : decode cX8_countBelow 98 = .ok (.baload, 1) := by decide +kernel
theorem dX8_countBelow_99 : decode cX8_countBelow 99 = .ok (.ifCond .eq 28, 3) := by decide +kernel
theorem dX8_countBelow_102 : decode cX8_countBelow 102 = .ok (.aload_n 1, 1) := by decide +kernel
theorem dX8_countBelow_103 : decode cX8_countBelow 103 = .ok (.getfield 91, 3) := by decide +kernel
theorem dX8_countBelow_106 : decode cX8_countBelow 106 = .ok (.iload_n 2, 1) := by decide +kernel
theorem dX8_countBelow_107 : decode cX8_countBelow 107 = .ok (.iaload, 1) := by decide +kernel
theorem dX8_countBelow_108 : decode cX8_countBelow 108 = .ok (.aload_n 0, 1) := by decide +kernel
theorem dX8_countBelow_109 : decode cX8_countBelow 109 = .ok (.getfield 42, 3) := by decide +kernel
theorem dX8_countBelow_112 : decode cX8_countBelow 112 = .ok (.aload_n 0, 1) := by decide +kernel
theorem dX8_countBelow_113 : decode cX8_countBelow 113 = .ok (.getfield 46, 3) := by decide +kernel
theorem dX8_countBelow_116 : decode cX8_countBelow 116 = .ok (.iload_n 3, 1) := by decide +kernel
theorem dX8_countBelow_117 : decode cX8_countBelow 117 = .ok (.invokevirtual 94, 3) := by decide +kernel
theorem dX8_countBelow_120 : decode cX8_countBelow 120 = .ok (.if_icmp .ge 7, 3) := by decide +kernel
theorem dX8_countBelow_123 : decode cX8_countBelow 123 = .ok (.iconst 1, 1) := by decide +kernel
theorem dX8_countBelow_124 : decode cX8_countBelow 124 = .ok (.goto 4, 3) := by decide +kernel
theorem dX8_countBelow_127 : decode cX8_countBelow 127 = .ok (.iconst 0, 1) := by decide +kernel
theorem dX8_countBelow_128 : decode cX8_countBelow 128 = .ok (.bastore, 1) := by decide +kernel
theorem dX8_countBelow_129 : decode cX8_countBelow 129 = .ok (.aload_n 0, 1) := by decide +kernel
theorem dX8_countBelow_130 : decode cX8_countBelow 130 = .ok (.getfield 9, 3) := by decide +kernel
theorem dX8_countBelow_133 : decode cX8_countBelow 133 = .ok (.iload_n 3, 1) := by decide +kernel
theorem dX8_countBelow_134 : decode cX8_countBelow 134 = .ok (.dup2, 1) := by decide +kernel
theorem dX8_countBelow_135 : decode cX8_countBelow 135 = .ok (.iaload, 1) := by decide +kernel
theorem dX8_countBelow_136 : decode cX8_countBelow 136 = .ok (.aload_n 0, 1) := by decide +kernel
theorem dX8_countBelow_137 : decode cX8_countBelow 137 = .ok (.getfield 22, 3) := by decide +kernel
theorem dX8_countBelow_140 : decode cX8_countBelow 140 = .ok (.iload_n 2, 1) := by decide +kernel
theorem dX8_countBelow_141 : decode cX8_countBelow 141 = .ok (.baload, 1) := by decide +kernel
theorem dX8_countBelow_142 : decode cX8_countBelow 142 = .ok (.ifCond .eq 12, 3) := by decide +kernel
theorem dX8_countBelow_145 : decode cX8_countBelow 145 = .ok (.aload_n 1, 1) := by decide +kernel
theorem dX8_countBelow_146 : decode cX8_countBelow 146 = .ok (.getfield 77, 3) := by decide +kernel
theorem dX8_countBelow_149 : decode cX8_countBelow 149 = .ok (.iload_n 2, 1) := by decide +kernel
theorem dX8_countBelow_150 : decode cX8_countBelow 150 = .ok (.iaload, 1) := by decide +kernel
theorem dX8_countBelow_151 : decode cX8_countBelow 151 = .ok (.goto 4, 3) := by decide +kernel
theorem dX8_countBelow_154 : decode cX8_countBelow 154 = .ok (.iconst 0, 1) := by decide +kernel
theorem dX8_countBelow_155 : decode cX8_countBelow 155 = .ok (.iadd, 1) := by decide +kernel
theorem dX8_countBelow_156 : decode cX8_countBelow 156 = .ok (.iastore, 1) := by decide +kernel
theorem dX8_countBelow_157 : decode cX8_countBelow 157 = .ok (.aload_n 0, 1) := by decide +kernel
theorem dX8_countBelow_158 : decode cX8_countBelow 158 = .ok (.getfield 15, 3) := by decide +kernel
theorem dX8_countBelow_161 : decode cX8_countBelow 161 = .ok (.iload_n 3, 1) := by decide +kernel
theorem dX8_countBelow_162 : decode cX8_countBelow 162 = .ok (.dup2, 1) := by decide +kernel
theorem dX8_countBelow_163 : decode cX8_countBelow 163 = .ok (.iaload, 1) := by decide +kernel
theorem dX8_countBelow_164 : decode cX8_countBelow 164 = .ok (.aload_n 0, 1) := by decide +kernel
theorem dX8_countBelow_165 : decode cX8_countBelow 165 = .ok (.getfield 18, 3) := by decide +kernel
theorem dX8_countBelow_168 : decode cX8_countBelow 168 = .ok (.iload_n 2, 1) := by decide +kernel
theorem dX8_countBelow_169 : decode cX8_countBelow 169 = .ok (.baload, 1) := by decide +kernel
theorem dX8_countBelow_170 : decode cX8_countBelow 170 = .ok (.ifCond .eq 12, 3) := by decide +kernel
theorem dX8_countBelow_173 : decode cX8_countBelow 173 = .ok (.aload_n 1, 1) := by decide +kernel
theorem dX8_countBelow_174 : decode cX8_countBelow 174 = .ok (.getfield 77, 3) := by decide +kernel
theorem dX8_countBelow_177 : decode cX8_countBelow 177 = .ok (.iload_n 2, 1) := by decide +kernel
theorem dX8_countBelow_178 : decode cX8_countBelow 178 = .ok (.iaload, 1) := by decide +kernel
theorem dX8_countBelow_179 : decode cX8_countBelow 179 = .ok (.goto 4, 3) := by decide +kernel
theorem dX8_countBelow_182 : decode cX8_countBelow 182 = .ok (.iconst 0, 1) := by decide +kernel
theorem dX8_countBelow_183 : decode cX8_countBelow 183 = .ok (.iadd, 1) := by decide +kernel
theorem dX8_countBelow_184 : decode cX8_countBelow 184 = .ok (.iastore, 1) := by decide +kernel
theorem dX8_countBelow_185 : decode cX8_countBelow 185 = .ok (.iinc 2 1, 3) := by decide +kernel
theorem dX8_countBelow_188 : decode cX8_countBelow 188 = .ok (.goto (-150), 3) := by decide +kernel
theorem dX8_countBelow_191 : decode cX8_countBelow 191 = .ok (.return_, 1) := by decide +kernel
theorem dX8_countIn_0 : decode cX8_countIn 0 = .ok (.iconst 0, 1) := by decide +kernel
theorem dX8_countIn_1 : decode cX8_countIn 1 = .ok (.istore_n 1, 1) := by decide +kernel
theorem dX8_countIn_2 : decode cX8_countIn 2 = .ok (.iload_n 1, 1) := by decide +kernel
theorem dX8_countIn_3 : decode cX8_countIn 3 = .ok (.bipush 6, 2) := by decide +kernel
theorem dX8_countIn_5 : decode cX8_countIn 5 = .ok (.if_icmp .ge 16, 3) := by decide +kernel
theorem dX8_countIn_8 : decode cX8_countIn 8 = .ok (.aload_n 0, 1) := by decide +kernel
theorem dX8_countIn_9 : decode cX8_countIn 9 = .ok (.getfield 29, 3) := by decide +kernel
theorem dX8_countIn_12 : decode cX8_countIn 12 = .ok (.iload_n 1, 1) := by decide +kernel
theorem dX8_countIn_13 : decode cX8_countIn 13 = .ok (.iconst 0, 1) := by decide +kernel
theorem dX8_countIn_14 : decode cX8_countIn 14 = .ok (.bastore, 1) := by decide +kernel
theorem dX8_countIn_15 : decode cX8_countIn 15 = .ok (.iinc 1 1, 3) := by decide +kernel
theorem dX8_countIn_18 : decode cX8_countIn 18 = .ok (.goto (-16), 3) := by decide +kernel
theorem dX8_countIn_21 : decode cX8_countIn 21 = .ok (.iconst 0, 1) := by decide +kernel
theorem dX8_countIn_22 : decode cX8_countIn 22 = .ok (.istore_n 1, 1) := by decide +kernel
theorem dX8_countIn_23 : decode cX8_countIn 23 = .ok (.iload_n 1, 1) := by decide +kernel
theorem dX8_countIn_24 : decode cX8_countIn 24 = .ok (.bipush 24, 2) := by decide +kernel
theorem dX8_countIn_26 : decode cX8_countIn 26 = .ok (.if_icmp .ge 23, 3) := by decide +kernel
theorem dX8_countIn_29 : decode cX8_countIn 29 = .ok (.aload_n 0, 1) := by decide +kernel
theorem dX8_countIn_30 : decode cX8_countIn 30 = .ok (.getfield 32, 3) := by decide +kernel
theorem dX8_countIn_33 : decode cX8_countIn 33 = .ok (.iload_n 1, 1) := by decide +kernel
theorem dX8_countIn_34 : decode cX8_countIn 34 = .ok (.iconst 0, 1) := by decide +kernel
theorem dX8_countIn_35 : decode cX8_countIn 35 = .ok (.iastore, 1) := by decide +kernel
theorem dX8_countIn_36 : decode cX8_countIn 36 = .ok (.aload_n 0, 1) := by decide +kernel
theorem dX8_countIn_37 : decode cX8_countIn 37 = .ok (.getfield 35, 3) := by decide +kernel
theorem dX8_countIn_40 : decode cX8_countIn 40 = .ok (.iload_n 1, 1) := by decide +kernel
theorem dX8_countIn_41 : decode cX8_countIn 41 = .ok (.lconst 0, 1) := by decide +kernel
theorem dX8_countIn_42 : decode cX8_countIn 42 = .ok (.lastore, 1) := by decide +kernel
theorem dX8_countIn_43 : decode cX8_countIn 43 = .ok (.iinc 1 1, 3) := by decide +kernel
theorem dX8_countIn_46 : decode cX8_countIn 46 = .ok (.goto (-23), 3) := by decide +kernel
theorem dX8_countIn_49 : decode cX8_countIn 49 = .ok (.aload_n 0, 1) := by decide +kernel
theorem dX8_countIn_50 : decode cX8_countIn 50 = .ok (.getfield 42, 3) := by decide +kernel
theorem dX8_countIn_53 : decode cX8_countIn 53 = .ok (.getfield 58, 3) := by decide +kernel
theorem dX8_countIn_56 : decode cX8_countIn 56 = .ok (.astore_n 1, 1) := by decide +kernel
theorem dX8_countIn_57 : decode cX8_countIn 57 = .ok (.iconst 0, 1) := by decide +kernel
theorem dX8_countIn_58 : decode cX8_countIn 58 = .ok (.istore_n 2, 1) := by decide +kernel
theorem dX8_countIn_59 : decode cX8_countIn 59 = .ok (.iload_n 2, 1) := by decide +kernel
theorem dX8_countIn_60 : decode cX8_countIn 60 = .ok (.aload_n 1, 1) := by decide +kernel
theorem dX8_countIn_61 : decode cX8_countIn 61 = .ok (.getfield 64, 3) := by decide +kernel
theorem dX8_countIn_64 : decode cX8_countIn 64 = .ok (.if_icmp .ge 112, 3) := by decide +kernel
theorem dX8_countIn_67 : decode cX8_countIn 67 = .ok (.aload_n 1, 1) := by decide +kernel
theorem dX8_countIn_68 : decode cX8_countIn 68 = .ok (.getfield 84, 3) := by decide +kernel
theorem dX8_countIn_71 : decode cX8_countIn 71 = .ok (.iload_n 2, 1) := by decide +kernel
theorem dX8_countIn_72 : decode cX8_countIn 72 = .ok (.iaload, 1) := by decide +kernel
theorem dX8_countIn_73 : decode cX8_countIn 73 = .ok (.istore_n 3, 1) := by decide +kernel
theorem dX8_countIn_74 : decode cX8_countIn 74 = .ok (.aload_n 0, 1) := by decide +kernel
theorem dX8_countIn_75 : decode cX8_countIn 75 = .ok (.getfield 22, 3) := by decide +kernel
theorem dX8_countIn_78 : decode cX8_countIn 78 = .ok (.iload_n 2, 1) := by decide +kernel
theorem dX8_countIn_79 : decode cX8_countIn 79 = .ok (.aload_n 0, 1) := by decide +kernel
theorem dX8_countIn_80 : decode cX8_countIn 80 = .ok (.getfield 22, 3) := by decide +kernel
theorem dX8_countIn_83 : decode cX8_countIn 83 = .ok (.iload_n 2, 1) := by decide +kernel
theorem dX8_countIn_84 : decode cX8_countIn 84 = .ok (.baload, 1) := by decide +kernel
theorem dX8_countIn_85 : decode cX8_countIn 85 = .ok (.ifCond .eq 24, 3) := by decide +kernel
theorem dX8_countIn_88 : decode cX8_countIn 88 = .ok (.aload_n 0, 1) := by decide +kernel
theorem dX8_countIn_89 : decode cX8_countIn 89 = .ok (.getfield 18, 3) := by decide +kernel
theorem dX8_countIn_92 : decode cX8_countIn 92 = .ok (.iload_n 2, 1) := by decide +kernel
theorem dX8_countIn_93 : decode cX8_countIn 93 = .ok (.baload, 1) := by decide +kernel
theorem dX8_countIn_94 : decode cX8_countIn 94 = .ok (.ifCond .eq 11, 3) := by decide +kernel
theorem dX8_countIn_97 : decode cX8_countIn 97 = .ok (.aload_n 0, 1) := by decide +kernel
theorem dX8_countIn_98 : decode cX8_countIn 98 = .ok (.iload_n 3, 1) := by decide +kernel
theorem dX8_countIn_99 : decode cX8_countIn 99 = .ok (.invokevirtual 98, 3) := by decide +kernel
theorem dX8_countIn_102 : decode cX8_countIn 102 = .ok (.ifCond .ne 7, 3) := by decide +kernel
theorem dX8_countIn_105 : decode cX8_countIn 105 = .ok (.iconst 1, 1) := by decide +kernel
theorem dX8_countIn_106 : decode cX8_countIn 106 = .ok (.goto 4, 3) := by decide +kernel
theorem dX8_countIn_109 : decode cX8_countIn 109 = .ok (.iconst 0, 1) := by decide +kernel
theorem dX8_countIn_110 : decode cX8_countIn 110 = .ok (.bastore, 1) := by decide +kernel
theorem dX8_countIn_111 : decode cX8_countIn 111 = .ok (.aload_n 0, 1) := by decide +kernel
theorem dX8_countIn_112 : decode cX8_countIn 112 = .ok (.getfield 22, 3) := by decide +kernel
theorem dX8_countIn_115 : decode cX8_countIn 115 = .ok (.iload_n 2, 1) := by decide +kernel
theorem dX8_countIn_116 : decode cX8_countIn 116 = .ok (.baload, 1) := by decide +kernel
theorem dX8_countIn_117 : decode cX8_countIn 117 = .ok (.ifCond .eq 53, 3) := by decide +kernel
theorem dX8_countIn_120 : decode cX8_countIn 120 = .ok (.iload_n 3, 1) := by decide +kernel
theorem dX8_countIn_121 : decode cX8_countIn 121 = .ok (.iconst 4, 1) := by decide +kernel
theorem dX8_countIn_122 : decode cX8_countIn 122 = .ok (.imul, 1) := by decide +kernel
theorem dX8_countIn_123 : decode cX8_countIn 123 = .ok (.aload_n 1, 1) := by decide +kernel
theorem dX8_countIn_124 : decode cX8_countIn 124 = .ok (.getfield 101, 3) := by decide +kernel
theorem dX8_countIn_127 : decode cX8_countIn 127 = .ok (.iload_n 2, 1) := by decide +kernel
theorem dX8_countIn_128 : decode cX8_countIn 128 = .ok (.iaload, 1) := by decide +kernel
theorem dX8_countIn_129 : decode cX8_countIn 129 = .ok (.iadd, 1) := by decide +kernel
theorem dX8_countIn_130 : decode cX8_countIn 130 = .ok (.istore 4, 2) := by decide +kernel
theorem dX8_countIn_132 : decode cX8_countIn 132 = .ok (.aload_n 0, 1) := by decide +kernel
theorem dX8_countIn_133 : decode cX8_countIn 133 = .ok (.getfield 32, 3) := by decide +kernel
theorem dX8_countIn_136 : decode cX8_countIn 136 = .ok (.iload 4, 2) := by decide +kernel
theorem dX8_countIn_138 : decode cX8_countIn 138 = .ok (.dup2, 1) := by decide +kernel
theorem dX8_countIn_139 : decode cX8_countIn 139 = .ok (.iaload, 1) := by decide +kernel
theorem dX8_countIn_140 : decode cX8_countIn 140 = .ok (.aload_n 1, 1) := by decide +kernel
theorem dX8_countIn_141 : decode cX8_countIn 141 = .ok (.getfield 77, 3) := by decide +kernel
theorem dX8_countIn_144 : decode cX8_countIn 144 = .ok (.iload_n 2, 1) := by decide +kernel
theorem dX8_countIn_145 : decode cX8_countIn 145 = .ok (.iaload, 1) := by decide +kernel
theorem dX8_countIn_146 : decode cX8_countIn 146 = .ok (.iadd, 1) := by decide +kernel
theorem dX8_countIn_147 : decode cX8_countIn 147 = .ok (.iastore, 1) := by decide +kernel
theorem dX8_countIn_148 : decode cX8_countIn 148 = .ok (.aload_n 0, 1) := by decide +kernel
theorem dX8_countIn_149 : decode cX8_countIn 149 = .ok (.getfield 35, 3) := by decide +kernel
theorem dX8_countIn_152 : decode cX8_countIn 152 = .ok (.iload 4, 2) := by decide +kernel
theorem dX8_countIn_154 : decode cX8_countIn 154 = .ok (.dup2, 1) := by decide +kernel
theorem dX8_countIn_155 : decode cX8_countIn 155 = .ok (.laload, 1) := by decide +kernel
theorem dX8_countIn_156 : decode cX8_countIn 156 = .ok (.aload_n 1, 1) := by decide +kernel
theorem dX8_countIn_157 : decode cX8_countIn 157 = .ok (.iload_n 2, 1) := by decide +kernel
theorem dX8_countIn_158 : decode cX8_countIn 158 = .ok (.invokevirtual 104, 3) := by decide +kernel
theorem dX8_countIn_161 : decode cX8_countIn 161 = .ok (.ladd, 1) := by decide +kernel
theorem dX8_countIn_162 : decode cX8_countIn 162 = .ok (.lastore, 1) := by decide +kernel
theorem dX8_countIn_163 : decode cX8_countIn 163 = .ok (.aload_n 0, 1) := by decide +kernel
theorem dX8_countIn_164 : decode cX8_countIn 164 = .ok (.getfield 29, 3) := by decide +kernel
theorem dX8_countIn_167 : decode cX8_countIn 167 = .ok (.iload_n 3, 1) := by decide +kernel
theorem dX8_countIn_168 : decode cX8_countIn 168 = .ok (.iconst 1, 1) := by decide +kernel
theorem dX8_countIn_169 : decode cX8_countIn 169 = .ok (.bastore, 1) := by decide +kernel
theorem dX8_countIn_170 : decode cX8_countIn 170 = .ok (.iinc 2 1, 3) := by decide +kernel
theorem dX8_countIn_173 : decode cX8_countIn 173 = .ok (.goto (-114), 3) := by decide +kernel
theorem dX8_countIn_176 : decode cX8_countIn 176 = .ok (.return_, 1) := by decide +kernel
theorem dX8_leavesOut_0 : decode cX8_leavesOut 0 = .ok (.aload_n 0, 1) := by decide +kernel
theorem dX8_leavesOut_1 : decode cX8_leavesOut 1 = .ok (.getfield 15, 3) := by decide +kernel
theorem dX8_leavesOut_4 : decode cX8_leavesOut 4 = .ok (.iload_n 1, 1) := by decide +kernel
theorem dX8_leavesOut_5 : decode cX8_leavesOut 5 = .ok (.iaload, 1) := by decide +kernel
theorem dX8_leavesOut_6 : decode cX8_leavesOut 6 = .ok (.ifCond .le 24, 3) := by decide +kernel
theorem dX8_leavesOut_9 : decode cX8_leavesOut 9 = .ok (.iconst 5, 1) := by decide +kernel
theorem dX8_leavesOut_10 : decode cX8_leavesOut 10 = .ok (.aload_n 0, 1) := by decide +kernel
theorem dX8_leavesOut_11 : decode cX8_leavesOut 11 = .ok (.getfield 15, 3) := by decide +kernel
theorem dX8_leavesOut_14 : decode cX8_leavesOut 14 = .ok (.iload_n 1, 1) := by decide +kernel
theorem dX8_leavesOut_15 : decode cX8_leavesOut 15 = .ok (.iaload, 1) := by decide +kernel
theorem dX8_leavesOut_16 : decode cX8_leavesOut 16 = .ok (.imul, 1) := by decide +kernel
theorem dX8_leavesOut_17 : decode cX8_leavesOut 17 = .ok (.aload_n 0, 1) := by decide +kernel
theorem dX8_leavesOut_18 : decode cX8_leavesOut 18 = .ok (.getfield 9, 3) := by decide +kernel
theorem dX8_leavesOut_21 : decode cX8_leavesOut 21 = .ok (.iload_n 1, 1) := by decide +kernel
theorem dX8_leavesOut_22 : decode cX8_leavesOut 22 = .ok (.iaload, 1) := by decide +kernel
theorem dX8_leavesOut_23 : decode cX8_leavesOut 23 = .ok (.if_icmp .lt 7, 3) := by decide +kernel
theorem dX8_leavesOut_26 : decode cX8_leavesOut 26 = .ok (.iconst 1, 1) := by decide +kernel
theorem dX8_leavesOut_27 : decode cX8_leavesOut 27 = .ok (.goto 4, 3) := by decide +kernel
theorem dX8_leavesOut_30 : decode cX8_leavesOut 30 = .ok (.iconst 0, 1) := by decide +kernel
theorem dX8_leavesOut_31 : decode cX8_leavesOut 31 = .ok (.ireturn, 1) := by decide +kernel
theorem dX8_modelFor_0 : decode cX8_modelFor 0 = .ok (.aload_n 0, 1) := by decide +kernel
theorem dX8_modelFor_1 : decode cX8_modelFor 1 = .ok (.getfield 29, 3) := by decide +kernel
theorem dX8_modelFor_4 : decode cX8_modelFor 4 = .ok (.iload_n 1, 1) := by decide +kernel
theorem dX8_modelFor_5 : decode cX8_modelFor 5 = .ok (.baload, 1) := by decide +kernel
theorem dX8_modelFor_6 : decode cX8_modelFor 6 = .ok (.ifCond .eq 5, 3) := by decide +kernel
theorem dX8_modelFor_9 : decode cX8_modelFor 9 = .ok (.iload_n 1, 1) := by decide +kernel
theorem dX8_modelFor_10 : decode cX8_modelFor 10 = .ok (.ireturn, 1) := by decide +kernel
theorem dX8_modelFor_11 : decode cX8_modelFor 11 = .ok (.iconst (-1), 1) := by decide +kernel
theorem dX8_modelFor_12 : decode cX8_modelFor 12 = .ok (.istore_n 2, 1) := by decide +kernel
theorem dX8_modelFor_13 : decode cX8_modelFor 13 = .ok (.iconst 0, 1) := by decide +kernel
theorem dX8_modelFor_14 : decode cX8_modelFor 14 = .ok (.istore_n 3, 1) := by decide +kernel
theorem dX8_modelFor_15 : decode cX8_modelFor 15 = .ok (.aload_n 0, 1) := by decide +kernel
theorem dX8_modelFor_16 : decode cX8_modelFor 16 = .ok (.getfield 42, 3) := by decide +kernel
theorem dX8_modelFor_19 : decode cX8_modelFor 19 = .ok (.aload_n 0, 1) := by decide +kernel
theorem dX8_modelFor_20 : decode cX8_modelFor 20 = .ok (.getfield 46, 3) := by decide +kernel
theorem dX8_modelFor_23 : decode cX8_modelFor 23 = .ok (.iload_n 1, 1) := by decide +kernel
theorem dX8_modelFor_24 : decode cX8_modelFor 24 = .ok (.invokevirtual 94, 3) := by decide +kernel
theorem dX8_modelFor_27 : decode cX8_modelFor 27 = .ok (.istore 4, 2) := by decide +kernel
theorem dX8_modelFor_29 : decode cX8_modelFor 29 = .ok (.iconst 0, 1) := by decide +kernel
theorem dX8_modelFor_30 : decode cX8_modelFor 30 = .ok (.istore 5, 2) := by decide +kernel
theorem dX8_modelFor_32 : decode cX8_modelFor 32 = .ok (.iload 5, 2) := by decide +kernel
theorem dX8_modelFor_34 : decode cX8_modelFor 34 = .ok (.aload_n 0, 1) := by decide +kernel
theorem dX8_modelFor_35 : decode cX8_modelFor 35 = .ok (.getfield 42, 3) := by decide +kernel
theorem dX8_modelFor_38 : decode cX8_modelFor 38 = .ok (.getfield 108, 3) := by decide +kernel
theorem dX8_modelFor_41 : decode cX8_modelFor 41 = .ok (.getfield 112, 3) := by decide +kernel
theorem dX8_modelFor_44 : decode cX8_modelFor 44 = .ok (.if_icmp .ge 87, 3) := by decide +kernel
theorem dX8_modelFor_47 : decode cX8_modelFor 47 = .ok (.aload_n 0, 1) := by decide +kernel
theorem dX8_modelFor_48 : decode cX8_modelFor 48 = .ok (.getfield 29, 3) := by decide +kernel
theorem dX8_modelFor_51 : decode cX8_modelFor 51 = .ok (.iload 5, 2) := by decide +kernel
theorem dX8_modelFor_53 : decode cX8_modelFor 53 = .ok (.baload, 1) := by decide +kernel
theorem dX8_modelFor_54 : decode cX8_modelFor 54 = .ok (.ifCond .eq 71, 3) := by decide +kernel
theorem dX8_modelFor_57 : decode cX8_modelFor 57 = .ok (.iconst 5, 1) := by decide +kernel
theorem dX8_modelFor_58 : decode cX8_modelFor 58 = .ok (.aload_n 0, 1) := by decide +kernel
theorem dX8_modelFor_59 : decode cX8_modelFor 59 = .ok (.getfield 42, 3) := by decide +kernel
theorem dX8_modelFor_62 : decode cX8_modelFor 62 = .ok (.aload_n 0, 1) := by decide +kernel
theorem dX8_modelFor_63 : decode cX8_modelFor 63 = .ok (.getfield 46, 3) := by decide +kernel
theorem dX8_modelFor_66 : decode cX8_modelFor 66 = .ok (.iload 5, 2) := by decide +kernel
theorem dX8_modelFor_68 : decode cX8_modelFor 68 = .ok (.invokevirtual 94, 3) := by decide +kernel
theorem dX8_modelFor_71 : decode cX8_modelFor 71 = .ok (.iload 4, 2) := by decide +kernel
theorem dX8_modelFor_73 : decode cX8_modelFor 73 = .ok (.isub, 1) := by decide +kernel
theorem dX8_modelFor_74 : decode cX8_modelFor 74 = .ok (.invokestatic 115, 3) := by decide +kernel
theorem dX8_modelFor_77 : decode cX8_modelFor 77 = .ok (.imul, 1) := by decide +kernel
theorem dX8_modelFor_78 : decode cX8_modelFor 78 = .ok (.iload 4, 2) := by decide +kernel
theorem dX8_modelFor_80 : decode cX8_modelFor 80 = .ok (.if_icmp .gt 45, 3) := by decide +kernel
theorem dX8_modelFor_83 : decode cX8_modelFor 83 = .ok (.aload_n 0, 1) := by decide +kernel
theorem dX8_modelFor_84 : decode cX8_modelFor 84 = .ok (.getfield 42, 3) := by decide +kernel
theorem dX8_modelFor_87 : decode cX8_modelFor 87 = .ok (.getfield 121, 3) := by decide +kernel
theorem dX8_modelFor_90 : decode cX8_modelFor 90 = .ok (.iload 5, 2) := by decide +kernel
theorem dX8_modelFor_92 : decode cX8_modelFor 92 = .ok (.iaload, 1) := by decide +kernel
theorem dX8_modelFor_93 : decode cX8_modelFor 93 = .ok (.aload_n 0, 1) := by decide +kernel
theorem dX8_modelFor_94 : decode cX8_modelFor 94 = .ok (.getfield 42, 3) := by decide +kernel
theorem dX8_modelFor_97 : decode cX8_modelFor 97 = .ok (.getfield 121, 3) := by decide +kernel
theorem dX8_modelFor_100 : decode cX8_modelFor 100 = .ok (.iload_n 1, 1) := by decide +kernel
theorem dX8_modelFor_101 : decode cX8_modelFor 101 = .ok (.iaload, 1) := by decide +kernel
theorem dX8_modelFor_102 : decode cX8_modelFor 102 = .ok (.isub, 1) := by decide +kernel
theorem dX8_modelFor_103 : decode cX8_modelFor 103 = .ok (.invokestatic 115, 3) := by decide +kernel
theorem dX8_modelFor_106 : decode cX8_modelFor 106 = .ok (.istore 6, 2) := by decide +kernel
theorem dX8_modelFor_108 : decode cX8_modelFor 108 = .ok (.iload_n 2, 1) := by decide +kernel
theorem dX8_modelFor_109 : decode cX8_modelFor 109 = .ok (.iconst (-1), 1) := by decide +kernel
theorem dX8_modelFor_110 : decode cX8_modelFor 110 = .ok (.if_icmp .eq 9, 3) := by decide +kernel
theorem dX8_modelFor_113 : decode cX8_modelFor 113 = .ok (.iload 6, 2) := by decide +kernel
theorem dX8_modelFor_115 : decode cX8_modelFor 115 = .ok (.iload_n 3, 1) := by decide +kernel
theorem dX8_modelFor_116 : decode cX8_modelFor 116 = .ok (.if_icmp .ge 9, 3) := by decide +kernel
theorem dX8_modelFor_119 : decode cX8_modelFor 119 = .ok (.iload 5, 2) := by decide +kernel
theorem dX8_modelFor_121 : decode cX8_modelFor 121 = .ok (.istore_n 2, 1) := by decide +kernel
theorem dX8_modelFor_122 : decode cX8_modelFor 122 = .ok (.iload 6, 2) := by decide +kernel
theorem dX8_modelFor_124 : decode cX8_modelFor 124 = .ok (.istore_n 3, 1) := by decide +kernel
theorem dX8_modelFor_125 : decode cX8_modelFor 125 = .ok (.iinc 5 1, 3) := by decide +kernel
theorem dX8_modelFor_128 : decode cX8_modelFor 128 = .ok (.goto (-96), 3) := by decide +kernel
theorem dX8_modelFor_131 : decode cX8_modelFor 131 = .ok (.iload_n 2, 1) := by decide +kernel
theorem dX8_modelFor_132 : decode cX8_modelFor 132 = .ok (.ireturn, 1) := by decide +kernel
theorem dX8_levelFor_0 : decode cX8_levelFor 0 = .ok (.iconst (-1), 1) := by decide +kernel
theorem dX8_levelFor_1 : decode cX8_levelFor 1 = .ok (.istore_n 3, 1) := by decide +kernel
theorem dX8_levelFor_2 : decode cX8_levelFor 2 = .ok (.iconst 0, 1) := by decide +kernel
theorem dX8_levelFor_3 : decode cX8_levelFor 3 = .ok (.istore 4, 2) := by decide +kernel
theorem dX8_levelFor_5 : decode cX8_levelFor 5 = .ok (.iload_n 1, 1) := by decide +kernel
theorem dX8_levelFor_6 : decode cX8_levelFor 6 = .ok (.iconst (-1), 1) := by decide +kernel
theorem dX8_levelFor_7 : decode cX8_levelFor 7 = .ok (.if_icmp .eq 53, 3) := by decide +kernel
theorem dX8_levelFor_10 : decode cX8_levelFor 10 = .ok (.iload 4, 2) := by decide +kernel
theorem dX8_levelFor_12 : decode cX8_levelFor 12 = .ok (.iconst 4, 1) := by decide +kernel
theorem dX8_levelFor_13 : decode cX8_levelFor 13 = .ok (.if_icmp .ge 47, 3) := by decide +kernel
theorem dX8_levelFor_16 : decode cX8_levelFor 16 = .ok (.aload_n 0, 1) := by decide +kernel
theorem dX8_levelFor_17 : decode cX8_levelFor 17 = .ok (.getfield 32, 3) := by decide +kernel
theorem dX8_levelFor_20 : decode cX8_levelFor 20 = .ok (.iload_n 1, 1) := by decide +kernel
theorem dX8_levelFor_21 : decode cX8_levelFor 21 = .ok (.iconst 4, 1) := by decide +kernel
theorem dX8_levelFor_22 : decode cX8_levelFor 22 = .ok (.imul, 1) := by decide +kernel
theorem dX8_levelFor_23 : decode cX8_levelFor 23 = .ok (.iload 4, 2) := by decide +kernel
theorem dX8_levelFor_25 : decode cX8_levelFor 25 = .ok (.iadd, 1) := by decide +kernel
theorem dX8_levelFor_26 : decode cX8_levelFor 26 = .ok (.iaload, 1) := by decide +kernel
theorem dX8_levelFor_27 : decode cX8_levelFor 27 = .ok (.ifCond .le 27, 3) := by decide +kernel
theorem dX8_levelFor_30 : decode cX8_levelFor 30 = .ok (.iload_n 3, 1) := by decide +kernel
theorem dX8_levelFor_31 : decode cX8_levelFor 31 = .ok (.iconst (-1), 1) := by decide +kernel
theorem dX8_levelFor_32 : decode cX8_levelFor 32 = .ok (.if_icmp .eq 19, 3) := by decide +kernel
theorem dX8_levelFor_35 : decode cX8_levelFor 35 = .ok (.iload 4, 2) := by decide +kernel
theorem dX8_levelFor_37 : decode cX8_levelFor 37 = .ok (.iload_n 2, 1) := by decide +kernel
theorem dX8_levelFor_38 : decode cX8_levelFor 38 = .ok (.isub, 1) := by decide +kernel
theorem dX8_levelFor_39 : decode cX8_levelFor 39 = .ok (.invokestatic 115, 3) := by decide +kernel
theorem dX8_levelFor_42 : decode cX8_levelFor 42 = .ok (.iload_n 3, 1) := by decide +kernel
theorem dX8_levelFor_43 : decode cX8_levelFor 43 = .ok (.iload_n 2, 1) := by decide +kernel
theorem dX8_levelFor_44 : decode cX8_levelFor 44 = .ok (.isub, 1) := by decide +kernel
theorem dX8_levelFor_45 : decode cX8_levelFor 45 = .ok (.invokestatic 115, 3) := by decide +kernel
theorem dX8_levelFor_48 : decode cX8_levelFor 48 = .ok (.if_icmp .ge 6, 3) := by decide +kernel
theorem dX8_levelFor_51 : decode cX8_levelFor 51 = .ok (.iload 4, 2) := by decide +kernel
theorem dX8_levelFor_53 : decode cX8_levelFor 53 = .ok (.istore_n 3, 1) := by decide +kernel
theorem dX8_levelFor_54 : decode cX8_levelFor 54 = .ok (.iinc 4 1, 3) := by decide +kernel
theorem dX8_levelFor_57 : decode cX8_levelFor 57 = .ok (.goto (-52), 3) := by decide +kernel
theorem dX8_levelFor_60 : decode cX8_levelFor 60 = .ok (.iload_n 3, 1) := by decide +kernel
theorem dX8_levelFor_61 : decode cX8_levelFor 61 = .ok (.ireturn, 1) := by decide +kernel
theorem dX8_worthAt_0 : decode cX8_worthAt 0 = .ok (.aload_n 0, 1) := by decide +kernel
theorem dX8_worthAt_1 : decode cX8_worthAt 1 = .ok (.getfield 42, 3) := by decide +kernel
theorem dX8_worthAt_4 : decode cX8_worthAt 4 = .ok (.aload_n 0, 1) := by decide +kernel
theorem dX8_worthAt_5 : decode cX8_worthAt 5 = .ok (.getfield 46, 3) := by decide +kernel
theorem dX8_worthAt_8 : decode cX8_worthAt 8 = .ok (.iload_n 1, 1) := by decide +kernel
theorem dX8_worthAt_9 : decode cX8_worthAt 9 = .ok (.invokevirtual 94, 3) := by decide +kernel
theorem dX8_worthAt_12 : decode cX8_worthAt 12 = .ok (.istore 4, 2) := by decide +kernel
theorem dX8_worthAt_14 : decode cX8_worthAt 14 = .ok (.aload_n 0, 1) := by decide +kernel
theorem dX8_worthAt_15 : decode cX8_worthAt 15 = .ok (.iload_n 1, 1) := by decide +kernel
theorem dX8_worthAt_16 : decode cX8_worthAt 16 = .ok (.invokevirtual 124, 3) := by decide +kernel
theorem dX8_worthAt_19 : decode cX8_worthAt 19 = .ok (.istore 5, 2) := by decide +kernel
theorem dX8_worthAt_21 : decode cX8_worthAt 21 = .ok (.aload_n 0, 1) := by decide +kernel
theorem dX8_worthAt_22 : decode cX8_worthAt 22 = .ok (.iload 5, 2) := by decide +kernel
theorem dX8_worthAt_24 : decode cX8_worthAt 24 = .ok (.iload_n 2, 1) := by decide +kernel
theorem dX8_worthAt_25 : decode cX8_worthAt 25 = .ok (.invokevirtual 127, 3) := by decide +kernel
theorem dX8_worthAt_28 : decode cX8_worthAt 28 = .ok (.istore 6, 2) := by decide +kernel
theorem dX8_worthAt_30 : decode cX8_worthAt 30 = .ok (.iload 5, 2) := by decide +kernel
theorem dX8_worthAt_32 : decode cX8_worthAt 32 = .ok (.iconst (-1), 1) := by decide +kernel
theorem dX8_worthAt_33 : decode cX8_worthAt 33 = .ok (.if_icmp .eq 9, 3) := by decide +kernel
theorem dX8_worthAt_36 : decode cX8_worthAt 36 = .ok (.iload 6, 2) := by decide +kernel
theorem dX8_worthAt_38 : decode cX8_worthAt 38 = .ok (.iconst (-1), 1) := by decide +kernel
theorem dX8_worthAt_39 : decode cX8_worthAt 39 = .ok (.if_icmp .ne 27, 3) := by decide +kernel
theorem dX8_worthAt_42 : decode cX8_worthAt 42 = .ok (.ldc2_w 130, 3) := by decide +kernel
theorem dX8_worthAt_45 : decode cX8_worthAt 45 = .ok (.iload 4, 2) := by decide +kernel
theorem dX8_worthAt_47 : decode cX8_worthAt 47 = .ok (.iload 4, 2) := by decide +kernel
theorem dX8_worthAt_49 : decode cX8_worthAt 49 = .ok (.aload_n 0, 1) := by decide +kernel
theorem dX8_worthAt_50 : decode cX8_worthAt 50 = .ok (.getfield 42, 3) := by decide +kernel
theorem dX8_worthAt_53 : decode cX8_worthAt 53 = .ok (.getfield 132, 3) := by decide +kernel
theorem dX8_worthAt_56 : decode cX8_worthAt 56 = .ok (.iconst 4, 1) := by decide +kernel
theorem dX8_worthAt_57 : decode cX8_worthAt 57 = .ok (.iaload, 1) := by decide +kernel
theorem dX8_worthAt_58 : decode cX8_worthAt 58 = .ok (.imul, 1) := by decide +kernel
theorem dX8_worthAt_59 : decode cX8_worthAt 59 = .ok (.bipush 100, 2) := by decide +kernel
theorem dX8_worthAt_61 : decode cX8_worthAt 61 = .ok (.idiv, 1) := by decide +kernel
theorem dX8_worthAt_62 : decode cX8_worthAt 62 = .ok (.iadd, 1) := by decide +kernel
theorem dX8_worthAt_63 : decode cX8_worthAt 63 = .ok (.i2l, 1) := by decide +kernel
theorem dX8_worthAt_64 : decode cX8_worthAt 64 = .ok (.lmul, 1) := by decide +kernel
theorem dX8_worthAt_65 : decode cX8_worthAt 65 = .ok (.lreturn, 1) := by decide +kernel
theorem dX8_worthAt_66 : decode cX8_worthAt 66 = .ok (.aload_n 0, 1) := by decide +kernel
theorem dX8_worthAt_67 : decode cX8_worthAt 67 = .ok (.getfield 42, 3) := by decide +kernel
theorem dX8_worthAt_70 : decode cX8_worthAt 70 = .ok (.getfield 132, 3) := by decide +kernel
theorem dX8_worthAt_73 : decode cX8_worthAt 73 = .ok (.iconst 5, 1) := by decide +kernel
theorem dX8_worthAt_74 : decode cX8_worthAt 74 = .ok (.iaload, 1) := by decide +kernel
theorem dX8_worthAt_75 : decode cX8_worthAt 75 = .ok (.iload_n 2, 1) := by decide +kernel
theorem dX8_worthAt_76 : decode cX8_worthAt 76 = .ok (.iload 6, 2) := by decide +kernel
theorem dX8_worthAt_78 : decode cX8_worthAt 78 = .ok (.isub, 1) := by decide +kernel
theorem dX8_worthAt_79 : decode cX8_worthAt 79 = .ok (.imul, 1) := by decide +kernel
theorem dX8_worthAt_80 : decode cX8_worthAt 80 = .ok (.iload 4, 2) := by decide +kernel
theorem dX8_worthAt_82 : decode cX8_worthAt 82 = .ok (.iadd, 1) := by decide +kernel
theorem dX8_worthAt_83 : decode cX8_worthAt 83 = .ok (.aload_n 0, 1) := by decide +kernel
theorem dX8_worthAt_84 : decode cX8_worthAt 84 = .ok (.getfield 42, 3) := by decide +kernel
theorem dX8_worthAt_87 : decode cX8_worthAt 87 = .ok (.aload_n 0, 1) := by decide +kernel
theorem dX8_worthAt_88 : decode cX8_worthAt 88 = .ok (.getfield 46, 3) := by decide +kernel
theorem dX8_worthAt_91 : decode cX8_worthAt 91 = .ok (.iload 5, 2) := by decide +kernel
theorem dX8_worthAt_93 : decode cX8_worthAt 93 = .ok (.invokevirtual 94, 3) := by decide +kernel
theorem dX8_worthAt_96 : decode cX8_worthAt 96 = .ok (.isub, 1) := by decide +kernel
theorem dX8_worthAt_97 : decode cX8_worthAt 97 = .ok (.istore 7, 2) := by decide +kernel
theorem dX8_worthAt_99 : decode cX8_worthAt 99 = .ok (.lconst 0, 1) := by decide +kernel
theorem dX8_worthAt_100 : decode cX8_worthAt 100 = .ok (.aload_n 0, 1) := by decide +kernel
theorem dX8_worthAt_101 : decode cX8_worthAt 101 = .ok (.iload 5, 2) := by decide +kernel
theorem dX8_worthAt_103 : decode cX8_worthAt 103 = .ok (.iload 6, 2) := by decide +kernel
theorem dX8_worthAt_105 : decode cX8_worthAt 105 = .ok (.iload_n 3, 1) := by decide +kernel
theorem dX8_worthAt_106 : decode cX8_worthAt 106 = .ok (.invokevirtual 135, 3) := by decide +kernel
theorem dX8_worthAt_109 : decode cX8_worthAt 109 = .ok (.ldc2_w 130, 3) := by decide +kernel
theorem dX8_worthAt_112 : decode cX8_worthAt 112 = .ok (.iload 7, 2) := by decide +kernel
theorem dX8_worthAt_114 : decode cX8_worthAt 114 = .ok (.i2l, 1) := by decide +kernel
theorem dX8_worthAt_115 : decode cX8_worthAt 115 = .ok (.lmul, 1) := by decide +kernel
theorem dX8_worthAt_116 : decode cX8_worthAt 116 = .ok (.ladd, 1) := by decide +kernel
theorem dX8_worthAt_117 : decode cX8_worthAt 117 = .ok (.invokestatic 139, 3) := by decide +kernel
theorem dX8_worthAt_120 : decode cX8_worthAt 120 = .ok (.lreturn, 1) := by decide +kernel
theorem dX8_averageAt_0 : decode cX8_averageAt 0 = .ok (.aload_n 0, 1) := by decide +kernel
theorem dX8_averageAt_1 : decode cX8_averageAt 1 = .ok (.getfield 32, 3) := by decide +kernel
theorem dX8_averageAt_4 : decode cX8_averageAt 4 = .ok (.iload_n 1, 1) := by decide +kernel
theorem dX8_averageAt_5 : decode cX8_averageAt 5 = .ok (.iconst 4, 1) := by decide +kernel
theorem dX8_averageAt_6 : decode cX8_averageAt 6 = .ok (.imul, 1) := by decide +kernel
theorem dX8_averageAt_7 : decode cX8_averageAt 7 = .ok (.iload_n 2, 1) := by decide +kernel
theorem dX8_averageAt_8 : decode cX8_averageAt 8 = .ok (.iadd, 1) := by decide +kernel
theorem dX8_averageAt_9 : decode cX8_averageAt 9 = .ok (.iaload, 1) := by decide +kernel
theorem dX8_averageAt_10 : decode cX8_averageAt 10 = .ok (.istore 4, 2) := by decide +kernel
theorem dX8_averageAt_12 : decode cX8_averageAt 12 = .ok (.aload_n 0, 1) := by decide +kernel
theorem dX8_averageAt_13 : decode cX8_averageAt 13 = .ok (.getfield 35, 3) := by decide +kernel
theorem dX8_averageAt_16 : decode cX8_averageAt 16 = .ok (.iload_n 1, 1) := by decide +kernel
theorem dX8_averageAt_17 : decode cX8_averageAt 17 = .ok (.iconst 4, 1) := by decide +kernel
theorem dX8_averageAt_18 : decode cX8_averageAt 18 = .ok (.imul, 1) := by decide +kernel
theorem dX8_averageAt_19 : decode cX8_averageAt 19 = .ok (.iload_n 2, 1) := by decide +kernel
theorem dX8_averageAt_20 : decode cX8_averageAt 20 = .ok (.iadd, 1) := by decide +kernel
theorem dX8_averageAt_21 : decode cX8_averageAt 21 = .ok (.laload, 1) := by decide +kernel
theorem dX8_averageAt_22 : decode cX8_averageAt 22 = .ok (.lstore 5, 2) := by decide +kernel
theorem dX8_averageAt_24 : decode cX8_averageAt 24 = .ok (.aload_n 0, 1) := by decide +kernel
theorem dX8_averageAt_25 : decode cX8_averageAt 25 = .ok (.getfield 42, 3) := by decide +kernel
theorem dX8_averageAt_28 : decode cX8_averageAt 28 = .ok (.getfield 58, 3) := by decide +kernel
theorem dX8_averageAt_31 : decode cX8_averageAt 31 = .ok (.astore 7, 2) := by decide +kernel
theorem dX8_averageAt_33 : decode cX8_averageAt 33 = .ok (.iconst 0, 1) := by decide +kernel
theorem dX8_averageAt_34 : decode cX8_averageAt 34 = .ok (.istore 8, 2) := by decide +kernel
theorem dX8_averageAt_36 : decode cX8_averageAt 36 = .ok (.lconst 0, 1) := by decide +kernel
theorem dX8_averageAt_37 : decode cX8_averageAt 37 = .ok (.lstore 9, 2) := by decide +kernel
theorem dX8_averageAt_39 : decode cX8_averageAt 39 = .ok (.iconst 0, 1) := by decide +kernel
theorem dX8_averageAt_40 : decode cX8_averageAt 40 = .ok (.istore 11, 2) := by decide +kernel
theorem dX8_averageAt_42 : decode cX8_averageAt 42 = .ok (.iload_n 3, 1) := by decide +kernel
theorem dX8_averageAt_43 : decode cX8_averageAt 43 = .ok (.iconst (-1), 1) := by decide +kernel
theorem dX8_averageAt_44 : decode cX8_averageAt 44 = .ok (.if_icmp .eq 90, 3) := by decide +kernel
theorem dX8_averageAt_47 : decode cX8_averageAt 47 = .ok (.iload 11, 2) := by decide +kernel
theorem dX8_averageAt_49 : decode cX8_averageAt 49 = .ok (.aload 7, 2) := by decide +kernel
theorem dX8_averageAt_51 : decode cX8_averageAt 51 = .ok (.getfield 64, 3) := by decide +kernel
theorem dX8_averageAt_54 : decode cX8_averageAt 54 = .ok (.if_icmp .ge 80, 3) := by decide +kernel
theorem dX8_averageAt_57 : decode cX8_averageAt 57 = .ok (.aload_n 0, 1) := by decide +kernel
theorem dX8_averageAt_58 : decode cX8_averageAt 58 = .ok (.getfield 22, 3) := by decide +kernel
theorem dX8_averageAt_61 : decode cX8_averageAt 61 = .ok (.iload 11, 2) := by decide +kernel
theorem dX8_averageAt_63 : decode cX8_averageAt 63 = .ok (.baload, 1) := by decide +kernel
theorem dX8_averageAt_64 : decode cX8_averageAt 64 = .ok (.ifCond .eq 64, 3) := by decide +kernel
theorem dX8_averageAt_67 : decode cX8_averageAt 67 = .ok (.aload 7, 2) := by decide +kernel
theorem dX8_averageAt_69 : decode cX8_averageAt 69 = .ok (.getfield 84, 3) := by decide +kernel
theorem dX8_averageAt_72 : decode cX8_averageAt 72 = .ok (.iload 11, 2) := by decide +kernel
theorem dX8_averageAt_74 : decode cX8_averageAt 74 = .ok (.iaload, 1) := by decide +kernel
theorem dX8_averageAt_75 : decode cX8_averageAt 75 = .ok (.iload_n 1, 1) := by decide +kernel
theorem dX8_averageAt_76 : decode cX8_averageAt 76 = .ok (.if_icmp .ne 52, 3) := by decide +kernel
theorem dX8_averageAt_79 : decode cX8_averageAt 79 = .ok (.aload 7, 2) := by decide +kernel
theorem dX8_averageAt_81 : decode cX8_averageAt 81 = .ok (.getfield 101, 3) := by decide +kernel
theorem dX8_averageAt_84 : decode cX8_averageAt 84 = .ok (.iload 11, 2) := by decide +kernel
theorem dX8_averageAt_86 : decode cX8_averageAt 86 = .ok (.iaload, 1) := by decide +kernel
theorem dX8_averageAt_87 : decode cX8_averageAt 87 = .ok (.iload_n 2, 1) := by decide +kernel
theorem dX8_averageAt_88 : decode cX8_averageAt 88 = .ok (.if_icmp .ne 40, 3) := by decide +kernel
theorem dX8_averageAt_91 : decode cX8_averageAt 91 = .ok (.aload 7, 2) := by decide +kernel
theorem dX8_averageAt_93 : decode cX8_averageAt 93 = .ok (.getfield 143, 3) := by decide +kernel
theorem dX8_averageAt_96 : decode cX8_averageAt 96 = .ok (.iload 11, 2) := by decide +kernel
theorem dX8_averageAt_98 : decode cX8_averageAt 98 = .ok (.iaload, 1) := by decide +kernel
theorem dX8_averageAt_99 : decode cX8_averageAt 99 = .ok (.iload_n 3, 1) := by decide +kernel
theorem dX8_averageAt_100 : decode cX8_averageAt 100 = .ok (.if_icmp .ne 28, 3) := by decide +kernel
theorem dX8_averageAt_103 : decode cX8_averageAt 103 = .ok (.iload 8, 2) := by decide +kernel
theorem dX8_averageAt_105 : decode cX8_averageAt 105 = .ok (.aload 7, 2) := by decide +kernel
theorem dX8_averageAt_107 : decode cX8_averageAt 107 = .ok (.getfield 77, 3) := by decide +kernel
theorem dX8_averageAt_110 : decode cX8_averageAt 110 = .ok (.iload 11, 2) := by decide +kernel
theorem dX8_averageAt_112 : decode cX8_averageAt 112 = .ok (.iaload, 1) := by decide +kernel
theorem dX8_averageAt_113 : decode cX8_averageAt 113 = .ok (.iadd, 1) := by decide +kernel
theorem dX8_averageAt_114 : decode cX8_averageAt 114 = .ok (.istore 8, 2) := by decide +kernel
theorem dX8_averageAt_116 : decode cX8_averageAt 116 = .ok (.lload 9, 2) := by decide +kernel
theorem dX8_averageAt_118 : decode cX8_averageAt 118 = .ok (.aload 7, 2) := by decide +kernel
theorem dX8_averageAt_120 : decode cX8_averageAt 120 = .ok (.iload 11, 2) := by decide +kernel
theorem dX8_averageAt_122 : decode cX8_averageAt 122 = .ok (.invokevirtual 104, 3) := by decide +kernel
theorem dX8_averageAt_125 : decode cX8_averageAt 125 = .ok (.ladd, 1) := by decide +kernel
theorem dX8_averageAt_126 : decode cX8_averageAt 126 = .ok (.lstore 9, 2) := by decide +kernel
theorem dX8_averageAt_128 : decode cX8_averageAt 128 = .ok (.iinc 11 1, 3) := by decide +kernel
theorem dX8_averageAt_131 : decode cX8_averageAt 131 = .ok (.goto (-89), 3) := by decide +kernel
theorem dX8_averageAt_134 : decode cX8_averageAt 134 = .ok (.iload 8, 2) := by decide +kernel
theorem dX8_averageAt_136 : decode cX8_averageAt 136 = .ok (.ifCond .le 10, 3) := by decide +kernel
theorem dX8_averageAt_139 : decode cX8_averageAt 139 = .ok (.lload 9, 2) := by decide +kernel
theorem dX8_averageAt_141 : decode cX8_averageAt 141 = .ok (.iload 8, 2) := by decide +kernel
theorem dX8_averageAt_143 : decode cX8_averageAt 143 = .ok (.i2l, 1) := by decide +kernel
theorem dX8_averageAt_144 : decode cX8_averageAt 144 = .ok (.ldiv, 1) := by decide +kernel
theorem dX8_averageAt_145 : decode cX8_averageAt 145 = .ok (.lreturn, 1) := by decide +kernel
theorem dX8_averageAt_146 : decode cX8_averageAt 146 = .ok (.iload 4, 2) := by decide +kernel
theorem dX8_averageAt_148 : decode cX8_averageAt 148 = .ok (.ifCond .le 12, 3) := by decide +kernel
theorem dX8_averageAt_151 : decode cX8_averageAt 151 = .ok (.lload 5, 2) := by decide +kernel
theorem dX8_averageAt_153 : decode cX8_averageAt 153 = .ok (.iload 4, 2) := by decide +kernel
theorem dX8_averageAt_155 : decode cX8_averageAt 155 = .ok (.i2l, 1) := by decide +kernel
theorem dX8_averageAt_156 : decode cX8_averageAt 156 = .ok (.ldiv, 1) := by decide +kernel
theorem dX8_averageAt_157 : decode cX8_averageAt 157 = .ok (.goto 4, 3) := by decide +kernel
theorem dX8_averageAt_160 : decode cX8_averageAt 160 = .ok (.lconst 0, 1) := by decide +kernel
theorem dX8_averageAt_161 : decode cX8_averageAt 161 = .ok (.lreturn, 1) := by decide +kernel
theorem dX8_matchFor_0 : decode cX8_matchFor 0 = .ok (.aload_n 0, 1) := by decide +kernel
theorem dX8_matchFor_1 : decode cX8_matchFor 1 = .ok (.getfield 42, 3) := by decide +kernel
theorem dX8_matchFor_4 : decode cX8_matchFor 4 = .ok (.getfield 58, 3) := by decide +kernel
theorem dX8_matchFor_7 : decode cX8_matchFor 7 = .ok (.astore_n 2, 1) := by decide +kernel
theorem dX8_matchFor_8 : decode cX8_matchFor 8 = .ok (.iconst (-1), 1) := by decide +kernel
theorem dX8_matchFor_9 : decode cX8_matchFor 9 = .ok (.istore_n 3, 1) := by decide +kernel
theorem dX8_matchFor_10 : decode cX8_matchFor 10 = .ok (.iconst 0, 1) := by decide +kernel
theorem dX8_matchFor_11 : decode cX8_matchFor 11 = .ok (.istore 4, 2) := by decide +kernel
theorem dX8_matchFor_13 : decode cX8_matchFor 13 = .ok (.iconst 0, 1) := by decide +kernel
theorem dX8_matchFor_14 : decode cX8_matchFor 14 = .ok (.istore 5, 2) := by decide +kernel
theorem dX8_matchFor_16 : decode cX8_matchFor 16 = .ok (.iload 5, 2) := by decide +kernel
theorem dX8_matchFor_18 : decode cX8_matchFor 18 = .ok (.aload_n 2, 1) := by decide +kernel
theorem dX8_matchFor_19 : decode cX8_matchFor 19 = .ok (.getfield 64, 3) := by decide +kernel
theorem dX8_matchFor_22 : decode cX8_matchFor 22 = .ok (.if_icmp .ge 63, 3) := by decide +kernel
theorem dX8_matchFor_25 : decode cX8_matchFor 25 = .ok (.aload_n 0, 1) := by decide +kernel
theorem dX8_matchFor_26 : decode cX8_matchFor 26 = .ok (.getfield 22, 3) := by decide +kernel
theorem dX8_matchFor_29 : decode cX8_matchFor 29 = .ok (.iload 5, 2) := by decide +kernel
theorem dX8_matchFor_31 : decode cX8_matchFor 31 = .ok (.baload, 1) := by decide +kernel
theorem dX8_matchFor_32 : decode cX8_matchFor 32 = .ok (.ifCond .eq 47, 3) := by decide +kernel
theorem dX8_matchFor_35 : decode cX8_matchFor 35 = .ok (.aload_n 2, 1) := by decide +kernel
theorem dX8_matchFor_36 : decode cX8_matchFor 36 = .ok (.getfield 84, 3) := by decide +kernel
theorem dX8_matchFor_39 : decode cX8_matchFor 39 = .ok (.iload 5, 2) := by decide +kernel
theorem dX8_matchFor_41 : decode cX8_matchFor 41 = .ok (.iaload, 1) := by decide +kernel
theorem dX8_matchFor_42 : decode cX8_matchFor 42 = .ok (.aload_n 2, 1) := by decide +kernel
theorem dX8_matchFor_43 : decode cX8_matchFor 43 = .ok (.getfield 84, 3) := by decide +kernel
theorem dX8_matchFor_46 : decode cX8_matchFor 46 = .ok (.iload_n 1, 1) := by decide +kernel
theorem dX8_matchFor_47 : decode cX8_matchFor 47 = .ok (.iaload, 1) := by decide +kernel
theorem dX8_matchFor_48 : decode cX8_matchFor 48 = .ok (.if_icmp .ne 31, 3) := by decide +kernel
theorem dX8_matchFor_51 : decode cX8_matchFor 51 = .ok (.aload_n 0, 1) := by decide +kernel
theorem dX8_matchFor_52 : decode cX8_matchFor 52 = .ok (.iload 5, 2) := by decide +kernel
theorem dX8_matchFor_54 : decode cX8_matchFor 54 = .ok (.iload_n 1, 1) := by decide +kernel
theorem dX8_matchFor_55 : decode cX8_matchFor 55 = .ok (.invokevirtual 146, 3) := by decide +kernel
theorem dX8_matchFor_58 : decode cX8_matchFor 58 = .ok (.istore 6, 2) := by decide +kernel
theorem dX8_matchFor_60 : decode cX8_matchFor 60 = .ok (.iload_n 3, 1) := by decide +kernel
theorem dX8_matchFor_61 : decode cX8_matchFor 61 = .ok (.iconst (-1), 1) := by decide +kernel
theorem dX8_matchFor_62 : decode cX8_matchFor 62 = .ok (.if_icmp .eq 10, 3) := by decide +kernel
theorem dX8_matchFor_65 : decode cX8_matchFor 65 = .ok (.iload 6, 2) := by decide +kernel
theorem dX8_matchFor_67 : decode cX8_matchFor 67 = .ok (.iload 4, 2) := by decide +kernel
theorem dX8_matchFor_69 : decode cX8_matchFor 69 = .ok (.if_icmp .ge 10, 3) := by decide +kernel
theorem dX8_matchFor_72 : decode cX8_matchFor 72 = .ok (.iload 5, 2) := by decide +kernel
theorem dX8_matchFor_74 : decode cX8_matchFor 74 = .ok (.istore_n 3, 1) := by decide +kernel
theorem dX8_matchFor_75 : decode cX8_matchFor 75 = .ok (.iload 6, 2) := by decide +kernel
theorem dX8_matchFor_77 : decode cX8_matchFor 77 = .ok (.istore 4, 2) := by decide +kernel
theorem dX8_matchFor_79 : decode cX8_matchFor 79 = .ok (.iinc 5 1, 3) := by decide +kernel
theorem dX8_matchFor_82 : decode cX8_matchFor 82 = .ok (.goto (-66), 3) := by decide +kernel
theorem dX8_matchFor_85 : decode cX8_matchFor 85 = .ok (.iload_n 3, 1) := by decide +kernel
theorem dX8_matchFor_86 : decode cX8_matchFor 86 = .ok (.ireturn, 1) := by decide +kernel
theorem dX8_apart_0 : decode cX8_apart 0 = .ok (.aload_n 0, 1) := by decide +kernel
theorem dX8_apart_1 : decode cX8_apart 1 = .ok (.getfield 42, 3) := by decide +kernel
theorem dX8_apart_4 : decode cX8_apart 4 = .ok (.getfield 58, 3) := by decide +kernel
theorem dX8_apart_7 : decode cX8_apart 7 = .ok (.astore_n 3, 1) := by decide +kernel
theorem dX8_apart_8 : decode cX8_apart 8 = .ok (.aload_n 3, 1) := by decide +kernel
theorem dX8_apart_9 : decode cX8_apart 9 = .ok (.getfield 101, 3) := by decide +kernel
theorem dX8_apart_12 : decode cX8_apart 12 = .ok (.iload_n 1, 1) := by decide +kernel
theorem dX8_apart_13 : decode cX8_apart 13 = .ok (.iaload, 1) := by decide +kernel
theorem dX8_apart_14 : decode cX8_apart 14 = .ok (.aload_n 3, 1) := by decide +kernel
theorem dX8_apart_15 : decode cX8_apart 15 = .ok (.getfield 101, 3) := by decide +kernel
theorem dX8_apart_18 : decode cX8_apart 18 = .ok (.iload_n 2, 1) := by decide +kernel
theorem dX8_apart_19 : decode cX8_apart 19 = .ok (.iaload, 1) := by decide +kernel
theorem dX8_apart_20 : decode cX8_apart 20 = .ok (.isub, 1) := by decide +kernel
theorem dX8_apart_21 : decode cX8_apart 21 = .ok (.invokestatic 115, 3) := by decide +kernel
theorem dX8_apart_24 : decode cX8_apart 24 = .ok (.istore 4, 2) := by decide +kernel
theorem dX8_apart_26 : decode cX8_apart 26 = .ok (.aload_n 3, 1) := by decide +kernel
theorem dX8_apart_27 : decode cX8_apart 27 = .ok (.getfield 143, 3) := by decide +kernel
theorem dX8_apart_30 : decode cX8_apart 30 = .ok (.iload_n 1, 1) := by decide +kernel
theorem dX8_apart_31 : decode cX8_apart 31 = .ok (.iaload, 1) := by decide +kernel
theorem dX8_apart_32 : decode cX8_apart 32 = .ok (.aload_n 3, 1) := by decide +kernel
theorem dX8_apart_33 : decode cX8_apart 33 = .ok (.getfield 143, 3) := by decide +kernel
theorem dX8_apart_36 : decode cX8_apart 36 = .ok (.iload_n 2, 1) := by decide +kernel
theorem dX8_apart_37 : decode cX8_apart 37 = .ok (.iaload, 1) := by decide +kernel
theorem dX8_apart_38 : decode cX8_apart 38 = .ok (.isub, 1) := by decide +kernel
theorem dX8_apart_39 : decode cX8_apart 39 = .ok (.invokestatic 115, 3) := by decide +kernel
theorem dX8_apart_42 : decode cX8_apart 42 = .ok (.istore 5, 2) := by decide +kernel
theorem dX8_apart_44 : decode cX8_apart 44 = .ok (.aload_n 3, 1) := by decide +kernel
theorem dX8_apart_45 : decode cX8_apart 45 = .ok (.getfield 77, 3) := by decide +kernel
theorem dX8_apart_48 : decode cX8_apart 48 = .ok (.iload_n 1, 1) := by decide +kernel
theorem dX8_apart_49 : decode cX8_apart 49 = .ok (.iaload, 1) := by decide +kernel
theorem dX8_apart_50 : decode cX8_apart 50 = .ok (.aload_n 3, 1) := by decide +kernel
theorem dX8_apart_51 : decode cX8_apart 51 = .ok (.getfield 77, 3) := by decide +kernel
theorem dX8_apart_54 : decode cX8_apart 54 = .ok (.iload_n 2, 1) := by decide +kernel
theorem dX8_apart_55 : decode cX8_apart 55 = .ok (.iaload, 1) := by decide +kernel
theorem dX8_apart_56 : decode cX8_apart 56 = .ok (.isub, 1) := by decide +kernel
theorem dX8_apart_57 : decode cX8_apart 57 = .ok (.invokestatic 115, 3) := by decide +kernel
theorem dX8_apart_60 : decode cX8_apart 60 = .ok (.istore 6, 2) := by decide +kernel
theorem dX8_apart_62 : decode cX8_apart 62 = .ok (.iload 4, 2) := by decide +kernel
theorem dX8_apart_64 : decode cX8_apart 64 = .ok (.bipush 12, 2) := by decide +kernel
theorem dX8_apart_66 : decode cX8_apart 66 = .ok (.imul, 1) := by decide +kernel
theorem dX8_apart_67 : decode cX8_apart 67 = .ok (.iload 5, 2) := by decide +kernel
theorem dX8_apart_69 : decode cX8_apart 69 = .ok (.iadd, 1) := by decide +kernel
theorem dX8_apart_70 : decode cX8_apart 70 = .ok (.sipush 1000, 3) := by decide +kernel
theorem dX8_apart_73 : decode cX8_apart 73 = .ok (.imul, 1) := by decide +kernel
theorem dX8_apart_74 : decode cX8_apart 74 = .ok (.iload 6, 2) := by decide +kernel
theorem dX8_apart_76 : decode cX8_apart 76 = .ok (.iadd, 1) := by decide +kernel
theorem dX8_apart_77 : decode cX8_apart 77 = .ok (.ireturn, 1) := by decide +kernel
theorem dX8_worthByMatch_0 : decode cX8_worthByMatch 0 = .ok (.aload_n 0, 1) := by decide +kernel
theorem dX8_worthByMatch_1 : decode cX8_worthByMatch 1 = .ok (.getfield 42, 3) := by decide +kernel
theorem dX8_worthByMatch_4 : decode cX8_worthByMatch 4 = .ok (.getfield 58, 3) := by decide +kernel
theorem dX8_worthByMatch_7 : decode cX8_worthByMatch 7 = .ok (.astore_n 3, 1) := by decide +kernel
theorem dX8_worthByMatch_8 : decode cX8_worthByMatch 8 = .ok (.aload_n 0, 1) := by decide +kernel
theorem dX8_worthByMatch_9 : decode cX8_worthByMatch 9 = .ok (.getfield 42, 3) := by decide +kernel
theorem dX8_worthByMatch_12 : decode cX8_worthByMatch 12 = .ok (.getfield 132, 3) := by decide +kernel
theorem dX8_worthByMatch_15 : decode cX8_worthByMatch 15 = .ok (.iconst 5, 1) := by decide +kernel
theorem dX8_worthByMatch_16 : decode cX8_worthByMatch 16 = .ok (.iaload, 1) := by decide +kernel
theorem dX8_worthByMatch_17 : decode cX8_worthByMatch 17 = .ok (.aload_n 3, 1) := by decide +kernel
theorem dX8_worthByMatch_18 : decode cX8_worthByMatch 18 = .ok (.getfield 101, 3) := by decide +kernel
theorem dX8_worthByMatch_21 : decode cX8_worthByMatch 21 = .ok (.iload_n 1, 1) := by decide +kernel
theorem dX8_worthByMatch_22 : decode cX8_worthByMatch 22 = .ok (.iaload, 1) := by decide +kernel
theorem dX8_worthByMatch_23 : decode cX8_worthByMatch 23 = .ok (.aload_n 3, 1) := by decide +kernel
theorem dX8_worthByMatch_24 : decode cX8_worthByMatch 24 = .ok (.getfield 101, 3) := by decide +kernel
theorem dX8_worthByMatch_27 : decode cX8_worthByMatch 27 = .ok (.iload_n 2, 1) := by decide +kernel
theorem dX8_worthByMatch_28 : decode cX8_worthByMatch 28 = .ok (.iaload, 1) := by decide +kernel
theorem dX8_worthByMatch_29 : decode cX8_worthByMatch 29 = .ok (.isub, 1) := by decide +kernel
theorem dX8_worthByMatch_30 : decode cX8_worthByMatch 30 = .ok (.imul, 1) := by decide +kernel
theorem dX8_worthByMatch_31 : decode cX8_worthByMatch 31 = .ok (.istore 4, 2) := by decide +kernel
theorem dX8_worthByMatch_33 : decode cX8_worthByMatch 33 = .ok (.ldc2_w 130, 3) := by decide +kernel
theorem dX8_worthByMatch_36 : decode cX8_worthByMatch 36 = .ok (.iconst 0, 1) := by decide +kernel
theorem dX8_worthByMatch_37 : decode cX8_worthByMatch 37 = .ok (.aload_n 3, 1) := by decide +kernel
theorem dX8_worthByMatch_38 : decode cX8_worthByMatch 38 = .ok (.getfield 91, 3) := by decide +kernel
theorem dX8_worthByMatch_41 : decode cX8_worthByMatch 41 = .ok (.iload_n 2, 1) := by decide +kernel
theorem dX8_worthByMatch_42 : decode cX8_worthByMatch 42 = .ok (.iaload, 1) := by decide +kernel
theorem dX8_worthByMatch_43 : decode cX8_worthByMatch 43 = .ok (.iload 4, 2) := by decide +kernel
theorem dX8_worthByMatch_45 : decode cX8_worthByMatch 45 = .ok (.iadd, 1) := by decide +kernel
theorem dX8_worthByMatch_46 : decode cX8_worthByMatch 46 = .ok (.invokestatic 149, 3) := by decide +kernel
theorem dX8_worthByMatch_49 : decode cX8_worthByMatch 49 = .ok (.i2l, 1) := by decide +kernel
theorem dX8_worthByMatch_50 : decode cX8_worthByMatch 50 = .ok (.lmul, 1) := by decide +kernel
theorem dX8_worthByMatch_51 : decode cX8_worthByMatch 51 = .ok (.lreturn, 1) := by decide +kernel
theorem dX9_init_0 : decode cX9_init 0 = .ok (.aload_n 0, 1) := by decide +kernel
theorem dX9_init_1 : decode cX9_init 1 = .ok (.invokespecial 3, 3) := by decide +kernel
theorem dX9_init_4 : decode cX9_init 4 = .ok (.aload_n 0, 1) := by decide +kernel
theorem dX9_init_5 : decode cX9_init 5 = .ok (.sipush 400, 3) := by decide +kernel
theorem dX9_init_8 : decode cX9_init 8 = .ok (.newarray .int, 2) := by decide +kernel
theorem dX9_init_10 : decode cX9_init 10 = .ok (.putfield 9, 3) := by decide +kernel
theorem dX9_init_13 : decode cX9_init 13 = .ok (.aload_n 0, 1) := by decide +kernel
theorem dX9_init_14 : decode cX9_init 14 = .ok (.iconst 3, 1) := by decide +kernel
theorem dX9_init_15 : decode cX9_init 15 = .ok (.newarray .int, 2) := by decide +kernel
theorem dX9_init_17 : decode cX9_init 17 = .ok (.putfield 15, 3) := by decide +kernel
theorem dX9_init_20 : decode cX9_init 20 = .ok (.aload_n 0, 1) := by decide +kernel
theorem dX9_init_21 : decode cX9_init 21 = .ok (.iconst 3, 1) := by decide +kernel
theorem dX9_init_22 : decode cX9_init 22 = .ok (.newarray .int, 2) := by decide +kernel
theorem dX9_init_24 : decode cX9_init 24 = .ok (.putfield 18, 3) := by decide +kernel
theorem dX9_init_27 : decode cX9_init 27 = .ok (.aload_n 0, 1) := by decide +kernel
theorem dX9_init_28 : decode cX9_init 28 = .ok (.bipush 16, 2) := by decide +kernel
theorem dX9_init_30 : decode cX9_init 30 = .ok (.newarray .long, 2) := by decide +kernel
theorem dX9_init_32 : decode cX9_init 32 = .ok (.putfield 21, 3) := by decide +kernel
theorem dX9_init_35 : decode cX9_init 35 = .ok (.return_, 1) := by decide +kernel
theorem dX9_clear_0 : decode cX9_clear 0 = .ok (.aload_n 0, 1) := by decide +kernel
theorem dX9_clear_1 : decode cX9_clear 1 = .ok (.iconst 0, 1) := by decide +kernel
theorem dX9_clear_2 : decode cX9_clear 2 = .ok (.putfield 25, 3) := by decide +kernel
theorem dX9_clear_5 : decode cX9_clear 5 = .ok (.iconst 0, 1) := by decide +kernel
theorem dX9_clear_6 : decode cX9_clear 6 = .ok (.istore_n 1, 1) := by decide +kernel
theorem dX9_clear_7 : decode cX9_clear 7 = .ok (.iload_n 1, 1) := by decide +kernel
theorem dX9_clear_8 : decode cX9_clear 8 = .ok (.iconst 3, 1) := by decide +kernel
theorem dX9_clear_9 : decode cX9_clear 9 = .ok (.if_icmp .ge 23, 3) := by decide +kernel
theorem dX9_clear_12 : decode cX9_clear 12 = .ok (.aload_n 0, 1) := by decide +kernel
theorem dX9_clear_13 : decode cX9_clear 13 = .ok (.getfield 15, 3) := by decide +kernel
theorem dX9_clear_16 : decode cX9_clear 16 = .ok (.iload_n 1, 1) := by decide +kernel
theorem dX9_clear_17 : decode cX9_clear 17 = .ok (.iconst 0, 1) := by decide +kernel
theorem dX9_clear_18 : decode cX9_clear 18 = .ok (.iastore, 1) := by decide +kernel
theorem dX9_clear_19 : decode cX9_clear 19 = .ok (.aload_n 0, 1) := by decide +kernel
theorem dX9_clear_20 : decode cX9_clear 20 = .ok (.getfield 18, 3) := by decide +kernel
theorem dX9_clear_23 : decode cX9_clear 23 = .ok (.iload_n 1, 1) := by decide +kernel
theorem dX9_clear_24 : decode cX9_clear 24 = .ok (.iconst 0, 1) := by decide +kernel
theorem dX9_clear_25 : decode cX9_clear 25 = .ok (.iastore, 1) := by decide +kernel
theorem dX9_clear_26 : decode cX9_clear 26 = .ok (.iinc 1 1, 3) := by decide +kernel
theorem dX9_clear_29 : decode cX9_clear 29 = .ok (.goto (-22), 3) := by decide +kernel
theorem dX9_clear_32 : decode cX9_clear 32 = .ok (.return_, 1) := by decide +kernel
theorem dX9_emit_0 : decode cX9_emit 0 = .ok (.aload_n 0, 1) := by decide +kernel
theorem dX9_emit_1 : decode cX9_emit 1 = .ok (.getfield 25, 3) := by decide +kernel
theorem dX9_emit_4 : decode cX9_emit 4 = .ok (.sipush 400, 3) := by decide +kernel
theorem dX9_emit_7 : decode cX9_emit 7 = .ok (.if_icmp .ge 23, 3) := by decide +kernel
theorem dX9_emit_10 : decode cX9_emit 10 = .ok (.aload_n 0, 1) := by decide +kernel
theorem dX9_emit_11 : decode cX9_emit 11 = .ok (.getfield 9, 3) := by decide +kernel
theorem dX9_emit_14 : decode cX9_emit 14 = .ok (.aload_n 0, 1) := by decide +kernel
theorem dX9_emit_15 : decode cX9_emit 15 = .ok (.getfield 25, 3) := by decide +kernel
theorem dX9_emit_18 : decode cX9_emit 18 = .ok (.iload_n 1, 1) := by decide +kernel
theorem dX9_emit_19 : decode cX9_emit 19 = .ok (.iastore, 1) := by decide +kernel
theorem dX9_emit_20 : decode cX9_emit 20 = .ok (.aload_n 0, 1) := by decide +kernel
theorem dX9_emit_21 : decode cX9_emit 21 = .ok (.dup, 1) := by decide +kernel
theorem dX9_emit_22 : decode cX9_emit 22 = .ok (.getfield 25, 3) := by decide +kernel
theorem dX9_emit_25 : decode cX9_emit 25 = .ok (.iconst 1, 1) := by decide +kernel
theorem dX9_emit_26 : decode cX9_emit 26 = .ok (.iadd, 1) := by decide +kernel
theorem dX9_emit_27 : decode cX9_emit 27 = .ok (.putfield 25, 3) := by decide +kernel
theorem dX9_emit_30 : decode cX9_emit 30 = .ok (.return_, 1) := by decide +kernel
theorem dX9_tell_0 : decode cX9_tell 0 = .ok (.aload_n 0, 1) := by decide +kernel
theorem dX9_tell_1 : decode cX9_tell 1 = .ok (.getfield 15, 3) := by decide +kernel
theorem dX9_tell_4 : decode cX9_tell 4 = .ok (.iload_n 1, 1) := by decide +kernel
theorem dX9_tell_5 : decode cX9_tell 5 = .ok (.iload_n 2, 1) := by decide +kernel
theorem dX9_tell_6 : decode cX9_tell 6 = .ok (.iastore, 1) := by decide +kernel
theorem dX9_tell_7 : decode cX9_tell 7 = .ok (.aload_n 0, 1) := by decide +kernel
theorem dX9_tell_8 : decode cX9_tell 8 = .ok (.getfield 18, 3) := by decide +kernel
theorem dX9_tell_11 : decode cX9_tell 11 = .ok (.iload_n 1, 1) := by decide +kernel
theorem dX9_tell_12 : decode cX9_tell 12 = .ok (.aload_n 0, 1) := by decide +kernel
theorem dX9_tell_13 : decode cX9_tell 13 = .ok (.getfield 25, 3) := by decide +kernel
theorem dX9_tell_16 : decode cX9_tell 16 = .ok (.iastore, 1) := by decide +kernel
theorem dX9_tell_17 : decode cX9_tell 17 = .ok (.return_, 1) := by decide +kernel
theorem dX9_offOf_0 : decode cX9_offOf 0 = .ok (.aload_n 1, 1) := by decide +kernel
theorem dX9_offOf_1 : decode cX9_offOf 1 = .ok (.getfield 29, 3) := by decide +kernel
theorem dX9_offOf_4 : decode cX9_offOf 4 = .ok (.iload_n 2, 1) := by decide +kernel
theorem dX9_offOf_5 : decode cX9_offOf 5 = .ok (.iaload, 1) := by decide +kernel
theorem dX9_offOf_6 : decode cX9_offOf 6 = .ok (.istore 4, 2) := by decide +kernel
theorem dX9_offOf_8 : decode cX9_offOf 8 = .ok (.iconst 0, 1) := by decide +kernel
theorem dX9_offOf_9 : decode cX9_offOf 9 = .ok (.istore 5, 2) := by decide +kernel
theorem dX9_offOf_11 : decode cX9_offOf 11 = .ok (.aload_n 0, 1) := by decide +kernel
theorem dX9_offOf_12 : decode cX9_offOf 12 = .ok (.getfield 15, 3) := by decide +kernel
theorem dX9_offOf_15 : decode cX9_offOf 15 = .ok (.iload 4, 2) := by decide +kernel
theorem dX9_offOf_17 : decode cX9_offOf 17 = .ok (.iaload, 1) := by decide +kernel
theorem dX9_offOf_18 : decode cX9_offOf 18 = .ok (.istore 6, 2) := by decide +kernel
theorem dX9_offOf_20 : decode cX9_offOf 20 = .ok (.iload 6, 2) := by decide +kernel
theorem dX9_offOf_22 : decode cX9_offOf 22 = .ok (.aload_n 0, 1) := by decide +kernel
theorem dX9_offOf_23 : decode cX9_offOf 23 = .ok (.getfield 18, 3) := by decide +kernel
theorem dX9_offOf_26 : decode cX9_offOf 26 = .ok (.iload 4, 2) := by decide +kernel
theorem dX9_offOf_28 : decode cX9_offOf 28 = .ok (.iaload, 1) := by decide +kernel
theorem dX9_offOf_29 : decode cX9_offOf 29 = .ok (.if_icmp .ge 104, 3) := by decide +kernel
theorem dX9_offOf_32 : decode cX9_offOf 32 = .ok (.aload_n 0, 1) := by decide +kernel
theorem dX9_offOf_33 : decode cX9_offOf 33 = .ok (.getfield 9, 3) := by decide +kernel
theorem dX9_offOf_36 : decode cX9_offOf 36 = .ok (.iload 6, 2) := by decide +kernel
theorem dX9_offOf_38 : decode cX9_offOf 38 = .ok (.iaload, 1) := by decide +kernel
theorem dX9_offOf_39 : decode cX9_offOf 39 = .ok (.istore 7, 2) := by decide +kernel
theorem dX9_offOf_41 : decode cX9_offOf 41 = .ok (.iload 7, 2) := by decide +kernel
theorem dX9_offOf_43 : decode cX9_offOf 43 = .ok (.bipush (-6), 2) := by decide +kernel
theorem dX9_offOf_45 : decode cX9_offOf 45 = .ok (.if_icmp .le 43, 3) := by decide +kernel
theorem dX9_offOf_48 : decode cX9_offOf 48 = .ok (.iload 5, 2) := by decide +kernel
theorem dX9_offOf_50 : decode cX9_offOf 50 = .ok (.bipush 16, 2) := by decide +kernel
theorem dX9_offOf_52 : decode cX9_offOf 52 = .ok (.if_icmp .ge 75, 3) := by decide +kernel
theorem dX9_offOf_55 : decode cX9_offOf 55 = .ok (.aload_n 0, 1) := by decide +kernel
theorem dX9_offOf_56 : decode cX9_offOf 56 = .ok (.getfield 21, 3) := by decide +kernel
theorem dX9_offOf_59 : decode cX9_offOf 59 = .ok (.iload 5, 2) := by decide +kernel
theorem dX9_offOf_61 : decode cX9_offOf 61 = .ok (.iload 7, 2) := by decide +kernel
theorem dX9_offOf_63 : decode cX9_offOf 63 = .ok (.ifCond .lt 9, 3) := by decide +kernel
theorem dX9_offOf_66 : decode cX9_offOf 66 = .ok (.iload 7, 2) := by decide +kernel
theorem dX9_offOf_68 : decode cX9_offOf 68 = .ok (.i2l, 1) := by decide +kernel
theorem dX9_offOf_69 : decode cX9_offOf 69 = .ok (.goto 12, 3) := by decide +kernel
theorem dX9_offOf_72 : decode cX9_offOf 72 = .ok (.iload 7, 2) := by decide +kernel
theorem dX9_offOf_74 : decode cX9_offOf 74 = .ok (.aload_n 1, 1) := by decide +kernel
theorem dX9_offOf_75 : decode cX9_offOf 75 = .ok (.iload_n 2, 1) := by decide +kernel
theorem dX9_offOf_76 : decode cX9_offOf 76 = .ok (.iload_n 3, 1) := by decide +kernel
theorem dX9_offOf_77 : decode cX9_offOf 77 = .ok (.invokestatic 34, 3) := by decide +kernel
theorem dX9_offOf_80 : decode cX9_offOf 80 = .ok (.i2l, 1) := by decide +kernel
theorem dX9_offOf_81 : decode cX9_offOf 81 = .ok (.lastore, 1) := by decide +kernel
theorem dX9_offOf_82 : decode cX9_offOf 82 = .ok (.iinc 5 1, 3) := by decide +kernel
theorem dX9_offOf_85 : decode cX9_offOf 85 = .ok (.goto 42, 3) := by decide +kernel
theorem dX9_offOf_88 : decode cX9_offOf 88 = .ok (.iload 5, 2) := by decide +kernel
theorem dX9_offOf_90 : decode cX9_offOf 90 = .ok (.iconst 2, 1) := by decide +kernel
theorem dX9_offOf_91 : decode cX9_offOf 91 = .ok (.if_icmp .lt 36, 3) := by decide +kernel
theorem dX9_offOf_94 : decode cX9_offOf 94 = .ok (.iinc 5 (-1), 3) := by decide +kernel
theorem dX9_offOf_97 : decode cX9_offOf 97 = .ok (.aload_n 0, 1) := by decide +kernel
theorem dX9_offOf_98 : decode cX9_offOf 98 = .ok (.getfield 21, 3) := by decide +kernel
theorem dX9_offOf_101 : decode cX9_offOf 101 = .ok (.iload 5, 2) := by decide +kernel
theorem dX9_offOf_103 : decode cX9_offOf 103 = .ok (.iconst 1, 1) := by decide +kernel
theorem dX9_offOf_104 : decode cX9_offOf 104 = .ok (.isub, 1) := by decide +kernel
theorem dX9_offOf_105 : decode cX9_offOf 105 = .ok (.iload 7, 2) := by decide +kernel
theorem dX9_offOf_107 : decode cX9_offOf 107 = .ok (.aload_n 0, 1) := by decide +kernel
theorem dX9_offOf_108 : decode cX9_offOf 108 = .ok (.getfield 21, 3) := by decide +kernel
theorem dX9_offOf_111 : decode cX9_offOf 111 = .ok (.iload 5, 2) := by decide +kernel
theorem dX9_offOf_113 : decode cX9_offOf 113 = .ok (.iconst 1, 1) := by decide +kernel
theorem dX9_offOf_114 : decode cX9_offOf 114 = .ok (.isub, 1) := by decide +kernel
theorem dX9_offOf_115 : decode cX9_offOf 115 = .ok (.laload, 1) := by decide +kernel
theorem dX9_offOf_116 : decode cX9_offOf 116 = .ok (.aload_n 0, 1) := by decide +kernel
theorem dX9_offOf_117 : decode cX9_offOf 117 = .ok (.getfield 21, 3) := by decide +kernel
theorem dX9_offOf_120 : decode cX9_offOf 120 = .ok (.iload 5, 2) := by decide +kernel
theorem dX9_offOf_122 : decode cX9_offOf 122 = .ok (.laload, 1) := by decide +kernel
theorem dX9_offOf_123 : decode cX9_offOf 123 = .ok (.invokestatic 38, 3) := by decide +kernel
theorem dX9_offOf_126 : decode cX9_offOf 126 = .ok (.lastore, 1) := by decide +kernel
theorem dX9_offOf_127 : decode cX9_offOf 127 = .ok (.iinc 6 1, 3) := by decide +kernel
theorem dX9_offOf_130 : decode cX9_offOf 130 = .ok (.goto (-110), 3) := by decide +kernel
theorem dX9_offOf_133 : decode cX9_offOf 133 = .ok (.iload 5, 2) := by decide +kernel
theorem dX9_offOf_135 : decode cX9_offOf 135 = .ok (.ifCond .ne 7, 3) := by decide +kernel
theorem dX9_offOf_138 : decode cX9_offOf 138 = .ok (.iconst 0, 1) := by decide +kernel
theorem dX9_offOf_139 : decode cX9_offOf 139 = .ok (.goto 10, 3) := by decide +kernel
theorem dX9_offOf_142 : decode cX9_offOf 142 = .ok (.aload_n 0, 1) := by decide +kernel
theorem dX9_offOf_143 : decode cX9_offOf 143 = .ok (.getfield 21, 3) := by decide +kernel
theorem dX9_offOf_146 : decode cX9_offOf 146 = .ok (.iconst 0, 1) := by decide +kernel
theorem dX9_offOf_147 : decode cX9_offOf 147 = .ok (.laload, 1) := by decide +kernel
theorem dX9_offOf_148 : decode cX9_offOf 148 = .ok (.l2i, 1) := by decide +kernel
theorem dX9_offOf_149 : decode cX9_offOf 149 = .ok (.ireturn, 1) := by decide +kernel
theorem dX9_letterOf_0 : decode cX9_letterOf 0 = .ok (.iload_n 0, 1) := by decide +kernel
theorem dX9_letterOf_1 : decode cX9_letterOf 1 = .ok (.tableswitch 59 (-4) (-1) #[52, 45, 38, 31], 31) := by decide +kernel
theorem dX9_letterOf_32 : decode cX9_letterOf 32 = .ok (.aload_n 1, 1) := by decide +kernel
theorem dX9_letterOf_33 : decode cX9_letterOf 33 = .ok (.getfield 42, 3) := by decide +kernel
theorem dX9_letterOf_36 : decode cX9_letterOf 36 = .ok (.iload_n 2, 1) := by decide +kernel
theorem dX9_letterOf_37 : decode cX9_letterOf 37 = .ok (.iaload, 1) := by decide +kernel
theorem dX9_letterOf_38 : decode cX9_letterOf 38 = .ok (.ireturn, 1) := by decide +kernel
theorem dX9_letterOf_39 : decode cX9_letterOf 39 = .ok (.aload_n 1, 1) := by decide +kernel
theorem dX9_letterOf_40 : decode cX9_letterOf 40 = .ok (.getfield 45, 3) := by decide +kernel
theorem dX9_letterOf_43 : decode cX9_letterOf 43 = .ok (.iload_n 2, 1) := by decide +kernel
theorem dX9_letterOf_44 : decode cX9_letterOf 44 = .ok (.iaload, 1) := by decide +kernel
theorem dX9_letterOf_45 : decode cX9_letterOf 45 = .ok (.ireturn, 1) := by decide +kernel
theorem dX9_letterOf_46 : decode cX9_letterOf 46 = .ok (.aload_n 1, 1) := by decide +kernel
theorem dX9_letterOf_47 : decode cX9_letterOf 47 = .ok (.getfield 48, 3) := by decide +kernel
theorem dX9_letterOf_50 : decode cX9_letterOf 50 = .ok (.iload_n 2, 1) := by decide +kernel
theorem dX9_letterOf_51 : decode cX9_letterOf 51 = .ok (.iaload, 1) := by decide +kernel
theorem dX9_letterOf_52 : decode cX9_letterOf 52 = .ok (.ireturn, 1) := by decide +kernel
theorem dX9_letterOf_53 : decode cX9_letterOf 53 = .ok (.aload_n 1, 1) := by decide +kernel
theorem dX9_letterOf_54 : decode cX9_letterOf 54 = .ok (.getfield 51, 3) := by decide +kernel
theorem dX9_letterOf_57 : decode cX9_letterOf 57 = .ok (.iload_n 2, 1) := by decide +kernel
theorem dX9_letterOf_58 : decode cX9_letterOf 58 = .ok (.iaload, 1) := by decide +kernel
theorem dX9_letterOf_59 : decode cX9_letterOf 59 = .ok (.ireturn, 1) := by decide +kernel
theorem dX9_letterOf_60 : decode cX9_letterOf 60 = .ok (.iload_n 3, 1) := by decide +kernel
theorem dX9_letterOf_61 : decode cX9_letterOf 61 = .ok (.ireturn, 1) := by decide +kernel
theorem dX9_apply_0 : decode cX9_apply 0 = .ok (.iload_n 0, 1) := by decide +kernel
theorem dX9_apply_1 : decode cX9_apply 1 = .ok (.tableswitch 51 (-8) (-6) #[43, 35, 27], 27) := by decide +kernel
theorem dX9_apply_28 : decode cX9_apply 28 = .ok (.lload_n 1, 1) := by decide +kernel
theorem dX9_apply_29 : decode cX9_apply 29 = .ok (.lload_n 3, 1) := by decide +kernel
theorem dX9_apply_30 : decode cX9_apply 30 = .ok (.ladd, 1) := by decide +kernel
theorem dX9_apply_31 : decode cX9_apply 31 = .ok (.lstore 5, 2) := by decide +kernel
theorem dX9_apply_33 : decode cX9_apply 33 = .ok (.goto 36, 3) := by decide +kernel
theorem dX9_apply_36 : decode cX9_apply 36 = .ok (.lload_n 1, 1) := by decide +kernel
theorem dX9_apply_37 : decode cX9_apply 37 = .ok (.lload_n 3, 1) := by decide +kernel
theorem dX9_apply_38 : decode cX9_apply 38 = .ok (.lsub, 1) := by decide +kernel
theorem dX9_apply_39 : decode cX9_apply 39 = .ok (.lstore 5, 2) := by decide +kernel
theorem dX9_apply_41 : decode cX9_apply 41 = .ok (.goto 28, 3) := by decide +kernel
theorem dX9_apply_44 : decode cX9_apply 44 = .ok (.lload_n 1, 1) := by decide +kernel
theorem dX9_apply_45 : decode cX9_apply 45 = .ok (.lload_n 3, 1) := by decide +kernel
theorem dX9_apply_46 : decode cX9_apply 46 = .ok (.lmul, 1) := by decide +kernel
theorem dX9_apply_47 : decode cX9_apply 47 = .ok (.lstore 5, 2) := by decide +kernel
theorem dX9_apply_49 : decode cX9_apply 49 = .ok (.goto 20, 3) := by decide +kernel
theorem dX9_apply_52 : decode cX9_apply 52 = .ok (.lload_n 3, 1) := by decide +kernel
theorem dX9_apply_53 : decode cX9_apply 53 = .ok (.lconst 0, 1) := by decide +kernel
theorem dX9_apply_54 : decode cX9_apply 54 = .ok (.lcmp, 1) := by decide +kernel
theorem dX9_apply_55 : decode cX9_apply 55 = .ok (.ifCond .ne 7, 3) := by decide +kernel
theorem dX9_apply_58 : decode cX9_apply 58 = .ok (.lconst 0, 1) := by decide +kernel
theorem dX9_apply_59 : decode cX9_apply 59 = .ok (.goto 8, 3) := by decide +kernel
theorem dX9_apply_62 : decode cX9_apply 62 = .ok (.lload_n 1, 1) := by decide +kernel
theorem dX9_apply_63 : decode cX9_apply 63 = .ok (.lload_n 3, 1) := by decide +kernel
theorem dX9_apply_64 : decode cX9_apply 64 = .ok (.invokestatic 54, 3) := by decide +kernel
theorem dX9_apply_67 : decode cX9_apply 67 = .ok (.lstore 5, 2) := by decide +kernel
theorem dX9_apply_69 : decode cX9_apply 69 = .ok (.ldc2_w 60, 3) := by decide +kernel
theorem dX9_apply_72 : decode cX9_apply 72 = .ok (.ldc2_w 62, 3) := by decide +kernel
theorem dX9_apply_75 : decode cX9_apply 75 = .ok (.lload 5, 2) := by decide +kernel
theorem dX9_apply_77 : decode cX9_apply 77 = .ok (.invokestatic 64, 3) := by decide +kernel
theorem dX9_apply_80 : decode cX9_apply 80 = .ok (.invokestatic 67, 3) := by decide +kernel
theorem dX9_apply_83 : decode cX9_apply 83 = .ok (.lreturn, 1) := by decide +kernel
theorem dJ9_floorDiv_f86c9_0 : decode cJ9_floorDiv_f86c9 0 = .ok (.lload_n 0, 1) := by decide +kernel
theorem dJ9_floorDiv_f86c9_1 : decode cJ9_floorDiv_f86c9 1 = .ok (.lload_n 2, 1) := by decide +kernel
theorem dJ9_floorDiv_f86c9_2 : decode cJ9_floorDiv_f86c9 2 = .ok (.ldiv, 1) := by decide +kernel
theorem dJ9_floorDiv_f86c9_3 : decode cJ9_floorDiv_f86c9 3 = .ok (.lstore 4, 2) := by decide +kernel
theorem dJ9_floorDiv_f86c9_5 : decode cJ9_floorDiv_f86c9 5 = .ok (.lload_n 0, 1) := by decide +kernel
theorem dJ9_floorDiv_f86c9_6 : decode cJ9_floorDiv_f86c9 6 = .ok (.lload_n 2, 1) := by decide +kernel
theorem dJ9_floorDiv_f86c9_7 : decode cJ9_floorDiv_f86c9 7 = .ok (.lxor, 1) := by decide +kernel
theorem dJ9_floorDiv_f86c9_8 : decode cJ9_floorDiv_f86c9 8 = .ok (.lconst 0, 1) := by decide +kernel
theorem dJ9_floorDiv_f86c9_9 : decode cJ9_floorDiv_f86c9 9 = .ok (.lcmp, 1) := by decide +kernel
theorem dJ9_floorDiv_f86c9_10 : decode cJ9_floorDiv_f86c9 10 = .ok (.ifCond .ge 17, 3) := by decide +kernel
theorem dJ9_floorDiv_f86c9_13 : decode cJ9_floorDiv_f86c9 13 = .ok (.lload 4, 2) := by decide +kernel
theorem dJ9_floorDiv_f86c9_15 : decode cJ9_floorDiv_f86c9 15 = .ok (.lload_n 2, 1) := by decide +kernel
theorem dJ9_floorDiv_f86c9_16 : decode cJ9_floorDiv_f86c9 16 = .ok (.lmul, 1) := by decide +kernel
theorem dJ9_floorDiv_f86c9_17 : decode cJ9_floorDiv_f86c9 17 = .ok (.lload_n 0, 1) := by decide +kernel
theorem dJ9_floorDiv_f86c9_18 : decode cJ9_floorDiv_f86c9 18 = .ok (.lcmp, 1) := by decide +kernel
theorem dJ9_floorDiv_f86c9_19 : decode cJ9_floorDiv_f86c9 19 = .ok (.ifCond .eq 8, 3) := by decide +kernel
theorem dJ9_floorDiv_f86c9_22 : decode cJ9_floorDiv_f86c9 22 = .ok (.lload 4, 2) := by decide +kernel
theorem dJ9_floorDiv_f86c9_24 : decode cJ9_floorDiv_f86c9 24 = .ok (.lconst 1, 1) := by decide +kernel
theorem dJ9_floorDiv_f86c9_25 : decode cJ9_floorDiv_f86c9 25 = .ok (.lsub, 1) := by decide +kernel
theorem dJ9_floorDiv_f86c9_26 : decode cJ9_floorDiv_f86c9 26 = .ok (.lreturn, 1) := by decide +kernel
theorem dJ9_floorDiv_f86c9_27 : decode cJ9_floorDiv_f86c9 27 = .ok (.lload 4, 2) := by decide +kernel
theorem dJ9_floorDiv_f86c9_29 : decode cJ9_floorDiv_f86c9 29 = .ok (.lreturn, 1) := by decide +kernel
theorem dJ9_abs_0f7a4_0 : decode cJ9_abs_0f7a4 0 = .ok (.iload_n 0, 1) := by decide +kernel
theorem dJ9_abs_0f7a4_1 : decode cJ9_abs_0f7a4 1 = .ok (.ifCond .ge 8, 3) := by decide +kernel
theorem dJ9_abs_0f7a4_4 : decode cJ9_abs_0f7a4 4 = .ok (.iload_n 0, 1) := by decide +kernel
theorem dJ9_abs_0f7a4_5 : decode cJ9_abs_0f7a4 5 = .ok (.ineg, 1) := by decide +kernel
theorem dJ9_abs_0f7a4_6 : decode cJ9_abs_0f7a4 6 = .ok (.goto 4, 3) := by decide +kernel
theorem dJ9_abs_0f7a4_9 : decode cJ9_abs_0f7a4 9 = .ok (.iload_n 0, 1) := by decide +kernel
theorem dJ9_abs_0f7a4_10 : decode cJ9_abs_0f7a4 10 = .ok (.ireturn, 1) := by decide +kernel
theorem dJ9_max_7cf53_0 : decode cJ9_max_7cf53 0 = .ok (.iload_n 0, 1) := by decide +kernel
theorem dJ9_max_7cf53_1 : decode cJ9_max_7cf53 1 = .ok (.iload_n 1, 1) := by decide +kernel
theorem dJ9_max_7cf53_2 : decode cJ9_max_7cf53 2 = .ok (.if_icmp .lt 7, 3) := by decide +kernel
theorem dJ9_max_7cf53_5 : decode cJ9_max_7cf53 5 = .ok (.iload_n 0, 1) := by decide +kernel
theorem dJ9_max_7cf53_6 : decode cJ9_max_7cf53 6 = .ok (.goto 4, 3) := by decide +kernel
theorem dJ9_max_7cf53_9 : decode cJ9_max_7cf53 9 = .ok (.iload_n 1, 1) := by decide +kernel
theorem dJ9_max_7cf53_10 : decode cJ9_max_7cf53 10 = .ok (.ireturn, 1) := by decide +kernel
theorem dJ9_max_f86c9_0 : decode cJ9_max_f86c9 0 = .ok (.lload_n 0, 1) := by decide +kernel
theorem dJ9_max_f86c9_1 : decode cJ9_max_f86c9 1 = .ok (.lload_n 2, 1) := by decide +kernel
theorem dJ9_max_f86c9_2 : decode cJ9_max_f86c9 2 = .ok (.lcmp, 1) := by decide +kernel
theorem dJ9_max_f86c9_3 : decode cJ9_max_f86c9 3 = .ok (.ifCond .lt 7, 3) := by decide +kernel
theorem dJ9_max_f86c9_6 : decode cJ9_max_f86c9 6 = .ok (.lload_n 0, 1) := by decide +kernel
theorem dJ9_max_f86c9_7 : decode cJ9_max_f86c9 7 = .ok (.goto 4, 3) := by decide +kernel
theorem dJ9_max_f86c9_10 : decode cJ9_max_f86c9 10 = .ok (.lload_n 2, 1) := by decide +kernel
theorem dJ9_max_f86c9_11 : decode cJ9_max_f86c9 11 = .ok (.lreturn, 1) := by decide +kernel
theorem dJ9_min_7cf53_0 : decode cJ9_min_7cf53 0 = .ok (.iload_n 0, 1) := by decide +kernel
theorem dJ9_min_7cf53_1 : decode cJ9_min_7cf53 1 = .ok (.iload_n 1, 1) := by decide +kernel
theorem dJ9_min_7cf53_2 : decode cJ9_min_7cf53 2 = .ok (.if_icmp .gt 7, 3) := by decide +kernel
theorem dJ9_min_7cf53_5 : decode cJ9_min_7cf53 5 = .ok (.iload_n 0, 1) := by decide +kernel
theorem dJ9_min_7cf53_6 : decode cJ9_min_7cf53 6 = .ok (.goto 4, 3) := by decide +kernel
theorem dJ9_min_7cf53_9 : decode cJ9_min_7cf53 9 = .ok (.iload_n 1, 1) := by decide +kernel
theorem dJ9_min_7cf53_10 : decode cJ9_min_7cf53 10 = .ok (.ireturn, 1) := by decide +kernel
theorem dJ9_min_f86c9_0 : decode cJ9_min_f86c9 0 = .ok (.lload_n 0, 1) := by decide +kernel
theorem dJ9_min_f86c9_1 : decode cJ9_min_f86c9 1 = .ok (.lload_n 2, 1) := by decide +kernel
theorem dJ9_min_f86c9_2 : decode cJ9_min_f86c9 2 = .ok (.lcmp, 1) := by decide +kernel
theorem dJ9_min_f86c9_3 : decode cJ9_min_f86c9 3 = .ok (.ifCond .gt 7, 3) := by decide +kernel
theorem dJ9_min_f86c9_6 : decode cJ9_min_f86c9 6 = .ok (.lload_n 0, 1) := by decide +kernel
theorem dJ9_min_f86c9_7 : decode cJ9_min_f86c9 7 = .ok (.goto 4, 3) := by decide +kernel
theorem dJ9_min_f86c9_10 : decode cJ9_min_f86c9 10 = .ok (.lload_n 2, 1) := by decide +kernel
theorem dJ9_min_f86c9_11 : decode cJ9_min_f86c9 11 = .ok (.lreturn, 1) := by decide +kernel
theorem dJ0_length_8abf5_0 : decode cJ0_length_8abf5 0 = .ok (.aload_n 0, 1) := by decide +kernel
theorem dJ0_length_8abf5_1 : decode cJ0_length_8abf5 1 = .ok (.getfield 9, 3) := by decide +kernel
theorem dJ0_length_8abf5_4 : decode cJ0_length_8abf5 4 = .ok (.arraylength, 1) := by decide +kernel
theorem dJ0_length_8abf5_5 : decode cJ0_length_8abf5 5 = .ok (.aload_n 0, 1) := by decide +kernel
theorem dJ0_length_8abf5_6 : decode cJ0_length_8abf5 6 = .ok (.invokevirtual 335, 3) := by decide +kernel
theorem dJ0_length_8abf5_9 : decode cJ0_length_8abf5 9 = .ok (.ishr, 1) := by decide +kernel
theorem dJ0_length_8abf5_10 : decode cJ0_length_8abf5 10 = .ok (.ireturn, 1) := by decide +kernel
theorem dJ0_charAt_5068e_0 : decode cJ0_charAt_5068e 0 = .ok (.aload_n 0, 1) := by decide +kernel
theorem dJ0_charAt_5068e_1 : decode cJ0_charAt_5068e 1 = .ok (.invokevirtual 492, 3) := by decide +kernel
theorem dJ0_charAt_5068e_4 : decode cJ0_charAt_5068e 4 = .ok (.ifCond .eq 12, 3) := by decide +kernel
theorem dJ0_charAt_5068e_7 : decode cJ0_charAt_5068e 7 = .ok (.aload_n 0, 1) := by decide +kernel
theorem dJ0_charAt_5068e_8 : decode cJ0_charAt_5068e 8 = .ok (.getfield 9, 3) := by decide +kernel
theorem dJ0_charAt_5068e_11 : decode cJ0_charAt_5068e 11 = .ok (.iload_n 1, 1) := by decide +kernel
theorem dJ0_charAt_5068e_12 : decode cJ0_charAt_5068e 12 = .ok (.invokestatic 495, 3) := by decide +kernel
theorem dJ0_charAt_5068e_15 : decode cJ0_charAt_5068e 15 = .ok (.ireturn, 1) := by decide +kernel
theorem dJ0_charAt_5068e_16 : decode cJ0_charAt_5068e 16 = .ok (.aload_n 0, 1) := by decide +kernel
theorem dJ0_charAt_5068e_17 : decode cJ0_charAt_5068e 17 = .ok (.getfield 9, 3) := by decide +kernel
theorem dJ0_charAt_5068e_20 : decode cJ0_charAt_5068e 20 = .ok (.iload_n 1, 1) := by decide +kernel
theorem dJ0_charAt_5068e_21 : decode cJ0_charAt_5068e 21 = .ok (.invokestatic 498, 3) := by decide +kernel
theorem dJ0_charAt_5068e_24 : decode cJ0_charAt_5068e 24 = .ok (.ireturn, 1) := by decide +kernel
theorem dJ0_coder_7d493_0 : decode cJ0_coder_7d493 0 = .ok (.getstatic 38, 3) := by decide +kernel
theorem dJ0_coder_7d493_3 : decode cJ0_coder_7d493 3 = .ok (.ifCond .eq 10, 3) := by decide +kernel
theorem dJ0_coder_7d493_6 : decode cJ0_coder_7d493 6 = .ok (.aload_n 0, 1) := by decide +kernel
theorem dJ0_coder_7d493_7 : decode cJ0_coder_7d493 7 = .ok (.getfield 15, 3) := by decide +kernel
theorem dJ0_coder_7d493_10 : decode cJ0_coder_7d493 10 = .ok (.goto 4, 3) := by decide +kernel
theorem dJ0_coder_7d493_13 : decode cJ0_coder_7d493 13 = .ok (.iconst 1, 1) := by decide +kernel
theorem dJ0_coder_7d493_14 : decode cJ0_coder_7d493 14 = .ok (.ireturn, 1) := by decide +kernel
theorem dJ0_isLatin1_aae02_0 : decode cJ0_isLatin1_aae02 0 = .ok (.getstatic 38, 3) := by decide +kernel
theorem dJ0_isLatin1_aae02_3 : decode cJ0_isLatin1_aae02 3 = .ok (.ifCond .eq 14, 3) := by decide +kernel
theorem dJ0_isLatin1_aae02_6 : decode cJ0_isLatin1_aae02 6 = .ok (.aload_n 0, 1) := by decide +kernel
theorem dJ0_isLatin1_aae02_7 : decode cJ0_isLatin1_aae02 7 = .ok (.getfield 15, 3) := by decide +kernel
theorem dJ0_isLatin1_aae02_10 : decode cJ0_isLatin1_aae02 10 = .ok (.ifCond .ne 7, 3) := by decide +kernel
theorem dJ0_isLatin1_aae02_13 : decode cJ0_isLatin1_aae02 13 = .ok (.iconst 1, 1) := by decide +kernel
theorem dJ0_isLatin1_aae02_14 : decode cJ0_isLatin1_aae02 14 = .ok (.goto 4, 3) := by decide +kernel
theorem dJ0_isLatin1_aae02_17 : decode cJ0_isLatin1_aae02 17 = .ok (.iconst 0, 1) := by decide +kernel
theorem dJ0_isLatin1_aae02_18 : decode cJ0_isLatin1_aae02 18 = .ok (.ireturn, 1) := by decide +kernel
theorem dJ0_checkIndex_df160_0 : decode cJ0_checkIndex_df160 0 = .ok (.iload_n 0, 1) := by decide +kernel
theorem dJ0_checkIndex_df160_1 : decode cJ0_checkIndex_df160 1 = .ok (.iload_n 1, 1) := by decide +kernel
theorem dJ0_checkIndex_df160_2 : decode cJ0_checkIndex_df160 2 = .ok (.getstatic 1053, 3) := by decide +kernel
theorem dJ0_checkIndex_df160_5 : decode cJ0_checkIndex_df160 5 = .ok (.invokestatic 1059, 3) := by decide +kernel
theorem dJ0_checkIndex_df160_8 : decode cJ0_checkIndex_df160 8 = .ok (.pop, 1) := by decide +kernel
theorem dJ0_checkIndex_df160_9 : decode cJ0_checkIndex_df160 9 = .ok (.return_, 1) := by decide +kernel
theorem dJ1_charAt_3b067_0 : decode cJ1_charAt_3b067 0 = .ok (.iload_n 1, 1) := by decide +kernel
theorem dJ1_charAt_3b067_1 : decode cJ1_charAt_3b067 1 = .ok (.aload_n 0, 1) := by decide +kernel
theorem dJ1_charAt_3b067_2 : decode cJ1_charAt_3b067 2 = .ok (.arraylength, 1) := by decide +kernel
theorem dJ1_charAt_3b067_3 : decode cJ1_charAt_3b067 3 = .ok (.invokestatic 9, 3) := by decide +kernel
theorem dJ1_charAt_3b067_6 : decode cJ1_charAt_3b067 6 = .ok (.aload_n 0, 1) := by decide +kernel
theorem dJ1_charAt_3b067_7 : decode cJ1_charAt_3b067 7 = .ok (.iload_n 1, 1) := by decide +kernel
theorem dJ1_charAt_3b067_8 : decode cJ1_charAt_3b067 8 = .ok (.baload, 1) := by decide +kernel
theorem dJ1_charAt_3b067_9 : decode cJ1_charAt_3b067 9 = .ok (.sipush 255, 3) := by decide +kernel
theorem dJ1_charAt_3b067_12 : decode cJ1_charAt_3b067 12 = .ok (.iand, 1) := by decide +kernel
theorem dJ1_charAt_3b067_13 : decode cJ1_charAt_3b067 13 = .ok (.i2c, 1) := by decide +kernel
theorem dJ1_charAt_3b067_14 : decode cJ1_charAt_3b067 14 = .ok (.ireturn, 1) := by decide +kernel
theorem dJ2_getChar_3b067_0 : decode cJ2_getChar_3b067 0 = .ok (.getstatic 44, 3) := by decide +kernel
theorem dJ2_getChar_3b067_3 : decode cJ2_getChar_3b067 3 = .ok (.ifCond .ne 25, 3) := by decide +kernel
theorem dJ2_getChar_3b067_6 : decode cJ2_getChar_3b067 6 = .ok (.iload_n 1, 1) := by decide +kernel
theorem dJ2_getChar_3b067_7 : decode cJ2_getChar_3b067 7 = .ok (.ifCond .lt 11, 3) := by decide +kernel
theorem dJ2_getChar_3b067_10 : decode cJ2_getChar_3b067 10 = .ok (.iload_n 1, 1) := by decide +kernel
theorem dJ2_getChar_3b067_11 : decode cJ2_getChar_3b067 11 = .ok (.aload_n 0, 1) := by decide +kernel
theorem dJ2_getChar_3b067_12 : decode cJ2_getChar_3b067 12 = .ok (.invokestatic 48, 3) := by decide +kernel
theorem dJ2_getChar_3b067_15 : decode cJ2_getChar_3b067 15 = .ok (.if_icmp .lt 13, 3) := by decide +kernel
theorem dJ2_getChar_3b067_18 : decode cJ2_getChar_3b067 18 = .ok (.new 52, 3) := by decide +kernel
theorem dJ2_getChar_3b067_21 : decode cJ2_getChar_3b067 21 = .ok (.dup, 1) := by decide +kernel
theorem dJ2_getChar_3b067_22 : decode cJ2_getChar_3b067 22 = .ok (.ldc 54, 2) := by decide +kernel
theorem dJ2_getChar_3b067_24 : decode cJ2_getChar_3b067 24 = .ok (.invokespecial 56, 3) := by decide +kernel
theorem dJ2_getChar_3b067_27 : decode cJ2_getChar_3b067 27 = .ok (.athrow, 1) := by decide +kernel
theorem dJ2_getChar_3b067_28 : decode cJ2_getChar_3b067 28 = .ok (.iload_n 1, 1) := by decide +kernel
theorem dJ2_getChar_3b067_29 : decode cJ2_getChar_3b067 29 = .ok (.iconst 1, 1) := by decide +kernel
theorem dJ2_getChar_3b067_30 : decode cJ2_getChar_3b067 30 = .ok (.ishl, 1) := by decide +kernel
theorem dJ2_getChar_3b067_31 : decode cJ2_getChar_3b067 31 = .ok (.istore_n 1, 1) := by decide +kernel
theorem dJ2_getChar_3b067_32 : decode cJ2_getChar_3b067 32 = .ok (.aload_n 0, 1) := by decide +kernel
theorem dJ2_getChar_3b067_33 : decode cJ2_getChar_3b067 33 = .ok (.iload_n 1, 1) := by decide +kernel
theorem dJ2_getChar_3b067_34 : decode cJ2_getChar_3b067 34 = .ok (.iinc 1 1, 3) := by decide +kernel
theorem dJ2_getChar_3b067_37 : decode cJ2_getChar_3b067 37 = .ok (.baload, 1) := by decide +kernel
theorem dJ2_getChar_3b067_38 : decode cJ2_getChar_3b067 38 = .ok (.sipush 255, 3) := by decide +kernel
theorem dJ2_getChar_3b067_41 : decode cJ2_getChar_3b067 41 = .ok (.iand, 1) := by decide +kernel
theorem dJ2_getChar_3b067_42 : decode cJ2_getChar_3b067 42 = .ok (.getstatic 59, 3) := by decide +kernel
theorem dJ2_getChar_3b067_45 : decode cJ2_getChar_3b067 45 = .ok (.ishl, 1) := by decide +kernel
theorem dJ2_getChar_3b067_46 : decode cJ2_getChar_3b067 46 = .ok (.aload_n 0, 1) := by decide +kernel
theorem dJ2_getChar_3b067_47 : decode cJ2_getChar_3b067 47 = .ok (.iload_n 1, 1) := by decide +kernel
theorem dJ2_getChar_3b067_48 : decode cJ2_getChar_3b067 48 = .ok (.baload, 1) := by decide +kernel
theorem dJ2_getChar_3b067_49 : decode cJ2_getChar_3b067 49 = .ok (.sipush 255, 3) := by decide +kernel
theorem dJ2_getChar_3b067_52 : decode cJ2_getChar_3b067 52 = .ok (.iand, 1) := by decide +kernel
theorem dJ2_getChar_3b067_53 : decode cJ2_getChar_3b067 53 = .ok (.getstatic 63, 3) := by decide +kernel
theorem dJ2_getChar_3b067_56 : decode cJ2_getChar_3b067 56 = .ok (.ishl, 1) := by decide +kernel
theorem dJ2_getChar_3b067_57 : decode cJ2_getChar_3b067 57 = .ok (.ior, 1) := by decide +kernel
theorem dJ2_getChar_3b067_58 : decode cJ2_getChar_3b067 58 = .ok (.i2c, 1) := by decide +kernel
theorem dJ2_getChar_3b067_59 : decode cJ2_getChar_3b067 59 = .ok (.ireturn, 1) := by decide +kernel
theorem dJ2_length_9d52b_0 : decode cJ2_length_9d52b 0 = .ok (.aload_n 0, 1) := by decide +kernel
theorem dJ2_length_9d52b_1 : decode cJ2_length_9d52b 1 = .ok (.arraylength, 1) := by decide +kernel
theorem dJ2_length_9d52b_2 : decode cJ2_length_9d52b 2 = .ok (.iconst 1, 1) := by decide +kernel
theorem dJ2_length_9d52b_3 : decode cJ2_length_9d52b 3 = .ok (.ishr, 1) := by decide +kernel
theorem dJ2_length_9d52b_4 : decode cJ2_length_9d52b 4 = .ok (.ireturn, 1) := by decide +kernel
theorem dJ2_charAt_3b067_0 : decode cJ2_charAt_3b067 0 = .ok (.iload_n 1, 1) := by decide +kernel
theorem dJ2_charAt_3b067_1 : decode cJ2_charAt_3b067 1 = .ok (.aload_n 0, 1) := by decide +kernel
theorem dJ2_charAt_3b067_2 : decode cJ2_charAt_3b067 2 = .ok (.invokestatic 67, 3) := by decide +kernel
theorem dJ2_charAt_3b067_5 : decode cJ2_charAt_3b067 5 = .ok (.aload_n 0, 1) := by decide +kernel
theorem dJ2_charAt_3b067_6 : decode cJ2_charAt_3b067 6 = .ok (.iload_n 1, 1) := by decide +kernel
theorem dJ2_charAt_3b067_7 : decode cJ2_charAt_3b067 7 = .ok (.invokestatic 71, 3) := by decide +kernel
theorem dJ2_charAt_3b067_10 : decode cJ2_charAt_3b067 10 = .ok (.ireturn, 1) := by decide +kernel
theorem dJ2_checkIndex_2214a_0 : decode cJ2_checkIndex_2214a 0 = .ok (.iload_n 0, 1) := by decide +kernel
theorem dJ2_checkIndex_2214a_1 : decode cJ2_checkIndex_2214a 1 = .ok (.aload_n 1, 1) := by decide +kernel
theorem dJ2_checkIndex_2214a_2 : decode cJ2_checkIndex_2214a 2 = .ok (.invokestatic 48, 3) := by decide +kernel
theorem dJ2_checkIndex_2214a_5 : decode cJ2_checkIndex_2214a 5 = .ok (.invokestatic 414, 3) := by decide +kernel
theorem dJ2_checkIndex_2214a_8 : decode cJ2_checkIndex_2214a 8 = .ok (.return_, 1) := by decide +kernel
theorem dJ3_checkIndex_8e157_0 : decode cJ3_checkIndex_8e157 0 = .ok (.iload_n 0, 1) := by decide +kernel
theorem dJ3_checkIndex_8e157_1 : decode cJ3_checkIndex_8e157 1 = .ok (.ifCond .lt 8, 3) := by decide +kernel
theorem dJ3_checkIndex_8e157_4 : decode cJ3_checkIndex_8e157 4 = .ok (.iload_n 0, 1) := by decide +kernel
theorem dJ3_checkIndex_8e157_5 : decode cJ3_checkIndex_8e157 5 = .ok (.iload_n 1, 1) := by decide +kernel
theorem dJ3_checkIndex_8e157_6 : decode cJ3_checkIndex_8e157 6 = .ok (.if_icmp .lt 10, 3) := by decide +kernel
theorem dJ3_checkIndex_8e157_9 : decode cJ3_checkIndex_8e157 9 = .ok (.aload_n 2, 1) := by decide +kernel
theorem dJ3_checkIndex_8e157_10 : decode cJ3_checkIndex_8e157 10 = .ok (.iload_n 0, 1) := by decide +kernel
theorem dJ3_checkIndex_8e157_11 : decode cJ3_checkIndex_8e157 11 = .ok (.iload_n 1, 1) := by decide +kernel
theorem dJ3_checkIndex_8e157_12 : decode cJ3_checkIndex_8e157 12 = .ok (.invokestatic 95, 3) := by decide +kernel
theorem dJ3_checkIndex_8e157_15 : decode cJ3_checkIndex_8e157 15 = .ok (.athrow, 1) := by decide +kernel
theorem dJ3_checkIndex_8e157_16 : decode cJ3_checkIndex_8e157 16 = .ok (.iload_n 0, 1) := by decide +kernel
theorem dJ3_checkIndex_8e157_17 : decode cJ3_checkIndex_8e157 17 = .ok (.ireturn, 1) := by decide +kernel
