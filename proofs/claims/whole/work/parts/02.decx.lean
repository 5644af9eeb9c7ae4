theorem dX0_init_0 : decode cX0_init 0 = .ok (.aload_n 0, 1) := by decide +kernel
theorem dX0_init_1 : decode cX0_init 1 = .ok (.invokespecial 3, 3) := by decide +kernel
theorem dX0_init_4 : decode cX0_init 4 = .ok (.aload_n 0, 1) := by decide +kernel
theorem dX0_init_5 : decode cX0_init 5 = .ok (.iconst 4, 1) := by decide +kernel
theorem dX0_init_6 : decode cX0_init 6 = .ok (.newarray .int, 2) := by decide +kernel
theorem dX0_init_8 : decode cX0_init 8 = .ok (.dup, 1) := by decide +kernel
theorem dX0_init_9 : decode cX0_init 9 = .ok (.iconst 0, 1) := by decide +kernel
theorem dX0_init_10 : decode cX0_init 10 = .ok (.iconst 5, 1) := by decide +kernel
theorem dX0_init_11 : decode cX0_init 11 = .ok (.iastore, 1) := by decide +kernel
theorem dX0_init_12 : decode cX0_init 12 = .ok (.dup, 1) := by decide +kernel
theorem dX0_init_13 : decode cX0_init 13 = .ok (.iconst 1, 1) := by decide +kernel
theorem dX0_init_14 : decode cX0_init 14 = .ok (.bipush 8, 2) := by decide +kernel
theorem dX0_init_16 : decode cX0_init 16 = .ok (.iastore, 1) := by decide +kernel
theorem dX0_init_17 : decode cX0_init 17 = .ok (.dup, 1) := by decide +kernel
theorem dX0_init_18 : decode cX0_init 18 = .ok (.iconst 2, 1) := by decide +kernel
theorem dX0_init_19 : decode cX0_init 19 = .ok (.iconst 2, 1) := by decide +kernel
theorem dX0_init_20 : decode cX0_init 20 = .ok (.iastore, 1) := by decide +kernel
theorem dX0_init_21 : decode cX0_init 21 = .ok (.dup, 1) := by decide +kernel
theorem dX0_init_22 : decode cX0_init 22 = .ok (.iconst 3, 1) := by decide +kernel
theorem dX0_init_23 : decode cX0_init 23 = .ok (.bipush 12, 2) := by decide +kernel
theorem dX0_init_25 : decode cX0_init 25 = .ok (.iastore, 1) := by decide +kernel
theorem dX0_init_26 : decode cX0_init 26 = .ok (.putfield 9, 3) := by decide +kernel
theorem dX0_init_29 : decode cX0_init 29 = .ok (.aload_n 0, 1) := by decide +kernel
theorem dX0_init_30 : decode cX0_init 30 = .ok (.iconst 4, 1) := by decide +kernel
theorem dX0_init_31 : decode cX0_init 31 = .ok (.newarray .int, 2) := by decide +kernel
theorem dX0_init_33 : decode cX0_init 33 = .ok (.dup, 1) := by decide +kernel
theorem dX0_init_34 : decode cX0_init 34 = .ok (.iconst 0, 1) := by decide +kernel
theorem dX0_init_35 : decode cX0_init 35 = .ok (.bipush 99, 2) := by decide +kernel
theorem dX0_init_37 : decode cX0_init 37 = .ok (.iastore, 1) := by decide +kernel
theorem dX0_init_38 : decode cX0_init 38 = .ok (.dup, 1) := by decide +kernel
theorem dX0_init_39 : decode cX0_init 39 = .ok (.iconst 1, 1) := by decide +kernel
theorem dX0_init_40 : decode cX0_init 40 = .ok (.bipush 99, 2) := by decide +kernel
theorem dX0_init_42 : decode cX0_init 42 = .ok (.iastore, 1) := by decide +kernel
theorem dX0_init_43 : decode cX0_init 43 = .ok (.dup, 1) := by decide +kernel
theorem dX0_init_44 : decode cX0_init 44 = .ok (.iconst 2, 1) := by decide +kernel
theorem dX0_init_45 : decode cX0_init 45 = .ok (.bipush 99, 2) := by decide +kernel
theorem dX0_init_47 : decode cX0_init 47 = .ok (.iastore, 1) := by decide +kernel
theorem dX0_init_48 : decode cX0_init 48 = .ok (.dup, 1) := by decide +kernel
theorem dX0_init_49 : decode cX0_init 49 = .ok (.iconst 3, 1) := by decide +kernel
theorem dX0_init_50 : decode cX0_init 50 = .ok (.bipush 99, 2) := by decide +kernel
theorem dX0_init_52 : decode cX0_init 52 = .ok (.iastore, 1) := by decide +kernel
theorem dX0_init_53 : decode cX0_init 53 = .ok (.putfield 15, 3) := by decide +kernel
theorem dX0_init_56 : decode cX0_init 56 = .ok (.return_, 1) := by decide +kernel
theorem dX1_init_0 : decode cX1_init 0 = .ok (.aload_n 0, 1) := by decide +kernel
theorem dX1_init_1 : decode cX1_init 1 = .ok (.invokespecial 3, 3) := by decide +kernel
theorem dX1_init_4 : decode cX1_init 4 = .ok (.aload_n 0, 1) := by decide +kernel
theorem dX1_init_5 : decode cX1_init 5 = .ok (.bipush 40, 2) := by decide +kernel
theorem dX1_init_7 : decode cX1_init 7 = .ok (.newarray .int, 2) := by decide +kernel
theorem dX1_init_9 : decode cX1_init 9 = .ok (.putfield 9, 3) := by decide +kernel
theorem dX1_init_12 : decode cX1_init 12 = .ok (.aload_n 0, 1) := by decide +kernel
theorem dX1_init_13 : decode cX1_init 13 = .ok (.bipush 32, 2) := by decide +kernel
theorem dX1_init_15 : decode cX1_init 15 = .ok (.newarray .int, 2) := by decide +kernel
theorem dX1_init_17 : decode cX1_init 17 = .ok (.putfield 15, 3) := by decide +kernel
theorem dX1_init_20 : decode cX1_init 20 = .ok (.aload_n 0, 1) := by decide +kernel
theorem dX1_init_21 : decode cX1_init 21 = .ok (.iconst 4, 1) := by decide +kernel
theorem dX1_init_22 : decode cX1_init 22 = .ok (.newarray .int, 2) := by decide +kernel
theorem dX1_init_24 : decode cX1_init 24 = .ok (.putfield 18, 3) := by decide +kernel
theorem dX1_init_27 : decode cX1_init 27 = .ok (.aload_n 0, 1) := by decide +kernel
theorem dX1_init_28 : decode cX1_init 28 = .ok (.bipush 32, 2) := by decide +kernel
theorem dX1_init_30 : decode cX1_init 30 = .ok (.newarray .int, 2) := by decide +kernel
theorem dX1_init_32 : decode cX1_init 32 = .ok (.putfield 21, 3) := by decide +kernel
theorem dX1_init_35 : decode cX1_init 35 = .ok (.aload_n 0, 1) := by decide +kernel
theorem dX1_init_36 : decode cX1_init 36 = .ok (.bipush 32, 2) := by decide +kernel
theorem dX1_init_38 : decode cX1_init 38 = .ok (.newarray .int, 2) := by decide +kernel
theorem dX1_init_40 : decode cX1_init 40 = .ok (.putfield 24, 3) := by decide +kernel
theorem dX1_init_43 : decode cX1_init 43 = .ok (.aload_n 0, 1) := by decide +kernel
theorem dX1_init_44 : decode cX1_init 44 = .ok (.bipush 10, 2) := by decide +kernel
theorem dX1_init_46 : decode cX1_init 46 = .ok (.newarray .int, 2) := by decide +kernel
theorem dX1_init_48 : decode cX1_init 48 = .ok (.putfield 27, 3) := by decide +kernel
theorem dX1_init_51 : decode cX1_init 51 = .ok (.aload_n 0, 1) := by decide +kernel
theorem dX1_init_52 : decode cX1_init 52 = .ok (.iconst 0, 1) := by decide +kernel
theorem dX1_init_53 : decode cX1_init 53 = .ok (.putfield 30, 3) := by decide +kernel
theorem dX1_init_56 : decode cX1_init 56 = .ok (.aload_n 0, 1) := by decide +kernel
theorem dX1_init_57 : decode cX1_init 57 = .ok (.iconst 0, 1) := by decide +kernel
theorem dX1_init_58 : decode cX1_init 58 = .ok (.putfield 34, 3) := by decide +kernel
theorem dX1_init_61 : decode cX1_init 61 = .ok (.return_, 1) := by decide +kernel
theorem dX1_scrape_0 : decode cX1_scrape 0 = .ok (.aload_n 1, 1) := by decide +kernel
theorem dX1_scrape_1 : decode cX1_scrape 1 = .ok (.getfield 37, 3) := by decide +kernel
theorem dX1_scrape_4 : decode cX1_scrape 4 = .ok (.iconst 0, 1) := by decide +kernel
theorem dX1_scrape_5 : decode cX1_scrape 5 = .ok (.aload_n 0, 1) := by decide +kernel
theorem dX1_scrape_6 : decode cX1_scrape 6 = .ok (.getfield 15, 3) := by decide +kernel
theorem dX1_scrape_9 : decode cX1_scrape 9 = .ok (.iconst 0, 1) := by decide +kernel
theorem dX1_scrape_10 : decode cX1_scrape 10 = .ok (.bipush 32, 2) := by decide +kernel
theorem dX1_scrape_12 : decode cX1_scrape 12 = .ok (.invokestatic 42, 3) := by decide +kernel
theorem dX1_scrape_15 : decode cX1_scrape 15 = .ok (.aload_n 2, 1) := by decide +kernel
theorem dX1_scrape_16 : decode cX1_scrape 16 = .ok (.getfield 48, 3) := by decide +kernel
theorem dX1_scrape_19 : decode cX1_scrape 19 = .ok (.iconst 0, 1) := by decide +kernel
theorem dX1_scrape_20 : decode cX1_scrape 20 = .ok (.aload_n 0, 1) := by decide +kernel
theorem dX1_scrape_21 : decode cX1_scrape 21 = .ok (.getfield 18, 3) := by decide +kernel
theorem dX1_scrape_24 : decode cX1_scrape 24 = .ok (.iconst 0, 1) := by decide +kernel
theorem dX1_scrape_25 : decode cX1_scrape 25 = .ok (.iconst 4, 1) := by decide +kernel
theorem dX1_scrape_26 : decode cX1_scrape 26 = .ok (.invokestatic 42, 3) := by decide +kernel
theorem dX1_scrape_29 : decode cX1_scrape 29 = .ok (.iconst 0, 1) := by decide +kernel
theorem dX1_scrape_30 : decode cX1_scrape 30 = .ok (.istore 4, 2) := by decide +kernel
theorem dX1_scrape_32 : decode cX1_scrape 32 = .ok (.iload 4, 2) := by decide +kernel
theorem dX1_scrape_34 : decode cX1_scrape 34 = .ok (.aload_n 3, 1) := by decide +kernel
theorem dX1_scrape_35 : decode cX1_scrape 35 = .ok (.getfield 53, 3) := by decide +kernel
theorem dX1_scrape_38 : decode cX1_scrape 38 = .ok (.if_icmp .ge 124, 3) := by decide +kernel
theorem dX1_scrape_41 : decode cX1_scrape 41 = .ok (.iload 4, 2) := by decide +kernel
theorem dX1_scrape_43 : decode cX1_scrape 43 = .ok (.bipush 40, 2) := by decide +kernel
theorem dX1_scrape_45 : decode cX1_scrape 45 = .ok (.if_icmp .ge 117, 3) := by decide +kernel
theorem dX1_scrape_48 : decode cX1_scrape 48 = .ok (.aload_n 3, 1) := by decide +kernel
theorem dX1_scrape_49 : decode cX1_scrape 49 = .ok (.getfield 58, 3) := by decide +kernel
theorem dX1_scrape_52 : decode cX1_scrape 52 = .ok (.iload 4, 2) := by decide +kernel
theorem dX1_scrape_54 : decode cX1_scrape 54 = .ok (.iaload, 1) := by decide +kernel
theorem dX1_scrape_55 : decode cX1_scrape 55 = .ok (.istore 5, 2) := by decide +kernel
theorem dX1_scrape_57 : decode cX1_scrape 57 = .ok (.aload_n 3, 1) := by decide +kernel
theorem dX1_scrape_58 : decode cX1_scrape 58 = .ok (.getfield 61, 3) := by decide +kernel
theorem dX1_scrape_61 : decode cX1_scrape 61 = .ok (.iload 4, 2) := by decide +kernel
theorem dX1_scrape_63 : decode cX1_scrape 63 = .ok (.iaload, 1) := by decide +kernel
theorem dX1_scrape_64 : decode cX1_scrape 64 = .ok (.istore 6, 2) := by decide +kernel
theorem dX1_scrape_66 : decode cX1_scrape 66 = .ok (.aload_n 0, 1) := by decide +kernel
theorem dX1_scrape_67 : decode cX1_scrape 67 = .ok (.getfield 9, 3) := by decide +kernel
theorem dX1_scrape_70 : decode cX1_scrape 70 = .ok (.iload 4, 2) := by decide +kernel
theorem dX1_scrape_72 : decode cX1_scrape 72 = .ok (.iconst 0, 1) := by decide +kernel
theorem dX1_scrape_73 : decode cX1_scrape 73 = .ok (.iastore, 1) := by decide +kernel
theorem dX1_scrape_74 : decode cX1_scrape 74 = .ok (.iload 5, 2) := by decide +kernel
theorem dX1_scrape_76 : decode cX1_scrape 76 = .ok (.invokestatic 64, 3) := by decide +kernel
theorem dX1_scrape_79 : decode cX1_scrape 79 = .ok (.ifCond .eq 77, 3) := by decide +kernel
theorem dX1_scrape_82 : decode cX1_scrape 82 = .ok (.iload 6, 2) := by decide +kernel
theorem dX1_scrape_84 : decode cX1_scrape 84 = .ok (.invokestatic 68, 3) := by decide +kernel
theorem dX1_scrape_87 : decode cX1_scrape 87 = .ok (.ifCond .eq 69, 3) := by decide +kernel
theorem dX1_scrape_90 : decode cX1_scrape 90 = .ok (.aload_n 0, 1) := by decide +kernel
theorem dX1_scrape_91 : decode cX1_scrape 91 = .ok (.getfield 15, 3) := by decide +kernel
theorem dX1_scrape_94 : decode cX1_scrape 94 = .ok (.iload 6, 2) := by decide +kernel
theorem dX1_scrape_96 : decode cX1_scrape 96 = .ok (.iaload, 1) := by decide +kernel
theorem dX1_scrape_97 : decode cX1_scrape 97 = .ok (.ifCond .le 59, 3) := by decide +kernel
theorem dX1_scrape_100 : decode cX1_scrape 100 = .ok (.aload_n 0, 1) := by decide +kernel
theorem dX1_scrape_101 : decode cX1_scrape 101 = .ok (.getfield 15, 3) := by decide +kernel
theorem dX1_scrape_104 : decode cX1_scrape 104 = .ok (.iload 6, 2) := by decide +kernel
theorem dX1_scrape_106 : decode cX1_scrape 106 = .ok (.iaload, 1) := by decide +kernel
theorem dX1_scrape_107 : decode cX1_scrape 107 = .ok (.aload_n 0, 1) := by decide +kernel
theorem dX1_scrape_108 : decode cX1_scrape 108 = .ok (.getfield 18, 3) := by decide +kernel
theorem dX1_scrape_111 : decode cX1_scrape 111 = .ok (.iload 5, 2) := by decide +kernel
theorem dX1_scrape_113 : decode cX1_scrape 113 = .ok (.iaload, 1) := by decide +kernel
theorem dX1_scrape_114 : decode cX1_scrape 114 = .ok (.if_icmp .gt 42, 3) := by decide +kernel
theorem dX1_scrape_117 : decode cX1_scrape 117 = .ok (.aload_n 0, 1) := by decide +kernel
theorem dX1_scrape_118 : decode cX1_scrape 118 = .ok (.getfield 9, 3) := by decide +kernel
theorem dX1_scrape_121 : decode cX1_scrape 121 = .ok (.iload 4, 2) := by decide +kernel
theorem dX1_scrape_123 : decode cX1_scrape 123 = .ok (.aload_n 0, 1) := by decide +kernel
theorem dX1_scrape_124 : decode cX1_scrape 124 = .ok (.getfield 15, 3) := by decide +kernel
theorem dX1_scrape_127 : decode cX1_scrape 127 = .ok (.iload 6, 2) := by decide +kernel
theorem dX1_scrape_129 : decode cX1_scrape 129 = .ok (.iaload, 1) := by decide +kernel
theorem dX1_scrape_130 : decode cX1_scrape 130 = .ok (.iastore, 1) := by decide +kernel
theorem dX1_scrape_131 : decode cX1_scrape 131 = .ok (.aload_n 0, 1) := by decide +kernel
theorem dX1_scrape_132 : decode cX1_scrape 132 = .ok (.getfield 18, 3) := by decide +kernel
theorem dX1_scrape_135 : decode cX1_scrape 135 = .ok (.iload 5, 2) := by decide +kernel
theorem dX1_scrape_137 : decode cX1_scrape 137 = .ok (.dup2, 1) := by decide +kernel
theorem dX1_scrape_138 : decode cX1_scrape 138 = .ok (.iaload, 1) := by decide +kernel
theorem dX1_scrape_139 : decode cX1_scrape 139 = .ok (.aload_n 0, 1) := by decide +kernel
theorem dX1_scrape_140 : decode cX1_scrape 140 = .ok (.getfield 15, 3) := by decide +kernel
theorem dX1_scrape_143 : decode cX1_scrape 143 = .ok (.iload 6, 2) := by decide +kernel
theorem dX1_scrape_145 : decode cX1_scrape 145 = .ok (.iaload, 1) := by decide +kernel
theorem dX1_scrape_146 : decode cX1_scrape 146 = .ok (.isub, 1) := by decide +kernel
theorem dX1_scrape_147 : decode cX1_scrape 147 = .ok (.iastore, 1) := by decide +kernel
theorem dX1_scrape_148 : decode cX1_scrape 148 = .ok (.aload_n 0, 1) := by decide +kernel
theorem dX1_scrape_149 : decode cX1_scrape 149 = .ok (.getfield 15, 3) := by decide +kernel
theorem dX1_scrape_152 : decode cX1_scrape 152 = .ok (.iload 6, 2) := by decide +kernel
theorem dX1_scrape_154 : decode cX1_scrape 154 = .ok (.iconst 0, 1) := by decide +kernel
theorem dX1_scrape_155 : decode cX1_scrape 155 = .ok (.iastore, 1) := by decide +kernel
theorem dX1_scrape_156 : decode cX1_scrape 156 = .ok (.iinc 4 1, 3) := by decide +kernel
theorem dX1_scrape_159 : decode cX1_scrape 159 = .ok (.goto (-127), 3) := by decide +kernel
theorem dX1_scrape_162 : decode cX1_scrape 162 = .ok (.return_, 1) := by decide +kernel
theorem dX1_weigh_0 : decode cX1_weigh 0 = .ok (.aload_n 0, 1) := by decide +kernel
theorem dX1_weigh_1 : decode cX1_weigh 1 = .ok (.getfield 27, 3) := by decide +kernel
theorem dX1_weigh_4 : decode cX1_weigh 4 = .ok (.iconst 0, 1) := by decide +kernel
theorem dX1_weigh_5 : decode cX1_weigh 5 = .ok (.invokestatic 71, 3) := by decide +kernel
theorem dX1_weigh_8 : decode cX1_weigh 8 = .ok (.aload_n 0, 1) := by decide +kernel
theorem dX1_weigh_9 : decode cX1_weigh 9 = .ok (.iconst 0, 1) := by decide +kernel
theorem dX1_weigh_10 : decode cX1_weigh 10 = .ok (.putfield 34, 3) := by decide +kernel
theorem dX1_weigh_13 : decode cX1_weigh 13 = .ok (.iconst 0, 1) := by decide +kernel
theorem dX1_weigh_14 : decode cX1_weigh 14 = .ok (.istore_n 3, 1) := by decide +kernel
theorem dX1_weigh_15 : decode cX1_weigh 15 = .ok (.iload_n 3, 1) := by decide +kernel
theorem dX1_weigh_16 : decode cX1_weigh 16 = .ok (.bipush 32, 2) := by decide +kernel
theorem dX1_weigh_18 : decode cX1_weigh 18 = .ok (.if_icmp .ge 105, 3) := by decide +kernel
theorem dX1_weigh_21 : decode cX1_weigh 21 = .ok (.aload_n 0, 1) := by decide +kernel
theorem dX1_weigh_22 : decode cX1_weigh 22 = .ok (.getfield 21, 3) := by decide +kernel
theorem dX1_weigh_25 : decode cX1_weigh 25 = .ok (.iload_n 3, 1) := by decide +kernel
theorem dX1_weigh_26 : decode cX1_weigh 26 = .ok (.iconst 0, 1) := by decide +kernel
theorem dX1_weigh_27 : decode cX1_weigh 27 = .ok (.iastore, 1) := by decide +kernel
theorem dX1_weigh_28 : decode cX1_weigh 28 = .ok (.iconst 0, 1) := by decide +kernel
theorem dX1_weigh_29 : decode cX1_weigh 29 = .ok (.istore 4, 2) := by decide +kernel
theorem dX1_weigh_31 : decode cX1_weigh 31 = .ok (.iload 4, 2) := by decide +kernel
theorem dX1_weigh_33 : decode cX1_weigh 33 = .ok (.iconst 5, 1) := by decide +kernel
theorem dX1_weigh_34 : decode cX1_weigh 34 = .ok (.if_icmp .ge 38, 3) := by decide +kernel
theorem dX1_weigh_37 : decode cX1_weigh 37 = .ok (.aload_n 0, 1) := by decide +kernel
theorem dX1_weigh_38 : decode cX1_weigh 38 = .ok (.getfield 21, 3) := by decide +kernel
theorem dX1_weigh_41 : decode cX1_weigh 41 = .ok (.iload_n 3, 1) := by decide +kernel
theorem dX1_weigh_42 : decode cX1_weigh 42 = .ok (.dup2, 1) := by decide +kernel
theorem dX1_weigh_43 : decode cX1_weigh 43 = .ok (.iaload, 1) := by decide +kernel
theorem dX1_weigh_44 : decode cX1_weigh 44 = .ok (.aload_n 1, 1) := by decide +kernel
theorem dX1_weigh_45 : decode cX1_weigh 45 = .ok (.getfield 77, 3) := by decide +kernel
theorem dX1_weigh_48 : decode cX1_weigh 48 = .ok (.iload 4, 2) := by decide +kernel
theorem dX1_weigh_50 : decode cX1_weigh 50 = .ok (.iaload, 1) := by decide +kernel
theorem dX1_weigh_51 : decode cX1_weigh 51 = .ok (.aload_n 2, 1) := by decide +kernel
theorem dX1_weigh_52 : decode cX1_weigh 52 = .ok (.getfield 82, 3) := by decide +kernel
theorem dX1_weigh_55 : decode cX1_weigh 55 = .ok (.iload 4, 2) := by decide +kernel
theorem dX1_weigh_57 : decode cX1_weigh 57 = .ok (.bipush 32, 2) := by decide +kernel
theorem dX1_weigh_59 : decode cX1_weigh 59 = .ok (.imul, 1) := by decide +kernel
theorem dX1_weigh_60 : decode cX1_weigh 60 = .ok (.iload_n 3, 1) := by decide +kernel
theorem dX1_weigh_61 : decode cX1_weigh 61 = .ok (.iadd, 1) := by decide +kernel
theorem dX1_weigh_62 : decode cX1_weigh 62 = .ok (.iaload, 1) := by decide +kernel
theorem dX1_weigh_63 : decode cX1_weigh 63 = .ok (.imul, 1) := by decide +kernel
theorem dX1_weigh_64 : decode cX1_weigh 64 = .ok (.iadd, 1) := by decide +kernel
theorem dX1_weigh_65 : decode cX1_weigh 65 = .ok (.iastore, 1) := by decide +kernel
theorem dX1_weigh_66 : decode cX1_weigh 66 = .ok (.iinc 4 1, 3) := by decide +kernel
theorem dX1_weigh_69 : decode cX1_weigh 69 = .ok (.goto (-38), 3) := by decide +kernel
theorem dX1_weigh_72 : decode cX1_weigh 72 = .ok (.aload_n 0, 1) := by decide +kernel
theorem dX1_weigh_73 : decode cX1_weigh 73 = .ok (.getfield 15, 3) := by decide +kernel
theorem dX1_weigh_76 : decode cX1_weigh 76 = .ok (.iload_n 3, 1) := by decide +kernel
theorem dX1_weigh_77 : decode cX1_weigh 77 = .ok (.iaload, 1) := by decide +kernel
theorem dX1_weigh_78 : decode cX1_weigh 78 = .ok (.iconst 0, 1) := by decide +kernel
theorem dX1_weigh_79 : decode cX1_weigh 79 = .ok (.bipush 9, 2) := by decide +kernel
theorem dX1_weigh_81 : decode cX1_weigh 81 = .ok (.invokestatic 87, 3) := by decide +kernel
theorem dX1_weigh_84 : decode cX1_weigh 84 = .ok (.ifCond .eq 33, 3) := by decide +kernel
theorem dX1_weigh_87 : decode cX1_weigh 87 = .ok (.aload_n 0, 1) := by decide +kernel
theorem dX1_weigh_88 : decode cX1_weigh 88 = .ok (.getfield 27, 3) := by decide +kernel
theorem dX1_weigh_91 : decode cX1_weigh 91 = .ok (.aload_n 0, 1) := by decide +kernel
theorem dX1_weigh_92 : decode cX1_weigh 92 = .ok (.getfield 15, 3) := by decide +kernel
theorem dX1_weigh_95 : decode cX1_weigh 95 = .ok (.iload_n 3, 1) := by decide +kernel
theorem dX1_weigh_96 : decode cX1_weigh 96 = .ok (.iaload, 1) := by decide +kernel
theorem dX1_weigh_97 : decode cX1_weigh 97 = .ok (.dup2, 1) := by decide +kernel
theorem dX1_weigh_98 : decode cX1_weigh 98 = .ok (.iaload, 1) := by decide +kernel
theorem dX1_weigh_99 : decode cX1_weigh 99 = .ok (.iconst 1, 1) := by decide +kernel
theorem dX1_weigh_100 : decode cX1_weigh 100 = .ok (.iadd, 1) := by decide +kernel
theorem dX1_weigh_101 : decode cX1_weigh 101 = .ok (.iastore, 1) := by decide +kernel
theorem dX1_weigh_102 : decode cX1_weigh 102 = .ok (.aload_n 0, 1) := by decide +kernel
theorem dX1_weigh_103 : decode cX1_weigh 103 = .ok (.dup, 1) := by decide +kernel
theorem dX1_weigh_104 : decode cX1_weigh 104 = .ok (.getfield 34, 3) := by decide +kernel
theorem dX1_weigh_107 : decode cX1_weigh 107 = .ok (.aload_n 0, 1) := by decide +kernel
theorem dX1_weigh_108 : decode cX1_weigh 108 = .ok (.getfield 15, 3) := by decide +kernel
theorem dX1_weigh_111 : decode cX1_weigh 111 = .ok (.iload_n 3, 1) := by decide +kernel
theorem dX1_weigh_112 : decode cX1_weigh 112 = .ok (.iaload, 1) := by decide +kernel
theorem dX1_weigh_113 : decode cX1_weigh 113 = .ok (.iadd, 1) := by decide +kernel
theorem dX1_weigh_114 : decode cX1_weigh 114 = .ok (.putfield 34, 3) := by decide +kernel
theorem dX1_weigh_117 : decode cX1_weigh 117 = .ok (.iinc 3 1, 3) := by decide +kernel
theorem dX1_weigh_120 : decode cX1_weigh 120 = .ok (.goto (-105), 3) := by decide +kernel
theorem dX1_weigh_123 : decode cX1_weigh 123 = .ok (.return_, 1) := by decide +kernel
theorem dX1_order_0 : decode cX1_order 0 = .ok (.aload_n 0, 1) := by decide +kernel
theorem dX1_order_1 : decode cX1_order 1 = .ok (.iconst 0, 1) := by decide +kernel
theorem dX1_order_2 : decode cX1_order 2 = .ok (.putfield 30, 3) := by decide +kernel
theorem dX1_order_5 : decode cX1_order 5 = .ok (.iconst 0, 1) := by decide +kernel
theorem dX1_order_6 : decode cX1_order 6 = .ok (.istore_n 1, 1) := by decide +kernel
theorem dX1_order_7 : decode cX1_order 7 = .ok (.iload_n 1, 1) := by decide +kernel
theorem dX1_order_8 : decode cX1_order 8 = .ok (.bipush 32, 2) := by decide +kernel
theorem dX1_order_10 : decode cX1_order 10 = .ok (.if_icmp .ge 89, 3) := by decide +kernel
theorem dX1_order_13 : decode cX1_order 13 = .ok (.aload_n 0, 1) := by decide +kernel
theorem dX1_order_14 : decode cX1_order 14 = .ok (.getfield 15, 3) := by decide +kernel
theorem dX1_order_17 : decode cX1_order 17 = .ok (.iload_n 1, 1) := by decide +kernel
theorem dX1_order_18 : decode cX1_order 18 = .ok (.iaload, 1) := by decide +kernel
theorem dX1_order_19 : decode cX1_order 19 = .ok (.ifCond .le 74, 3) := by decide +kernel
theorem dX1_order_22 : decode cX1_order 22 = .ok (.aload_n 0, 1) := by decide +kernel
theorem dX1_order_23 : decode cX1_order 23 = .ok (.getfield 21, 3) := by decide +kernel
theorem dX1_order_26 : decode cX1_order 26 = .ok (.iload_n 1, 1) := by decide +kernel
theorem dX1_order_27 : decode cX1_order 27 = .ok (.iaload, 1) := by decide +kernel
theorem dX1_order_28 : decode cX1_order 28 = .ok (.ifCond .le 65, 3) := by decide +kernel
theorem dX1_order_31 : decode cX1_order 31 = .ok (.aload_n 0, 1) := by decide +kernel
theorem dX1_order_32 : decode cX1_order 32 = .ok (.getfield 30, 3) := by decide +kernel
theorem dX1_order_35 : decode cX1_order 35 = .ok (.istore_n 2, 1) := by decide +kernel
theorem dX1_order_36 : decode cX1_order 36 = .ok (.iload_n 2, 1) := by decide +kernel
theorem dX1_order_37 : decode cX1_order 37 = .ok (.ifCond .le 39, 3) := by decide +kernel
theorem dX1_order_40 : decode cX1_order 40 = .ok (.aload_n 0, 1) := by decide +kernel
theorem dX1_order_41 : decode cX1_order 41 = .ok (.iload_n 1, 1) := by decide +kernel
theorem dX1_order_42 : decode cX1_order 42 = .ok (.aload_n 0, 1) := by decide +kernel
theorem dX1_order_43 : decode cX1_order 43 = .ok (.getfield 24, 3) := by decide +kernel
theorem dX1_order_46 : decode cX1_order 46 = .ok (.iload_n 2, 1) := by decide +kernel
theorem dX1_order_47 : decode cX1_order 47 = .ok (.iconst 1, 1) := by decide +kernel
theorem dX1_order_48 : decode cX1_order 48 = .ok (.isub, 1) := by decide +kernel
theorem dX1_order_49 : decode cX1_order 49 = .ok (.iaload, 1) := by decide +kernel
theorem dX1_order_50 : decode cX1_order 50 = .ok (.invokevirtual 91, 3) := by decide +kernel
theorem dX1_order_53 : decode cX1_order 53 = .ok (.ifCond .eq 23, 3) := by decide +kernel
theorem dX1_order_56 : decode cX1_order 56 = .ok (.aload_n 0, 1) := by decide +kernel
theorem dX1_order_57 : decode cX1_order 57 = .ok (.getfield 24, 3) := by decide +kernel
theorem dX1_order_60 : decode cX1_order 60 = .ok (.iload_n 2, 1) := by decide +kernel
theorem dX1_order_61 : decode cX1_order 61 = .ok (.aload_n 0, 1) := by decide +kernel
theorem dX1_order_62 : decode cX1_order 62 = .ok (.getfield 24, 3) := by decide +kernel
theorem dX1_order_65 : decode cX1_order 65 = .ok (.iload_n 2, 1) := by decide +kernel
theorem dX1_order_66 : decode cX1_order 66 = .ok (.iconst 1, 1) := by decide +kernel
theorem dX1_order_67 : decode cX1_order 67 = .ok (.isub, 1) := by decide +kernel
theorem dX1_order_68 : decode cX1_order 68 = .ok (.iaload, 1) := by decide +kernel
theorem dX1_order_69 : decode cX1_order 69 = .ok (.iastore, 1) := by decide +kernel
theorem dX1_order_70 : decode cX1_order 70 = .ok (.iinc 2 (-1), 3) := by decide +kernel
theorem dX1_order_73 : decode cX1_order 73 = .ok (.goto (-37), 3) := by decide +kernel
theorem dX1_order_76 : decode cX1_order 76 = .ok (.aload_n 0, 1) := by decide +kernel
theorem dX1_order_77 : decode cX1_order 77 = .ok (.getfield 24, 3) := by decide +kernel
theorem dX1_order_80 : decode cX1_order 80 = .ok (.iload_n 2, 1) := by decide +kernel
theorem dX1_order_81 : decode cX1_order 81 = .ok (.iload_n 1, 1) := by decide +kernel
theorem dX1_order_82 : decode cX1_order 82 = .ok (.iastore, 1) := by decide +kernel
theorem dX1_order_83 : decode cX1_order 83 = .ok (.aload_n 0, 1) := by decide +kernel
theorem dX1_order_84 : decode cX1_order 84 = .ok (.dup, 1) := by decide +kernel
theorem dX1_order_85 : decode cX1_order 85 = .ok (.getfield 30, 3) := by decide +kernel
theorem dX1_order_88 : decode cX1_order 88 = .ok (.iconst 1, 1) := by decide +kernel
theorem dX1_order_89 : decode cX1_order 89 = .ok (.iadd, 1) := by decide +kernel
theorem dX1_order_90 : decode cX1_order 90 = .ok (.putfield 30, 3) := by decide +kernel
theorem dX1_order_93 : decode cX1_order 93 = .ok (.iinc 1 1, 3) := by decide +kernel
theorem dX1_order_96 : decode cX1_order 96 = .ok (.goto (-89), 3) := by decide +kernel
theorem dX1_order_99 : decode cX1_order 99 = .ok (.return_, 1) := by decide +kernel
theorem dX1_isQuicker_0 : decode cX1_isQuicker 0 = .ok (.aload_n 0, 1) := by decide +kernel
theorem dX1_isQuicker_1 : decode cX1_isQuicker 1 = .ok (.getfield 21, 3) := by decide +kernel
theorem dX1_isQuicker_4 : decode cX1_isQuicker 4 = .ok (.iload_n 1, 1) := by decide +kernel
theorem dX1_isQuicker_5 : decode cX1_isQuicker 5 = .ok (.iaload, 1) := by decide +kernel
theorem dX1_isQuicker_6 : decode cX1_isQuicker 6 = .ok (.aload_n 0, 1) := by decide +kernel
theorem dX1_isQuicker_7 : decode cX1_isQuicker 7 = .ok (.getfield 15, 3) := by decide +kernel
theorem dX1_isQuicker_10 : decode cX1_isQuicker 10 = .ok (.iload_n 2, 1) := by decide +kernel
theorem dX1_isQuicker_11 : decode cX1_isQuicker 11 = .ok (.iaload, 1) := by decide +kernel
theorem dX1_isQuicker_12 : decode cX1_isQuicker 12 = .ok (.imul, 1) := by decide +kernel
theorem dX1_isQuicker_13 : decode cX1_isQuicker 13 = .ok (.aload_n 0, 1) := by decide +kernel
theorem dX1_isQuicker_14 : decode cX1_isQuicker 14 = .ok (.getfield 21, 3) := by decide +kernel
theorem dX1_isQuicker_17 : decode cX1_isQuicker 17 = .ok (.iload_n 2, 1) := by decide +kernel
theorem dX1_isQuicker_18 : decode cX1_isQuicker 18 = .ok (.iaload, 1) := by decide +kernel
theorem dX1_isQuicker_19 : decode cX1_isQuicker 19 = .ok (.aload_n 0, 1) := by decide +kernel
theorem dX1_isQuicker_20 : decode cX1_isQuicker 20 = .ok (.getfield 15, 3) := by decide +kernel
theorem dX1_isQuicker_23 : decode cX1_isQuicker 23 = .ok (.iload_n 1, 1) := by decide +kernel
theorem dX1_isQuicker_24 : decode cX1_isQuicker 24 = .ok (.iaload, 1) := by decide +kernel
theorem dX1_isQuicker_25 : decode cX1_isQuicker 25 = .ok (.imul, 1) := by decide +kernel
theorem dX1_isQuicker_26 : decode cX1_isQuicker 26 = .ok (.if_icmp .le 7, 3) := by decide +kernel
theorem dX1_isQuicker_29 : decode cX1_isQuicker 29 = .ok (.iconst 1, 1) := by decide +kernel
theorem dX1_isQuicker_30 : decode cX1_isQuicker 30 = .ok (.goto 4, 3) := by decide +kernel
theorem dX1_isQuicker_33 : decode cX1_isQuicker 33 = .ok (.iconst 0, 1) := by decide +kernel
theorem dX1_isQuicker_34 : decode cX1_isQuicker 34 = .ok (.ireturn, 1) := by decide +kernel
theorem dX1_firstNotDone_0 : decode cX1_firstNotDone 0 = .ok (.iconst 0, 1) := by decide +kernel
theorem dX1_firstNotDone_1 : decode cX1_firstNotDone 1 = .ok (.istore_n 2, 1) := by decide +kernel
theorem dX1_firstNotDone_2 : decode cX1_firstNotDone 2 = .ok (.iload_n 2, 1) := by decide +kernel
theorem dX1_firstNotDone_3 : decode cX1_firstNotDone 3 = .ok (.iload_n 1, 1) := by decide +kernel
theorem dX1_firstNotDone_4 : decode cX1_firstNotDone 4 = .ok (.if_icmp .ge 26, 3) := by decide +kernel
theorem dX1_firstNotDone_7 : decode cX1_firstNotDone 7 = .ok (.iload_n 2, 1) := by decide +kernel
theorem dX1_firstNotDone_8 : decode cX1_firstNotDone 8 = .ok (.bipush 40, 2) := by decide +kernel
theorem dX1_firstNotDone_10 : decode cX1_firstNotDone 10 = .ok (.if_icmp .ge 20, 3) := by decide +kernel
theorem dX1_firstNotDone_13 : decode cX1_firstNotDone 13 = .ok (.aload_n 0, 1) := by decide +kernel
theorem dX1_firstNotDone_14 : decode cX1_firstNotDone 14 = .ok (.getfield 9, 3) := by decide +kernel
theorem dX1_firstNotDone_17 : decode cX1_firstNotDone 17 = .ok (.iload_n 2, 1) := by decide +kernel
theorem dX1_firstNotDone_18 : decode cX1_firstNotDone 18 = .ok (.iaload, 1) := by decide +kernel
theorem dX1_firstNotDone_19 : decode cX1_firstNotDone 19 = .ok (.ifCond .ne 5, 3) := by decide +kernel
theorem dX1_firstNotDone_22 : decode cX1_firstNotDone 22 = .ok (.iload_n 2, 1) := by decide +kernel
theorem dX1_firstNotDone_23 : decode cX1_firstNotDone 23 = .ok (.ireturn, 1) := by decide +kernel
theorem dX1_firstNotDone_24 : decode cX1_firstNotDone 24 = .ok (.iinc 2 1, 3) := by decide +kernel
theorem dX1_firstNotDone_27 : decode cX1_firstNotDone 27 = .ok (.goto (-25), 3) := by decide +kernel
theorem dX1_firstNotDone_30 : decode cX1_firstNotDone 30 = .ok (.iconst (-1), 1) := by decide +kernel
theorem dX1_firstNotDone_31 : decode cX1_firstNotDone 31 = .ok (.ireturn, 1) := by decide +kernel
theorem dX1_doneBehind_0 : decode cX1_doneBehind 0 = .ok (.iconst 0, 1) := by decide +kernel
theorem dX1_doneBehind_1 : decode cX1_doneBehind 1 = .ok (.istore_n 2, 1) := by decide +kernel
theorem dX1_doneBehind_2 : decode cX1_doneBehind 2 = .ok (.iconst 0, 1) := by decide +kernel
theorem dX1_doneBehind_3 : decode cX1_doneBehind 3 = .ok (.istore_n 3, 1) := by decide +kernel
theorem dX1_doneBehind_4 : decode cX1_doneBehind 4 = .ok (.iload_n 3, 1) := by decide +kernel
theorem dX1_doneBehind_5 : decode cX1_doneBehind 5 = .ok (.iload_n 1, 1) := by decide +kernel
theorem dX1_doneBehind_6 : decode cX1_doneBehind 6 = .ok (.if_icmp .ge 32, 3) := by decide +kernel
theorem dX1_doneBehind_9 : decode cX1_doneBehind 9 = .ok (.iload_n 3, 1) := by decide +kernel
theorem dX1_doneBehind_10 : decode cX1_doneBehind 10 = .ok (.bipush 40, 2) := by decide +kernel
theorem dX1_doneBehind_12 : decode cX1_doneBehind 12 = .ok (.if_icmp .ge 26, 3) := by decide +kernel
theorem dX1_doneBehind_15 : decode cX1_doneBehind 15 = .ok (.iload_n 2, 1) := by decide +kernel
theorem dX1_doneBehind_16 : decode cX1_doneBehind 16 = .ok (.aload_n 0, 1) := by decide +kernel
theorem dX1_doneBehind_17 : decode cX1_doneBehind 17 = .ok (.getfield 9, 3) := by decide +kernel
theorem dX1_doneBehind_20 : decode cX1_doneBehind 20 = .ok (.iload_n 3, 1) := by decide +kernel
theorem dX1_doneBehind_21 : decode cX1_doneBehind 21 = .ok (.iaload, 1) := by decide +kernel
theorem dX1_doneBehind_22 : decode cX1_doneBehind 22 = .ok (.ifCond .le 7, 3) := by decide +kernel
theorem dX1_doneBehind_25 : decode cX1_doneBehind 25 = .ok (.iconst 1, 1) := by decide +kernel
theorem dX1_doneBehind_26 : decode cX1_doneBehind 26 = .ok (.goto 4, 3) := by decide +kernel
theorem dX1_doneBehind_29 : decode cX1_doneBehind 29 = .ok (.iconst 0, 1) := by decide +kernel
theorem dX1_doneBehind_30 : decode cX1_doneBehind 30 = .ok (.iadd, 1) := by decide +kernel
theorem dX1_doneBehind_31 : decode cX1_doneBehind 31 = .ok (.istore_n 2, 1) := by decide +kernel
theorem dX1_doneBehind_32 : decode cX1_doneBehind 32 = .ok (.iinc 3 1, 3) := by decide +kernel
theorem dX1_doneBehind_35 : decode cX1_doneBehind 35 = .ok (.goto (-31), 3) := by decide +kernel
theorem dX1_doneBehind_38 : decode cX1_doneBehind 38 = .ok (.iload_n 2, 1) := by decide +kernel
theorem dX1_doneBehind_39 : decode cX1_doneBehind 39 = .ok (.ireturn, 1) := by decide +kernel
theorem dX1_clearedBehind_0 : decode cX1_clearedBehind 0 = .ok (.iconst 0, 1) := by decide +kernel
theorem dX1_clearedBehind_1 : decode cX1_clearedBehind 1 = .ok (.istore 4, 2) := by decide +kernel
theorem dX1_clearedBehind_3 : decode cX1_clearedBehind 3 = .ok (.iload 4, 2) := by decide +kernel
theorem dX1_clearedBehind_5 : decode cX1_clearedBehind 5 = .ok (.iload_n 1, 1) := by decide +kernel
theorem dX1_clearedBehind_6 : decode cX1_clearedBehind 6 = .ok (.if_icmp .ge 39, 3) := by decide +kernel
theorem dX1_clearedBehind_9 : decode cX1_clearedBehind 9 = .ok (.iload 4, 2) := by decide +kernel
theorem dX1_clearedBehind_11 : decode cX1_clearedBehind 11 = .ok (.bipush 40, 2) := by decide +kernel
theorem dX1_clearedBehind_13 : decode cX1_clearedBehind 13 = .ok (.if_icmp .ge 32, 3) := by decide +kernel
theorem dX1_clearedBehind_16 : decode cX1_clearedBehind 16 = .ok (.aload_n 0, 1) := by decide +kernel
theorem dX1_clearedBehind_17 : decode cX1_clearedBehind 17 = .ok (.getfield 9, 3) := by decide +kernel
theorem dX1_clearedBehind_20 : decode cX1_clearedBehind 20 = .ok (.iload 4, 2) := by decide +kernel
theorem dX1_clearedBehind_22 : decode cX1_clearedBehind 22 = .ok (.iaload, 1) := by decide +kernel
theorem dX1_clearedBehind_23 : decode cX1_clearedBehind 23 = .ok (.ifCond .le 16, 3) := by decide +kernel
theorem dX1_clearedBehind_26 : decode cX1_clearedBehind 26 = .ok (.aload_n 3, 1) := by decide +kernel
theorem dX1_clearedBehind_27 : decode cX1_clearedBehind 27 = .ok (.getfield 61, 3) := by decide +kernel
theorem dX1_clearedBehind_30 : decode cX1_clearedBehind 30 = .ok (.iload 4, 2) := by decide +kernel
theorem dX1_clearedBehind_32 : decode cX1_clearedBehind 32 = .ok (.iaload, 1) := by decide +kernel
theorem dX1_clearedBehind_33 : decode cX1_clearedBehind 33 = .ok (.iload_n 2, 1) := by decide +kernel
theorem dX1_clearedBehind_34 : decode cX1_clearedBehind 34 = .ok (.if_icmp .ne 5, 3) := by decide +kernel
theorem dX1_clearedBehind_37 : decode cX1_clearedBehind 37 = .ok (.iconst 1, 1) := by decide +kernel
theorem dX1_clearedBehind_38 : decode cX1_clearedBehind 38 = .ok (.ireturn, 1) := by decide +kernel
theorem dX1_clearedBehind_39 : decode cX1_clearedBehind 39 = .ok (.iinc 4 1, 3) := by decide +kernel
theorem dX1_clearedBehind_42 : decode cX1_clearedBehind 42 = .ok (.goto (-39), 3) := by decide +kernel
theorem dX1_clearedBehind_45 : decode cX1_clearedBehind 45 = .ok (.iconst 0, 1) := by decide +kernel
theorem dX1_clearedBehind_46 : decode cX1_clearedBehind 46 = .ok (.ireturn, 1) := by decide +kernel
theorem dX1_secondsBehind_0 : decode cX1_secondsBehind 0 = .ok (.iconst 0, 1) := by decide +kernel
theorem dX1_secondsBehind_1 : decode cX1_secondsBehind 1 = .ok (.istore 4, 2) := by decide +kernel
theorem dX1_secondsBehind_3 : decode cX1_secondsBehind 3 = .ok (.iconst 0, 1) := by decide +kernel
theorem dX1_secondsBehind_4 : decode cX1_secondsBehind 4 = .ok (.istore 5, 2) := by decide +kernel
theorem dX1_secondsBehind_6 : decode cX1_secondsBehind 6 = .ok (.iload 5, 2) := by decide +kernel
theorem dX1_secondsBehind_8 : decode cX1_secondsBehind 8 = .ok (.iload_n 1, 1) := by decide +kernel
theorem dX1_secondsBehind_9 : decode cX1_secondsBehind 9 = .ok (.if_icmp .ge 57, 3) := by decide +kernel
theorem dX1_secondsBehind_12 : decode cX1_secondsBehind 12 = .ok (.iload 5, 2) := by decide +kernel
theorem dX1_secondsBehind_14 : decode cX1_secondsBehind 14 = .ok (.bipush 40, 2) := by decide +kernel
theorem dX1_secondsBehind_16 : decode cX1_secondsBehind 16 = .ok (.if_icmp .ge 50, 3) := by decide +kernel
theorem dX1_secondsBehind_19 : decode cX1_secondsBehind 19 = .ok (.aload_n 2, 1) := by decide +kernel
theorem dX1_secondsBehind_20 : decode cX1_secondsBehind 20 = .ok (.getfield 58, 3) := by decide +kernel
theorem dX1_secondsBehind_23 : decode cX1_secondsBehind 23 = .ok (.iload 5, 2) := by decide +kernel
theorem dX1_secondsBehind_25 : decode cX1_secondsBehind 25 = .ok (.iaload, 1) := by decide +kernel
theorem dX1_secondsBehind_26 : decode cX1_secondsBehind 26 = .ok (.istore 6, 2) := by decide +kernel
theorem dX1_secondsBehind_28 : decode cX1_secondsBehind 28 = .ok (.iload 4, 2) := by decide +kernel
theorem dX1_secondsBehind_30 : decode cX1_secondsBehind 30 = .ok (.iload 6, 2) := by decide +kernel
theorem dX1_secondsBehind_32 : decode cX1_secondsBehind 32 = .ok (.invokestatic 64, 3) := by decide +kernel
theorem dX1_secondsBehind_35 : decode cX1_secondsBehind 35 = .ok (.ifCond .eq 21, 3) := by decide +kernel
theorem dX1_secondsBehind_38 : decode cX1_secondsBehind 38 = .ok (.aload_n 0, 1) := by decide +kernel
theorem dX1_secondsBehind_39 : decode cX1_secondsBehind 39 = .ok (.getfield 9, 3) := by decide +kernel
theorem dX1_secondsBehind_42 : decode cX1_secondsBehind 42 = .ok (.iload 5, 2) := by decide +kernel
theorem dX1_secondsBehind_44 : decode cX1_secondsBehind 44 = .ok (.iaload, 1) := by decide +kernel
theorem dX1_secondsBehind_45 : decode cX1_secondsBehind 45 = .ok (.aload_n 3, 1) := by decide +kernel
theorem dX1_secondsBehind_46 : decode cX1_secondsBehind 46 = .ok (.getfield 95, 3) := by decide +kernel
theorem dX1_secondsBehind_49 : decode cX1_secondsBehind 49 = .ok (.iload 6, 2) := by decide +kernel
theorem dX1_secondsBehind_51 : decode cX1_secondsBehind 51 = .ok (.iaload, 1) := by decide +kernel
theorem dX1_secondsBehind_52 : decode cX1_secondsBehind 52 = .ok (.imul, 1) := by decide +kernel
theorem dX1_secondsBehind_53 : decode cX1_secondsBehind 53 = .ok (.goto 4, 3) := by decide +kernel
theorem dX1_secondsBehind_56 : decode cX1_secondsBehind 56 = .ok (.iconst 0, 1) := by decide +kernel
theorem dX1_secondsBehind_57 : decode cX1_secondsBehind 57 = .ok (.iadd, 1) := by decide +kernel
theorem dX1_secondsBehind_58 : decode cX1_secondsBehind 58 = .ok (.istore 4, 2) := by decide +kernel
theorem dX1_secondsBehind_60 : decode cX1_secondsBehind 60 = .ok (.iinc 5 1, 3) := by decide +kernel
theorem dX1_secondsBehind_63 : decode cX1_secondsBehind 63 = .ok (.goto (-57), 3) := by decide +kernel
theorem dX1_secondsBehind_66 : decode cX1_secondsBehind 66 = .ok (.iload 4, 2) := by decide +kernel
theorem dX1_secondsBehind_68 : decode cX1_secondsBehind 68 = .ok (.ireturn, 1) := by decide +kernel
theorem dX1_riskBehind_0 : decode cX1_riskBehind 0 = .ok (.iconst 0, 1) := by decide +kernel
theorem dX1_riskBehind_1 : decode cX1_riskBehind 1 = .ok (.istore 4, 2) := by decide +kernel
theorem dX1_riskBehind_3 : decode cX1_riskBehind 3 = .ok (.iconst 0, 1) := by decide +kernel
theorem dX1_riskBehind_4 : decode cX1_riskBehind 4 = .ok (.istore 5, 2) := by decide +kernel
theorem dX1_riskBehind_6 : decode cX1_riskBehind 6 = .ok (.iload 5, 2) := by decide +kernel
theorem dX1_riskBehind_8 : decode cX1_riskBehind 8 = .ok (.bipush 32, 2) := by decide +kernel
theorem dX1_riskBehind_10 : decode cX1_riskBehind 10 = .ok (.if_icmp .ge 35, 3) := by decide +kernel
theorem dX1_riskBehind_13 : decode cX1_riskBehind 13 = .ok (.iload 4, 2) := by decide +kernel
theorem dX1_riskBehind_15 : decode cX1_riskBehind 15 = .ok (.aload_n 3, 1) := by decide +kernel
theorem dX1_riskBehind_16 : decode cX1_riskBehind 16 = .ok (.getfield 37, 3) := by decide +kernel
theorem dX1_riskBehind_19 : decode cX1_riskBehind 19 = .ok (.iload 5, 2) := by decide +kernel
theorem dX1_riskBehind_21 : decode cX1_riskBehind 21 = .ok (.iaload, 1) := by decide +kernel
theorem dX1_riskBehind_22 : decode cX1_riskBehind 22 = .ok (.ifCond .le 13, 3) := by decide +kernel
theorem dX1_riskBehind_25 : decode cX1_riskBehind 25 = .ok (.aload_n 0, 1) := by decide +kernel
theorem dX1_riskBehind_26 : decode cX1_riskBehind 26 = .ok (.getfield 21, 3) := by decide +kernel
theorem dX1_riskBehind_29 : decode cX1_riskBehind 29 = .ok (.iload 5, 2) := by decide +kernel
theorem dX1_riskBehind_31 : decode cX1_riskBehind 31 = .ok (.iaload, 1) := by decide +kernel
theorem dX1_riskBehind_32 : decode cX1_riskBehind 32 = .ok (.goto 4, 3) := by decide +kernel
theorem dX1_riskBehind_35 : decode cX1_riskBehind 35 = .ok (.iconst 0, 1) := by decide +kernel
theorem dX1_riskBehind_36 : decode cX1_riskBehind 36 = .ok (.iadd, 1) := by decide +kernel
theorem dX1_riskBehind_37 : decode cX1_riskBehind 37 = .ok (.istore 4, 2) := by decide +kernel
theorem dX1_riskBehind_39 : decode cX1_riskBehind 39 = .ok (.iinc 5 1, 3) := by decide +kernel
theorem dX1_riskBehind_42 : decode cX1_riskBehind 42 = .ok (.goto (-36), 3) := by decide +kernel
theorem dX1_riskBehind_45 : decode cX1_riskBehind 45 = .ok (.iconst 0, 1) := by decide +kernel
theorem dX1_riskBehind_46 : decode cX1_riskBehind 46 = .ok (.istore 5, 2) := by decide +kernel
theorem dX1_riskBehind_48 : decode cX1_riskBehind 48 = .ok (.iload 5, 2) := by decide +kernel
theorem dX1_riskBehind_50 : decode cX1_riskBehind 50 = .ok (.iload_n 1, 1) := by decide +kernel
theorem dX1_riskBehind_51 : decode cX1_riskBehind 51 = .ok (.if_icmp .ge 59, 3) := by decide +kernel
theorem dX1_riskBehind_54 : decode cX1_riskBehind 54 = .ok (.iload 5, 2) := by decide +kernel
theorem dX1_riskBehind_56 : decode cX1_riskBehind 56 = .ok (.bipush 40, 2) := by decide +kernel
theorem dX1_riskBehind_58 : decode cX1_riskBehind 58 = .ok (.if_icmp .ge 52, 3) := by decide +kernel
theorem dX1_riskBehind_61 : decode cX1_riskBehind 61 = .ok (.aload_n 2, 1) := by decide +kernel
theorem dX1_riskBehind_62 : decode cX1_riskBehind 62 = .ok (.getfield 61, 3) := by decide +kernel
theorem dX1_riskBehind_65 : decode cX1_riskBehind 65 = .ok (.iload 5, 2) := by decide +kernel
theorem dX1_riskBehind_67 : decode cX1_riskBehind 67 = .ok (.iaload, 1) := by decide +kernel
theorem dX1_riskBehind_68 : decode cX1_riskBehind 68 = .ok (.istore 6, 2) := by decide +kernel
theorem dX1_riskBehind_70 : decode cX1_riskBehind 70 = .ok (.iload 4, 2) := by decide +kernel
theorem dX1_riskBehind_72 : decode cX1_riskBehind 72 = .ok (.aload_n 0, 1) := by decide +kernel
theorem dX1_riskBehind_73 : decode cX1_riskBehind 73 = .ok (.getfield 9, 3) := by decide +kernel
theorem dX1_riskBehind_76 : decode cX1_riskBehind 76 = .ok (.iload 5, 2) := by decide +kernel
theorem dX1_riskBehind_78 : decode cX1_riskBehind 78 = .ok (.iaload, 1) := by decide +kernel
theorem dX1_riskBehind_79 : decode cX1_riskBehind 79 = .ok (.ifCond .le 21, 3) := by decide +kernel
theorem dX1_riskBehind_82 : decode cX1_riskBehind 82 = .ok (.iload 6, 2) := by decide +kernel
theorem dX1_riskBehind_84 : decode cX1_riskBehind 84 = .ok (.invokestatic 68, 3) := by decide +kernel
theorem dX1_riskBehind_87 : decode cX1_riskBehind 87 = .ok (.ifCond .eq 13, 3) := by decide +kernel
theorem dX1_riskBehind_90 : decode cX1_riskBehind 90 = .ok (.aload_n 0, 1) := by decide +kernel
theorem dX1_riskBehind_91 : decode cX1_riskBehind 91 = .ok (.getfield 21, 3) := by decide +kernel
theorem dX1_riskBehind_94 : decode cX1_riskBehind 94 = .ok (.iload 6, 2) := by decide +kernel
theorem dX1_riskBehind_96 : decode cX1_riskBehind 96 = .ok (.iaload, 1) := by decide +kernel
theorem dX1_riskBehind_97 : decode cX1_riskBehind 97 = .ok (.goto 4, 3) := by decide +kernel
theorem dX1_riskBehind_100 : decode cX1_riskBehind 100 = .ok (.iconst 0, 1) := by decide +kernel
theorem dX1_riskBehind_101 : decode cX1_riskBehind 101 = .ok (.isub, 1) := by decide +kernel
theorem dX1_riskBehind_102 : decode cX1_riskBehind 102 = .ok (.istore 4, 2) := by decide +kernel
theorem dX1_riskBehind_104 : decode cX1_riskBehind 104 = .ok (.iinc 5 1, 3) := by decide +kernel
theorem dX1_riskBehind_107 : decode cX1_riskBehind 107 = .ok (.goto (-59), 3) := by decide +kernel
theorem dX1_riskBehind_110 : decode cX1_riskBehind 110 = .ok (.iload 4, 2) := by decide +kernel
theorem dX1_riskBehind_112 : decode cX1_riskBehind 112 = .ok (.ireturn, 1) := by decide +kernel
theorem dX1_riskOfKind_0 : decode cX1_riskOfKind 0 = .ok (.iconst 0, 1) := by decide +kernel
theorem dX1_riskOfKind_1 : decode cX1_riskOfKind 1 = .ok (.istore_n 3, 1) := by decide +kernel
theorem dX1_riskOfKind_2 : decode cX1_riskOfKind 2 = .ok (.iconst 0, 1) := by decide +kernel
theorem dX1_riskOfKind_3 : decode cX1_riskOfKind 3 = .ok (.istore 4, 2) := by decide +kernel
theorem dX1_riskOfKind_5 : decode cX1_riskOfKind 5 = .ok (.iload 4, 2) := by decide +kernel
theorem dX1_riskOfKind_7 : decode cX1_riskOfKind 7 = .ok (.bipush 32, 2) := by decide +kernel
theorem dX1_riskOfKind_9 : decode cX1_riskOfKind 9 = .ok (.if_icmp .ge 45, 3) := by decide +kernel
theorem dX1_riskOfKind_12 : decode cX1_riskOfKind 12 = .ok (.iload_n 1, 1) := by decide +kernel
theorem dX1_riskOfKind_13 : decode cX1_riskOfKind 13 = .ok (.invokestatic 98, 3) := by decide +kernel
theorem dX1_riskOfKind_16 : decode cX1_riskOfKind 16 = .ok (.ifCond .eq 38, 3) := by decide +kernel
theorem dX1_riskOfKind_19 : decode cX1_riskOfKind 19 = .ok (.iload_n 3, 1) := by decide +kernel
theorem dX1_riskOfKind_20 : decode cX1_riskOfKind 20 = .ok (.aload_n 0, 1) := by decide +kernel
theorem dX1_riskOfKind_21 : decode cX1_riskOfKind 21 = .ok (.getfield 15, 3) := by decide +kernel
theorem dX1_riskOfKind_24 : decode cX1_riskOfKind 24 = .ok (.iload 4, 2) := by decide +kernel
theorem dX1_riskOfKind_26 : decode cX1_riskOfKind 26 = .ok (.iaload, 1) := by decide +kernel
theorem dX1_riskOfKind_27 : decode cX1_riskOfKind 27 = .ok (.ifCond .le 18, 3) := by decide +kernel
theorem dX1_riskOfKind_30 : decode cX1_riskOfKind 30 = .ok (.aload_n 2, 1) := by decide +kernel
theorem dX1_riskOfKind_31 : decode cX1_riskOfKind 31 = .ok (.getfield 82, 3) := by decide +kernel
theorem dX1_riskOfKind_34 : decode cX1_riskOfKind 34 = .ok (.iload_n 1, 1) := by decide +kernel
theorem dX1_riskOfKind_35 : decode cX1_riskOfKind 35 = .ok (.bipush 32, 2) := by decide +kernel
theorem dX1_riskOfKind_37 : decode cX1_riskOfKind 37 = .ok (.imul, 1) := by decide +kernel
theorem dX1_riskOfKind_38 : decode cX1_riskOfKind 38 = .ok (.iload 4, 2) := by decide +kernel
theorem dX1_riskOfKind_40 : decode cX1_riskOfKind 40 = .ok (.iadd, 1) := by decide +kernel
theorem dX1_riskOfKind_41 : decode cX1_riskOfKind 41 = .ok (.iaload, 1) := by decide +kernel
theorem dX1_riskOfKind_42 : decode cX1_riskOfKind 42 = .ok (.goto 4, 3) := by decide +kernel
theorem dX1_riskOfKind_45 : decode cX1_riskOfKind 45 = .ok (.iconst 0, 1) := by decide +kernel
theorem dX1_riskOfKind_46 : decode cX1_riskOfKind 46 = .ok (.iadd, 1) := by decide +kernel
theorem dX1_riskOfKind_47 : decode cX1_riskOfKind 47 = .ok (.istore_n 3, 1) := by decide +kernel
theorem dX1_riskOfKind_48 : decode cX1_riskOfKind 48 = .ok (.iinc 4 1, 3) := by decide +kernel
theorem dX1_riskOfKind_51 : decode cX1_riskOfKind 51 = .ok (.goto (-46), 3) := by decide +kernel
theorem dX1_riskOfKind_54 : decode cX1_riskOfKind 54 = .ok (.iload_n 3, 1) := by decide +kernel
theorem dX1_riskOfKind_55 : decode cX1_riskOfKind 55 = .ok (.ireturn, 1) := by decide +kernel
theorem dX1_cheapestStop_0 : decode cX1_cheapestStop 0 = .ok (.iconst 0, 1) := by decide +kernel
theorem dX1_cheapestStop_1 : decode cX1_cheapestStop 1 = .ok (.istore_n 3, 1) := by decide +kernel
theorem dX1_cheapestStop_2 : decode cX1_cheapestStop 2 = .ok (.iconst 0, 1) := by decide +kernel
theorem dX1_cheapestStop_3 : decode cX1_cheapestStop 3 = .ok (.istore 4, 2) := by decide +kernel
theorem dX1_cheapestStop_5 : decode cX1_cheapestStop 5 = .ok (.iconst 0, 1) := by decide +kernel
theorem dX1_cheapestStop_6 : decode cX1_cheapestStop 6 = .ok (.istore 5, 2) := by decide +kernel
theorem dX1_cheapestStop_8 : decode cX1_cheapestStop 8 = .ok (.iconst 0, 1) := by decide +kernel
theorem dX1_cheapestStop_9 : decode cX1_cheapestStop 9 = .ok (.istore 6, 2) := by decide +kernel
theorem dX1_cheapestStop_11 : decode cX1_cheapestStop 11 = .ok (.iload 6, 2) := by decide +kernel
theorem dX1_cheapestStop_13 : decode cX1_cheapestStop 13 = .ok (.aload_n 0, 1) := by decide +kernel
theorem dX1_cheapestStop_14 : decode cX1_cheapestStop 14 = .ok (.getfield 30, 3) := by decide +kernel
theorem dX1_cheapestStop_17 : decode cX1_cheapestStop 17 = .ok (.if_icmp .ge 43, 3) := by decide +kernel
theorem dX1_cheapestStop_20 : decode cX1_cheapestStop 20 = .ok (.iload 5, 2) := by decide +kernel
theorem dX1_cheapestStop_22 : decode cX1_cheapestStop 22 = .ok (.aload_n 0, 1) := by decide +kernel
theorem dX1_cheapestStop_23 : decode cX1_cheapestStop 23 = .ok (.aload_n 0, 1) := by decide +kernel
theorem dX1_cheapestStop_24 : decode cX1_cheapestStop 24 = .ok (.getfield 24, 3) := by decide +kernel
theorem dX1_cheapestStop_27 : decode cX1_cheapestStop 27 = .ok (.iload 6, 2) := by decide +kernel
theorem dX1_cheapestStop_29 : decode cX1_cheapestStop 29 = .ok (.iaload, 1) := by decide +kernel
theorem dX1_cheapestStop_30 : decode cX1_cheapestStop 30 = .ok (.iload_n 1, 1) := by decide +kernel
theorem dX1_cheapestStop_31 : decode cX1_cheapestStop 31 = .ok (.iload_n 2, 1) := by decide +kernel
theorem dX1_cheapestStop_32 : decode cX1_cheapestStop 32 = .ok (.invokevirtual 101, 3) := by decide +kernel
theorem dX1_cheapestStop_35 : decode cX1_cheapestStop 35 = .ok (.iadd, 1) := by decide +kernel
theorem dX1_cheapestStop_36 : decode cX1_cheapestStop 36 = .ok (.istore 5, 2) := by decide +kernel
theorem dX1_cheapestStop_38 : decode cX1_cheapestStop 38 = .ok (.iload 5, 2) := by decide +kernel
theorem dX1_cheapestStop_40 : decode cX1_cheapestStop 40 = .ok (.iload 4, 2) := by decide +kernel
theorem dX1_cheapestStop_42 : decode cX1_cheapestStop 42 = .ok (.if_icmp .ge 12, 3) := by decide +kernel
theorem dX1_cheapestStop_45 : decode cX1_cheapestStop 45 = .ok (.iload 5, 2) := by decide +kernel
theorem dX1_cheapestStop_47 : decode cX1_cheapestStop 47 = .ok (.istore 4, 2) := by decide +kernel
theorem dX1_cheapestStop_49 : decode cX1_cheapestStop 49 = .ok (.iload 6, 2) := by decide +kernel
theorem dX1_cheapestStop_51 : decode cX1_cheapestStop 51 = .ok (.iconst 1, 1) := by decide +kernel
theorem dX1_cheapestStop_52 : decode cX1_cheapestStop 52 = .ok (.iadd, 1) := by decide +kernel
theorem dX1_cheapestStop_53 : decode cX1_cheapestStop 53 = .ok (.istore_n 3, 1) := by decide +kernel
theorem dX1_cheapestStop_54 : decode cX1_cheapestStop 54 = .ok (.iinc 6 1, 3) := by decide +kernel
theorem dX1_cheapestStop_57 : decode cX1_cheapestStop 57 = .ok (.goto (-46), 3) := by decide +kernel
theorem dX1_cheapestStop_60 : decode cX1_cheapestStop 60 = .ok (.iload_n 3, 1) := by decide +kernel
theorem dX1_cheapestStop_61 : decode cX1_cheapestStop 61 = .ok (.ireturn, 1) := by decide +kernel
theorem dX1_change_0 : decode cX1_change 0 = .ok (.iconst 0, 1) := by decide +kernel
theorem dX1_change_1 : decode cX1_change 1 = .ok (.istore 4, 2) := by decide +kernel
theorem dX1_change_3 : decode cX1_change 3 = .ok (.iconst 0, 1) := by decide +kernel
theorem dX1_change_4 : decode cX1_change 4 = .ok (.istore 5, 2) := by decide +kernel
theorem dX1_change_6 : decode cX1_change 6 = .ok (.iload 5, 2) := by decide +kernel
theorem dX1_change_8 : decode cX1_change 8 = .ok (.iload_n 1, 1) := by decide +kernel
theorem dX1_change_9 : decode cX1_change 9 = .ok (.if_icmp .ge 36, 3) := by decide +kernel
theorem dX1_change_12 : decode cX1_change 12 = .ok (.iload 5, 2) := by decide +kernel
theorem dX1_change_14 : decode cX1_change 14 = .ok (.aload_n 0, 1) := by decide +kernel
theorem dX1_change_15 : decode cX1_change 15 = .ok (.getfield 30, 3) := by decide +kernel
theorem dX1_change_18 : decode cX1_change 18 = .ok (.if_icmp .ge 27, 3) := by decide +kernel
theorem dX1_change_21 : decode cX1_change 21 = .ok (.iload 4, 2) := by decide +kernel
theorem dX1_change_23 : decode cX1_change 23 = .ok (.aload_n 0, 1) := by decide +kernel
theorem dX1_change_24 : decode cX1_change 24 = .ok (.aload_n 0, 1) := by decide +kernel
theorem dX1_change_25 : decode cX1_change 25 = .ok (.getfield 24, 3) := by decide +kernel
theorem dX1_change_28 : decode cX1_change 28 = .ok (.iload 5, 2) := by decide +kernel
theorem dX1_change_30 : decode cX1_change 30 = .ok (.iaload, 1) := by decide +kernel
theorem dX1_change_31 : decode cX1_change 31 = .ok (.iload_n 2, 1) := by decide +kernel
theorem dX1_change_32 : decode cX1_change 32 = .ok (.iload_n 3, 1) := by decide +kernel
theorem dX1_change_33 : decode cX1_change 33 = .ok (.invokevirtual 101, 3) := by decide +kernel
theorem dX1_change_36 : decode cX1_change 36 = .ok (.iadd, 1) := by decide +kernel
theorem dX1_change_37 : decode cX1_change 37 = .ok (.istore 4, 2) := by decide +kernel
theorem dX1_change_39 : decode cX1_change 39 = .ok (.iinc 5 1, 3) := by decide +kernel
theorem dX1_change_42 : decode cX1_change 42 = .ok (.goto (-36), 3) := by decide +kernel
theorem dX1_change_45 : decode cX1_change 45 = .ok (.iload 4, 2) := by decide +kernel
theorem dX1_change_47 : decode cX1_change 47 = .ok (.ireturn, 1) := by decide +kernel
theorem dX1_changeAt_0 : decode cX1_changeAt 0 = .ok (.iload_n 2, 1) := by decide +kernel
theorem dX1_changeAt_1 : decode cX1_changeAt 1 = .ok (.aload_n 0, 1) := by decide +kernel
theorem dX1_changeAt_2 : decode cX1_changeAt 2 = .ok (.getfield 15, 3) := by decide +kernel
theorem dX1_changeAt_5 : decode cX1_changeAt 5 = .ok (.iload_n 1, 1) := by decide +kernel
theorem dX1_changeAt_6 : decode cX1_changeAt 6 = .ok (.iaload, 1) := by decide +kernel
theorem dX1_changeAt_7 : decode cX1_changeAt 7 = .ok (.imul, 1) := by decide +kernel
theorem dX1_changeAt_8 : decode cX1_changeAt 8 = .ok (.iload_n 3, 1) := by decide +kernel
theorem dX1_changeAt_9 : decode cX1_changeAt 9 = .ok (.aload_n 0, 1) := by decide +kernel
theorem dX1_changeAt_10 : decode cX1_changeAt 10 = .ok (.getfield 21, 3) := by decide +kernel
theorem dX1_changeAt_13 : decode cX1_changeAt 13 = .ok (.iload_n 1, 1) := by decide +kernel
theorem dX1_changeAt_14 : decode cX1_changeAt 14 = .ok (.iaload, 1) := by decide +kernel
theorem dX1_changeAt_15 : decode cX1_changeAt 15 = .ok (.imul, 1) := by decide +kernel
theorem dX1_changeAt_16 : decode cX1_changeAt 16 = .ok (.isub, 1) := by decide +kernel
theorem dX1_changeAt_17 : decode cX1_changeAt 17 = .ok (.ireturn, 1) := by decide +kernel
theorem dX1_thickest_0 : decode cX1_thickest 0 = .ok (.bipush 9, 2) := by decide +kernel
theorem dX1_thickest_2 : decode cX1_thickest 2 = .ok (.istore_n 1, 1) := by decide +kernel
theorem dX1_thickest_3 : decode cX1_thickest 3 = .ok (.iload_n 1, 1) := by decide +kernel
theorem dX1_thickest_4 : decode cX1_thickest 4 = .ok (.ifCond .le 20, 3) := by decide +kernel
theorem dX1_thickest_7 : decode cX1_thickest 7 = .ok (.aload_n 0, 1) := by decide +kernel
theorem dX1_thickest_8 : decode cX1_thickest 8 = .ok (.getfield 27, 3) := by decide +kernel
theorem dX1_thickest_11 : decode cX1_thickest 11 = .ok (.iload_n 1, 1) := by decide +kernel
theorem dX1_thickest_12 : decode cX1_thickest 12 = .ok (.iaload, 1) := by decide +kernel
theorem dX1_thickest_13 : decode cX1_thickest 13 = .ok (.ifCond .le 5, 3) := by decide +kernel
theorem dX1_thickest_16 : decode cX1_thickest 16 = .ok (.iload_n 1, 1) := by decide +kernel
theorem dX1_thickest_17 : decode cX1_thickest 17 = .ok (.ireturn, 1) := by decide +kernel
theorem dX1_thickest_18 : decode cX1_thickest 18 = .ok (.iinc 1 (-1), 3) := by decide +kernel
theorem dX1_thickest_21 : decode cX1_thickest 21 = .ok (.goto (-18), 3) := by decide +kernel
theorem dX1_thickest_24 : decode cX1_thickest 24 = .ok (.iconst 0, 1) := by decide +kernel
theorem dX1_thickest_25 : decode cX1_thickest 25 = .ok (.ireturn, 1) := by decide +kernel
theorem dX1_clearWithBoth_0 : decode cX1_clearWithBoth 0 = .ok (.iload_n 1, 1) := by decide +kernel
theorem dX1_clearWithBoth_1 : decode cX1_clearWithBoth 1 = .ok (.ifCond .gt 5, 3) := by decide +kernel
theorem dX1_clearWithBoth_4 : decode cX1_clearWithBoth 4 = .ok (.iconst 0, 1) := by decide +kernel
theorem dX1_clearWithBoth_5 : decode cX1_clearWithBoth 5 = .ok (.ireturn, 1) := by decide +kernel
theorem dX1_clearWithBoth_6 : decode cX1_clearWithBoth 6 = .ok (.iconst 0, 1) := by decide +kernel
theorem dX1_clearWithBoth_7 : decode cX1_clearWithBoth 7 = .ok (.istore_n 3, 1) := by decide +kernel
theorem dX1_clearWithBoth_8 : decode cX1_clearWithBoth 8 = .ok (.bipush 9, 2) := by decide +kernel
theorem dX1_clearWithBoth_10 : decode cX1_clearWithBoth 10 = .ok (.istore 4, 2) := by decide +kernel
theorem dX1_clearWithBoth_12 : decode cX1_clearWithBoth 12 = .ok (.iload 4, 2) := by decide +kernel
theorem dX1_clearWithBoth_14 : decode cX1_clearWithBoth 14 = .ok (.ifCond .le 67, 3) := by decide +kernel
theorem dX1_clearWithBoth_17 : decode cX1_clearWithBoth 17 = .ok (.iload 4, 2) := by decide +kernel
theorem dX1_clearWithBoth_19 : decode cX1_clearWithBoth 19 = .ok (.iload_n 1, 1) := by decide +kernel
theorem dX1_clearWithBoth_20 : decode cX1_clearWithBoth 20 = .ok (.imul, 1) := by decide +kernel
theorem dX1_clearWithBoth_21 : decode cX1_clearWithBoth 21 = .ok (.istore 5, 2) := by decide +kernel
theorem dX1_clearWithBoth_23 : decode cX1_clearWithBoth 23 = .ok (.iconst 0, 1) := by decide +kernel
theorem dX1_clearWithBoth_24 : decode cX1_clearWithBoth 24 = .ok (.istore 6, 2) := by decide +kernel
theorem dX1_clearWithBoth_26 : decode cX1_clearWithBoth 26 = .ok (.iload 6, 2) := by decide +kernel
theorem dX1_clearWithBoth_28 : decode cX1_clearWithBoth 28 = .ok (.aload_n 0, 1) := by decide +kernel
theorem dX1_clearWithBoth_29 : decode cX1_clearWithBoth 29 = .ok (.getfield 27, 3) := by decide +kernel
theorem dX1_clearWithBoth_32 : decode cX1_clearWithBoth 32 = .ok (.iload 4, 2) := by decide +kernel
theorem dX1_clearWithBoth_34 : decode cX1_clearWithBoth 34 = .ok (.iaload, 1) := by decide +kernel
theorem dX1_clearWithBoth_35 : decode cX1_clearWithBoth 35 = .ok (.if_icmp .ge 40, 3) := by decide +kernel
theorem dX1_clearWithBoth_38 : decode cX1_clearWithBoth 38 = .ok (.iload_n 3, 1) := by decide +kernel
theorem dX1_clearWithBoth_39 : decode cX1_clearWithBoth 39 = .ok (.iload 5, 2) := by decide +kernel
theorem dX1_clearWithBoth_41 : decode cX1_clearWithBoth 41 = .ok (.if_icmp .ge 34, 3) := by decide +kernel
theorem dX1_clearWithBoth_44 : decode cX1_clearWithBoth 44 = .ok (.iload_n 3, 1) := by decide +kernel
theorem dX1_clearWithBoth_45 : decode cX1_clearWithBoth 45 = .ok (.iload 4, 2) := by decide +kernel
theorem dX1_clearWithBoth_47 : decode cX1_clearWithBoth 47 = .ok (.iload_n 3, 1) := by decide +kernel
theorem dX1_clearWithBoth_48 : decode cX1_clearWithBoth 48 = .ok (.iload_n 1, 1) := by decide +kernel
theorem dX1_clearWithBoth_49 : decode cX1_clearWithBoth 49 = .ok (.idiv, 1) := by decide +kernel
theorem dX1_clearWithBoth_50 : decode cX1_clearWithBoth 50 = .ok (.isub, 1) := by decide +kernel
theorem dX1_clearWithBoth_51 : decode cX1_clearWithBoth 51 = .ok (.iload_n 2, 1) := by decide +kernel
theorem dX1_clearWithBoth_52 : decode cX1_clearWithBoth 52 = .ok (.imul, 1) := by decide +kernel
theorem dX1_clearWithBoth_53 : decode cX1_clearWithBoth 53 = .ok (.iadd, 1) := by decide +kernel
theorem dX1_clearWithBoth_54 : decode cX1_clearWithBoth 54 = .ok (.istore 7, 2) := by decide +kernel
theorem dX1_clearWithBoth_56 : decode cX1_clearWithBoth 56 = .ok (.iload 5, 2) := by decide +kernel
theorem dX1_clearWithBoth_58 : decode cX1_clearWithBoth 58 = .ok (.iload 7, 2) := by decide +kernel
theorem dX1_clearWithBoth_60 : decode cX1_clearWithBoth 60 = .ok (.if_icmp .gt 6, 3) := by decide +kernel
theorem dX1_clearWithBoth_63 : decode cX1_clearWithBoth 63 = .ok (.iload 5, 2) := by decide +kernel
theorem dX1_clearWithBoth_65 : decode cX1_clearWithBoth 65 = .ok (.ireturn, 1) := by decide +kernel
theorem dX1_clearWithBoth_66 : decode cX1_clearWithBoth 66 = .ok (.iload 7, 2) := by decide +kernel
theorem dX1_clearWithBoth_68 : decode cX1_clearWithBoth 68 = .ok (.istore_n 3, 1) := by decide +kernel
theorem dX1_clearWithBoth_69 : decode cX1_clearWithBoth 69 = .ok (.iinc 6 1, 3) := by decide +kernel
theorem dX1_clearWithBoth_72 : decode cX1_clearWithBoth 72 = .ok (.goto (-46), 3) := by decide +kernel
theorem dX1_clearWithBoth_75 : decode cX1_clearWithBoth 75 = .ok (.iinc 4 (-1), 3) := by decide +kernel
theorem dX1_clearWithBoth_78 : decode cX1_clearWithBoth 78 = .ok (.goto (-66), 3) := by decide +kernel
theorem dX1_clearWithBoth_81 : decode cX1_clearWithBoth 81 = .ok (.iload_n 3, 1) := by decide +kernel
theorem dX1_clearWithBoth_82 : decode cX1_clearWithBoth 82 = .ok (.ireturn, 1) := by decide +kernel
theorem dX1_clearedByCups_0 : decode cX1_clearedByCups 0 = .ok (.iload_n 1, 1) := by decide +kernel
theorem dX1_clearedByCups_1 : decode cX1_clearedByCups 1 = .ok (.ifCond .gt 5, 3) := by decide +kernel
theorem dX1_clearedByCups_4 : decode cX1_clearedByCups 4 = .ok (.iconst 0, 1) := by decide +kernel
theorem dX1_clearedByCups_5 : decode cX1_clearedByCups 5 = .ok (.ireturn, 1) := by decide +kernel
theorem dX1_clearedByCups_6 : decode cX1_clearedByCups 6 = .ok (.iconst 0, 1) := by decide +kernel
theorem dX1_clearedByCups_7 : decode cX1_clearedByCups 7 = .ok (.istore_n 3, 1) := by decide +kernel
theorem dX1_clearedByCups_8 : decode cX1_clearedByCups 8 = .ok (.iload_n 2, 1) := by decide +kernel
theorem dX1_clearedByCups_9 : decode cX1_clearedByCups 9 = .ok (.istore 4, 2) := by decide +kernel
theorem dX1_clearedByCups_11 : decode cX1_clearedByCups 11 = .ok (.iconst 1, 1) := by decide +kernel
theorem dX1_clearedByCups_12 : decode cX1_clearedByCups 12 = .ok (.istore 5, 2) := by decide +kernel
theorem dX1_clearedByCups_14 : decode cX1_clearedByCups 14 = .ok (.iload 5, 2) := by decide +kernel
theorem dX1_clearedByCups_16 : decode cX1_clearedByCups 16 = .ok (.bipush 9, 2) := by decide +kernel
theorem dX1_clearedByCups_18 : decode cX1_clearedByCups 18 = .ok (.if_icmp .gt 60, 3) := by decide +kernel
theorem dX1_clearedByCups_21 : decode cX1_clearedByCups 21 = .ok (.iload 5, 2) := by decide +kernel
theorem dX1_clearedByCups_23 : decode cX1_clearedByCups 23 = .ok (.iload_n 1, 1) := by decide +kernel
theorem dX1_clearedByCups_24 : decode cX1_clearedByCups 24 = .ok (.iadd, 1) := by decide +kernel
theorem dX1_clearedByCups_25 : decode cX1_clearedByCups 25 = .ok (.iconst 1, 1) := by decide +kernel
theorem dX1_clearedByCups_26 : decode cX1_clearedByCups 26 = .ok (.isub, 1) := by decide +kernel
theorem dX1_clearedByCups_27 : decode cX1_clearedByCups 27 = .ok (.iload_n 1, 1) := by decide +kernel
theorem dX1_clearedByCups_28 : decode cX1_clearedByCups 28 = .ok (.idiv, 1) := by decide +kernel
theorem dX1_clearedByCups_29 : decode cX1_clearedByCups 29 = .ok (.istore 6, 2) := by decide +kernel
theorem dX1_clearedByCups_31 : decode cX1_clearedByCups 31 = .ok (.iload 6, 2) := by decide +kernel
theorem dX1_clearedByCups_33 : decode cX1_clearedByCups 33 = .ok (.ifCond .le 21, 3) := by decide +kernel
theorem dX1_clearedByCups_36 : decode cX1_clearedByCups 36 = .ok (.aload_n 0, 1) := by decide +kernel
theorem dX1_clearedByCups_37 : decode cX1_clearedByCups 37 = .ok (.getfield 27, 3) := by decide +kernel
theorem dX1_clearedByCups_40 : decode cX1_clearedByCups 40 = .ok (.iload 5, 2) := by decide +kernel
theorem dX1_clearedByCups_42 : decode cX1_clearedByCups 42 = .ok (.iaload, 1) := by decide +kernel
theorem dX1_clearedByCups_43 : decode cX1_clearedByCups 43 = .ok (.iload 4, 2) := by decide +kernel
theorem dX1_clearedByCups_45 : decode cX1_clearedByCups 45 = .ok (.iload 6, 2) := by decide +kernel
theorem dX1_clearedByCups_47 : decode cX1_clearedByCups 47 = .ok (.idiv, 1) := by decide +kernel
theorem dX1_clearedByCups_48 : decode cX1_clearedByCups 48 = .ok (.invokestatic 105, 3) := by decide +kernel
theorem dX1_clearedByCups_51 : decode cX1_clearedByCups 51 = .ok (.goto 4, 3) := by decide +kernel
theorem dX1_clearedByCups_54 : decode cX1_clearedByCups 54 = .ok (.iconst 0, 1) := by decide +kernel
theorem dX1_clearedByCups_55 : decode cX1_clearedByCups 55 = .ok (.istore 7, 2) := by decide +kernel
theorem dX1_clearedByCups_57 : decode cX1_clearedByCups 57 = .ok (.iload_n 3, 1) := by decide +kernel
theorem dX1_clearedByCups_58 : decode cX1_clearedByCups 58 = .ok (.iload 7, 2) := by decide +kernel
theorem dX1_clearedByCups_60 : decode cX1_clearedByCups 60 = .ok (.iadd, 1) := by decide +kernel
theorem dX1_clearedByCups_61 : decode cX1_clearedByCups 61 = .ok (.istore_n 3, 1) := by decide +kernel
theorem dX1_clearedByCups_62 : decode cX1_clearedByCups 62 = .ok (.iload 4, 2) := by decide +kernel
theorem dX1_clearedByCups_64 : decode cX1_clearedByCups 64 = .ok (.iload 7, 2) := by decide +kernel
theorem dX1_clearedByCups_66 : decode cX1_clearedByCups 66 = .ok (.iload 6, 2) := by decide +kernel
theorem dX1_clearedByCups_68 : decode cX1_clearedByCups 68 = .ok (.imul, 1) := by decide +kernel
theorem dX1_clearedByCups_69 : decode cX1_clearedByCups 69 = .ok (.isub, 1) := by decide +kernel
theorem dX1_clearedByCups_70 : decode cX1_clearedByCups 70 = .ok (.istore 4, 2) := by decide +kernel
theorem dX1_clearedByCups_72 : decode cX1_clearedByCups 72 = .ok (.iinc 5 1, 3) := by decide +kernel
theorem dX1_clearedByCups_75 : decode cX1_clearedByCups 75 = .ok (.goto (-61), 3) := by decide +kernel
theorem dX1_clearedByCups_78 : decode cX1_clearedByCups 78 = .ok (.iload_n 3, 1) := by decide +kernel
theorem dX1_clearedByCups_79 : decode cX1_clearedByCups 79 = .ok (.ireturn, 1) := by decide +kernel
theorem dX2_init_0 : decode cX2_init 0 = .ok (.aload_n 0, 1) := by decide +kernel
theorem dX2_init_1 : decode cX2_init 1 = .ok (.invokespecial 3, 3) := by decide +kernel
theorem dX2_init_4 : decode cX2_init 4 = .ok (.aload_n 0, 1) := by decide +kernel
theorem dX2_init_5 : decode cX2_init 5 = .ok (.new 9, 3) := by decide +kernel
theorem dX2_init_8 : decode cX2_init 8 = .ok (.dup, 1) := by decide +kernel
theorem dX2_init_9 : decode cX2_init 9 = .ok (.bipush 35, 2) := by decide +kernel
theorem dX2_init_11 : decode cX2_init 11 = .ok (.invokespecial 11, 3) := by decide +kernel
theorem dX2_init_14 : decode cX2_init 14 = .ok (.putfield 14, 3) := by decide +kernel
theorem dX2_init_17 : decode cX2_init 17 = .ok (.aload_n 0, 1) := by decide +kernel
theorem dX2_init_18 : decode cX2_init 18 = .ok (.bipush 32, 2) := by decide +kernel
theorem dX2_init_20 : decode cX2_init 20 = .ok (.newarray .int, 2) := by decide +kernel
theorem dX2_init_22 : decode cX2_init 22 = .ok (.putfield 20, 3) := by decide +kernel
theorem dX2_init_25 : decode cX2_init 25 = .ok (.aload_n 0, 1) := by decide +kernel
theorem dX2_init_26 : decode cX2_init 26 = .ok (.iconst (-1), 1) := by decide +kernel
theorem dX2_init_27 : decode cX2_init 27 = .ok (.putfield 24, 3) := by decide +kernel
theorem dX2_init_30 : decode cX2_init 30 = .ok (.aload_n 0, 1) := by decide +kernel
theorem dX2_init_31 : decode cX2_init 31 = .ok (.iconst 0, 1) := by decide +kernel
theorem dX2_init_32 : decode cX2_init 32 = .ok (.putfield 28, 3) := by decide +kernel
theorem dX2_init_35 : decode cX2_init 35 = .ok (.aload_n 0, 1) := by decide +kernel
theorem dX2_init_36 : decode cX2_init 36 = .ok (.iconst 0, 1) := by decide +kernel
theorem dX2_init_37 : decode cX2_init 37 = .ok (.putfield 31, 3) := by decide +kernel
theorem dX2_init_40 : decode cX2_init 40 = .ok (.aload_n 0, 1) := by decide +kernel
theorem dX2_init_41 : decode cX2_init 41 = .ok (.iconst 0, 1) := by decide +kernel
theorem dX2_init_42 : decode cX2_init 42 = .ok (.putfield 34, 3) := by decide +kernel
theorem dX2_init_45 : decode cX2_init 45 = .ok (.aload_n 0, 1) := by decide +kernel
theorem dX2_init_46 : decode cX2_init 46 = .ok (.getfield 20, 3) := by decide +kernel
theorem dX2_init_49 : decode cX2_init 49 = .ok (.iconst (-1), 1) := by decide +kernel
theorem dX2_init_50 : decode cX2_init 50 = .ok (.invokestatic 37, 3) := by decide +kernel
theorem dX2_init_53 : decode cX2_init 53 = .ok (.return_, 1) := by decide +kernel
theorem dX2_reread_0 : decode cX2_reread 0 = .ok (.aload_n 0, 1) := by decide +kernel
theorem dX2_reread_1 : decode cX2_reread 1 = .ok (.invokevirtual 43, 3) := by decide +kernel
theorem dX2_reread_4 : decode cX2_reread 4 = .ok (.aload_n 0, 1) := by decide +kernel
theorem dX2_reread_5 : decode cX2_reread 5 = .ok (.aload_n 0, 1) := by decide +kernel
theorem dX2_reread_6 : decode cX2_reread 6 = .ok (.invokevirtual 46, 3) := by decide +kernel
theorem dX2_reread_9 : decode cX2_reread 9 = .ok (.putfield 24, 3) := by decide +kernel
theorem dX2_reread_12 : decode cX2_reread 12 = .ok (.aload_n 0, 1) := by decide +kernel
theorem dX2_reread_13 : decode cX2_reread 13 = .ok (.getfield 24, 3) := by decide +kernel
theorem dX2_reread_16 : decode cX2_reread 16 = .ok (.iconst (-1), 1) := by decide +kernel
theorem dX2_reread_17 : decode cX2_reread 17 = .ok (.if_icmp .eq 7, 3) := by decide +kernel
theorem dX2_reread_20 : decode cX2_reread 20 = .ok (.aload_n 0, 1) := by decide +kernel
theorem dX2_reread_21 : decode cX2_reread 21 = .ok (.invokevirtual 43, 3) := by decide +kernel
theorem dX2_reread_24 : decode cX2_reread 24 = .ok (.return_, 1) := by decide +kernel
theorem dX2_empty_0 : decode cX2_empty 0 = .ok (.aload_n 0, 1) := by decide +kernel
theorem dX2_empty_1 : decode cX2_empty 1 = .ok (.getfield 20, 3) := by decide +kernel
theorem dX2_empty_4 : decode cX2_empty 4 = .ok (.iconst (-1), 1) := by decide +kernel
theorem dX2_empty_5 : decode cX2_empty 5 = .ok (.invokestatic 37, 3) := by decide +kernel
theorem dX2_empty_8 : decode cX2_empty 8 = .ok (.aload_n 0, 1) := by decide +kernel
theorem dX2_empty_9 : decode cX2_empty 9 = .ok (.iconst 0, 1) := by decide +kernel
theorem dX2_empty_10 : decode cX2_empty 10 = .ok (.putfield 28, 3) := by decide +kernel
theorem dX2_empty_13 : decode cX2_empty 13 = .ok (.aload_n 0, 1) := by decide +kernel
theorem dX2_empty_14 : decode cX2_empty 14 = .ok (.iconst 0, 1) := by decide +kernel
theorem dX2_empty_15 : decode cX2_empty 15 = .ok (.putfield 31, 3) := by decide +kernel
theorem dX2_empty_18 : decode cX2_empty 18 = .ok (.aload_n 0, 1) := by decide +kernel
theorem dX2_empty_19 : decode cX2_empty 19 = .ok (.iconst 0, 1) := by decide +kernel
theorem dX2_empty_20 : decode cX2_empty 20 = .ok (.putfield 34, 3) := by decide +kernel
theorem dX2_empty_23 : decode cX2_empty 23 = .ok (.return_, 1) := by decide +kernel
theorem dX2_readRows_0 : decode cX2_readRows 0 = .ok (.iconst 0, 1) := by decide +kernel
theorem dX2_readRows_1 : decode cX2_readRows 1 = .ok (.istore_n 1, 1) := by decide +kernel
theorem dX2_readRows_2 : decode cX2_readRows 2 = .ok (.iconst 0, 1) := by decide +kernel
theorem dX2_readRows_3 : decode cX2_readRows 3 = .ok (.istore_n 2, 1) := by decide +kernel
theorem dX2_readRows_4 : decode cX2_readRows 4 = .ok (.bipush 8, 2) := by decide +kernel
theorem dX2_readRows_6 : decode cX2_readRows 6 = .ok (.istore_n 3, 1) := by decide +kernel
theorem dX2_readRows_7 : decode cX2_readRows 7 = .ok (.iconst 0, 1) := by decide +kernel
theorem dX2_readRows_8 : decode cX2_readRows 8 = .ok (.istore 4, 2) := by decide +kernel
theorem dX2_readRows_10 : decode cX2_readRows 10 = .ok (.iload 4, 2) := by decide +kernel
theorem dX2_readRows_12 : decode cX2_readRows 12 = .ok (.aload_n 0, 1) := by decide +kernel
theorem dX2_readRows_13 : decode cX2_readRows 13 = .ok (.getfield 14, 3) := by decide +kernel
theorem dX2_readRows_16 : decode cX2_readRows 16 = .ok (.getfield 50, 3) := by decide +kernel
theorem dX2_readRows_19 : decode cX2_readRows 19 = .ok (.if_icmp .ge 101, 3) := by decide +kernel
theorem dX2_readRows_22 : decode cX2_readRows 22 = .ok (.aload_n 0, 1) := by decide +kernel
theorem dX2_readRows_23 : decode cX2_readRows 23 = .ok (.getfield 14, 3) := by decide +kernel
theorem dX2_readRows_26 : decode cX2_readRows 26 = .ok (.getfield 53, 3) := by decide +kernel
theorem dX2_readRows_29 : decode cX2_readRows 29 = .ok (.iload 4, 2) := by decide +kernel
theorem dX2_readRows_31 : decode cX2_readRows 31 = .ok (.iaload, 1) := by decide +kernel
theorem dX2_readRows_32 : decode cX2_readRows 32 = .ok (.istore 5, 2) := by decide +kernel
theorem dX2_readRows_34 : decode cX2_readRows 34 = .ok (.iload 5, 2) := by decide +kernel
theorem dX2_readRows_36 : decode cX2_readRows 36 = .ok (.bipush 59, 2) := by decide +kernel
theorem dX2_readRows_38 : decode cX2_readRows 38 = .ok (.if_icmp .ne 33, 3) := by decide +kernel
theorem dX2_readRows_41 : decode cX2_readRows 41 = .ok (.iload_n 1, 1) := by decide +kernel
theorem dX2_readRows_42 : decode cX2_readRows 42 = .ok (.iload_n 2, 1) := by decide +kernel
theorem dX2_readRows_43 : decode cX2_readRows 43 = .ok (.iload_n 3, 1) := by decide +kernel
theorem dX2_readRows_44 : decode cX2_readRows 44 = .ok (.invokestatic 56, 3) := by decide +kernel
theorem dX2_readRows_47 : decode cX2_readRows 47 = .ok (.ifCond .ne 6, 3) := by decide +kernel
theorem dX2_readRows_50 : decode cX2_readRows 50 = .ok (.iload 4, 2) := by decide +kernel
theorem dX2_readRows_52 : decode cX2_readRows 52 = .ok (.ireturn, 1) := by decide +kernel
theorem dX2_readRows_53 : decode cX2_readRows 53 = .ok (.iload_n 1, 1) := by decide +kernel
theorem dX2_readRows_54 : decode cX2_readRows 54 = .ok (.ifCond .ne 7, 3) := by decide +kernel
theorem dX2_readRows_57 : decode cX2_readRows 57 = .ok (.iload_n 2, 1) := by decide +kernel
theorem dX2_readRows_58 : decode cX2_readRows 58 = .ok (.goto 4, 3) := by decide +kernel
theorem dX2_readRows_61 : decode cX2_readRows 61 = .ok (.iload_n 3, 1) := by decide +kernel
theorem dX2_readRows_62 : decode cX2_readRows 62 = .ok (.istore_n 3, 1) := by decide +kernel
theorem dX2_readRows_63 : decode cX2_readRows 63 = .ok (.iinc 1 1, 3) := by decide +kernel
theorem dX2_readRows_66 : decode cX2_readRows 66 = .ok (.iconst 0, 1) := by decide +kernel
theorem dX2_readRows_67 : decode cX2_readRows 67 = .ok (.istore_n 2, 1) := by decide +kernel
theorem dX2_readRows_68 : decode cX2_readRows 68 = .ok (.goto 46, 3) := by decide +kernel
theorem dX2_readRows_71 : decode cX2_readRows 71 = .ok (.iload 5, 2) := by decide +kernel
theorem dX2_readRows_73 : decode cX2_readRows 73 = .ok (.bipush 48, 2) := by decide +kernel
theorem dX2_readRows_75 : decode cX2_readRows 75 = .ok (.bipush 57, 2) := by decide +kernel
theorem dX2_readRows_77 : decode cX2_readRows 77 = .ok (.invokestatic 60, 3) := by decide +kernel
theorem dX2_readRows_80 : decode cX2_readRows 80 = .ok (.ifCond .eq 13, 3) := by decide +kernel
theorem dX2_readRows_83 : decode cX2_readRows 83 = .ok (.iload_n 1, 1) := by decide +kernel
theorem dX2_readRows_84 : decode cX2_readRows 84 = .ok (.iconst 4, 1) := by decide +kernel
theorem dX2_readRows_85 : decode cX2_readRows 85 = .ok (.if_icmp .ge 8, 3) := by decide +kernel
theorem dX2_readRows_88 : decode cX2_readRows 88 = .ok (.iload_n 2, 1) := by decide +kernel
theorem dX2_readRows_89 : decode cX2_readRows 89 = .ok (.iload_n 3, 1) := by decide +kernel
theorem dX2_readRows_90 : decode cX2_readRows 90 = .ok (.if_icmp .lt 6, 3) := by decide +kernel
theorem dX2_readRows_93 : decode cX2_readRows 93 = .ok (.iload 4, 2) := by decide +kernel
theorem dX2_readRows_95 : decode cX2_readRows 95 = .ok (.ireturn, 1) := by decide +kernel
theorem dX2_readRows_96 : decode cX2_readRows 96 = .ok (.aload_n 0, 1) := by decide +kernel
theorem dX2_readRows_97 : decode cX2_readRows 97 = .ok (.bipush 8, 2) := by decide +kernel
theorem dX2_readRows_99 : decode cX2_readRows 99 = .ok (.iload_n 1, 1) := by decide +kernel
theorem dX2_readRows_100 : decode cX2_readRows 100 = .ok (.imul, 1) := by decide +kernel
theorem dX2_readRows_101 : decode cX2_readRows 101 = .ok (.iload_n 2, 1) := by decide +kernel
theorem dX2_readRows_102 : decode cX2_readRows 102 = .ok (.iadd, 1) := by decide +kernel
theorem dX2_readRows_103 : decode cX2_readRows 103 = .ok (.iload 5, 2) := by decide +kernel
theorem dX2_readRows_105 : decode cX2_readRows 105 = .ok (.bipush 48, 2) := by decide +kernel
theorem dX2_readRows_107 : decode cX2_readRows 107 = .ok (.isub, 1) := by decide +kernel
theorem dX2_readRows_108 : decode cX2_readRows 108 = .ok (.invokevirtual 63, 3) := by decide +kernel
theorem dX2_readRows_111 : decode cX2_readRows 111 = .ok (.iinc 2 1, 3) := by decide +kernel
theorem dX2_readRows_114 : decode cX2_readRows 114 = .ok (.iinc 4 1, 3) := by decide +kernel
theorem dX2_readRows_117 : decode cX2_readRows 117 = .ok (.goto (-107), 3) := by decide +kernel
theorem dX2_readRows_120 : decode cX2_readRows 120 = .ok (.aload_n 0, 1) := by decide +kernel
theorem dX2_readRows_121 : decode cX2_readRows 121 = .ok (.getfield 14, 3) := by decide +kernel
theorem dX2_readRows_124 : decode cX2_readRows 124 = .ok (.getfield 50, 3) := by decide +kernel
theorem dX2_readRows_127 : decode cX2_readRows 127 = .ok (.ifCond .eq 12, 3) := by decide +kernel
theorem dX2_readRows_130 : decode cX2_readRows 130 = .ok (.iload_n 1, 1) := by decide +kernel
theorem dX2_readRows_131 : decode cX2_readRows 131 = .ok (.iload_n 2, 1) := by decide +kernel
theorem dX2_readRows_132 : decode cX2_readRows 132 = .ok (.iload_n 3, 1) := by decide +kernel
theorem dX2_readRows_133 : decode cX2_readRows 133 = .ok (.invokestatic 56, 3) := by decide +kernel
theorem dX2_readRows_136 : decode cX2_readRows 136 = .ok (.ifCond .eq 7, 3) := by decide +kernel
theorem dX2_readRows_139 : decode cX2_readRows 139 = .ok (.iconst (-1), 1) := by decide +kernel
theorem dX2_readRows_140 : decode cX2_readRows 140 = .ok (.goto 10, 3) := by decide +kernel
theorem dX2_readRows_143 : decode cX2_readRows 143 = .ok (.aload_n 0, 1) := by decide +kernel
theorem dX2_readRows_144 : decode cX2_readRows 144 = .ok (.getfield 14, 3) := by decide +kernel
theorem dX2_readRows_147 : decode cX2_readRows 147 = .ok (.getfield 50, 3) := by decide +kernel
theorem dX2_readRows_150 : decode cX2_readRows 150 = .ok (.ireturn, 1) := by decide +kernel
theorem dX2_mayEnd_0 : decode cX2_mayEnd 0 = .ok (.iload_n 0, 1) := by decide +kernel
theorem dX2_mayEnd_1 : decode cX2_mayEnd 1 = .ok (.ifCond .ne 13, 3) := by decide +kernel
theorem dX2_mayEnd_4 : decode cX2_mayEnd 4 = .ok (.iload_n 1, 1) := by decide +kernel
theorem dX2_mayEnd_5 : decode cX2_mayEnd 5 = .ok (.ifCond .le 7, 3) := by decide +kernel
theorem dX2_mayEnd_8 : decode cX2_mayEnd 8 = .ok (.iconst 1, 1) := by decide +kernel
theorem dX2_mayEnd_9 : decode cX2_mayEnd 9 = .ok (.goto 4, 3) := by decide +kernel
theorem dX2_mayEnd_12 : decode cX2_mayEnd 12 = .ok (.iconst 0, 1) := by decide +kernel
theorem dX2_mayEnd_13 : decode cX2_mayEnd 13 = .ok (.ireturn, 1) := by decide +kernel
theorem dX2_mayEnd_14 : decode cX2_mayEnd 14 = .ok (.iload_n 0, 1) := by decide +kernel
theorem dX2_mayEnd_15 : decode cX2_mayEnd 15 = .ok (.iconst 4, 1) := by decide +kernel
theorem dX2_mayEnd_16 : decode cX2_mayEnd 16 = .ok (.if_icmp .ge 12, 3) := by decide +kernel
theorem dX2_mayEnd_19 : decode cX2_mayEnd 19 = .ok (.iload_n 1, 1) := by decide +kernel
theorem dX2_mayEnd_20 : decode cX2_mayEnd 20 = .ok (.iload_n 2, 1) := by decide +kernel
theorem dX2_mayEnd_21 : decode cX2_mayEnd 21 = .ok (.if_icmp .ne 7, 3) := by decide +kernel
theorem dX2_mayEnd_24 : decode cX2_mayEnd 24 = .ok (.iconst 1, 1) := by decide +kernel
theorem dX2_mayEnd_25 : decode cX2_mayEnd 25 = .ok (.goto 4, 3) := by decide +kernel
theorem dX2_mayEnd_28 : decode cX2_mayEnd 28 = .ok (.iconst 0, 1) := by decide +kernel
theorem dX2_mayEnd_29 : decode cX2_mayEnd 29 = .ok (.ireturn, 1) := by decide +kernel
theorem dX2_addCell_0 : decode cX2_addCell 0 = .ok (.iload_n 1, 1) := by decide +kernel
theorem dX2_addCell_1 : decode cX2_addCell 1 = .ok (.invokestatic 67, 3) := by decide +kernel
theorem dX2_addCell_4 : decode cX2_addCell 4 = .ok (.ifCond .ne 4, 3) := by decide +kernel
theorem dX2_addCell_7 : decode cX2_addCell 7 = .ok (.return_, 1) := by decide +kernel
theorem dX2_addCell_8 : decode cX2_addCell 8 = .ok (.aload_n 0, 1) := by decide +kernel
theorem dX2_addCell_9 : decode cX2_addCell 9 = .ok (.getfield 20, 3) := by decide +kernel
theorem dX2_addCell_12 : decode cX2_addCell 12 = .ok (.iload_n 1, 1) := by decide +kernel
theorem dX2_addCell_13 : decode cX2_addCell 13 = .ok (.iload_n 2, 1) := by decide +kernel
theorem dX2_addCell_14 : decode cX2_addCell 14 = .ok (.iastore, 1) := by decide +kernel
theorem dX2_addCell_15 : decode cX2_addCell 15 = .ok (.aload_n 0, 1) := by decide +kernel
theorem dX2_addCell_16 : decode cX2_addCell 16 = .ok (.dup, 1) := by decide +kernel
theorem dX2_addCell_17 : decode cX2_addCell 17 = .ok (.getfield 28, 3) := by decide +kernel
theorem dX2_addCell_20 : decode cX2_addCell 20 = .ok (.iconst 1, 1) := by decide +kernel
theorem dX2_addCell_21 : decode cX2_addCell 21 = .ok (.iadd, 1) := by decide +kernel
theorem dX2_addCell_22 : decode cX2_addCell 22 = .ok (.putfield 28, 3) := by decide +kernel
theorem dX2_addCell_25 : decode cX2_addCell 25 = .ok (.aload_n 0, 1) := by decide +kernel
theorem dX2_addCell_26 : decode cX2_addCell 26 = .ok (.dup, 1) := by decide +kernel
theorem dX2_addCell_27 : decode cX2_addCell 27 = .ok (.getfield 31, 3) := by decide +kernel
theorem dX2_addCell_30 : decode cX2_addCell 30 = .ok (.iload_n 2, 1) := by decide +kernel
theorem dX2_addCell_31 : decode cX2_addCell 31 = .ok (.iadd, 1) := by decide +kernel
theorem dX2_addCell_32 : decode cX2_addCell 32 = .ok (.putfield 31, 3) := by decide +kernel
theorem dX2_addCell_35 : decode cX2_addCell 35 = .ok (.aload_n 0, 1) := by decide +kernel
theorem dX2_addCell_36 : decode cX2_addCell 36 = .ok (.dup, 1) := by decide +kernel
theorem dX2_addCell_37 : decode cX2_addCell 37 = .ok (.getfield 34, 3) := by decide +kernel
theorem dX2_addCell_40 : decode cX2_addCell 40 = .ok (.iload_n 2, 1) := by decide +kernel
theorem dX2_addCell_41 : decode cX2_addCell 41 = .ok (.ifCond .ne 7, 3) := by decide +kernel
theorem dX2_addCell_44 : decode cX2_addCell 44 = .ok (.iconst 1, 1) := by decide +kernel
theorem dX2_addCell_45 : decode cX2_addCell 45 = .ok (.goto 4, 3) := by decide +kernel
theorem dX2_addCell_48 : decode cX2_addCell 48 = .ok (.iconst 0, 1) := by decide +kernel
theorem dX2_addCell_49 : decode cX2_addCell 49 = .ok (.iadd, 1) := by decide +kernel
theorem dX2_addCell_50 : decode cX2_addCell 50 = .ok (.putfield 34, 3) := by decide +kernel
theorem dX2_addCell_53 : decode cX2_addCell 53 = .ok (.return_, 1) := by decide +kernel
theorem dX2_stepsUp_0 : decode cX2_stepsUp 0 = .ok (.iconst 0, 1) := by decide +kernel
theorem dX2_stepsUp_1 : decode cX2_stepsUp 1 = .ok (.istore_n 2, 1) := by decide +kernel
theorem dX2_stepsUp_2 : decode cX2_stepsUp 2 = .ok (.iconst 1, 1) := by decide +kernel
theorem dX2_stepsUp_3 : decode cX2_stepsUp 3 = .ok (.istore_n 3, 1) := by decide +kernel
theorem dX2_stepsUp_4 : decode cX2_stepsUp 4 = .ok (.iload_n 3, 1) := by decide +kernel
theorem dX2_stepsUp_5 : decode cX2_stepsUp 5 = .ok (.bipush 32, 2) := by decide +kernel
theorem dX2_stepsUp_7 : decode cX2_stepsUp 7 = .ok (.if_icmp .ge 67, 3) := by decide +kernel
theorem dX2_stepsUp_10 : decode cX2_stepsUp 10 = .ok (.iload_n 3, 1) := by decide +kernel
theorem dX2_stepsUp_11 : decode cX2_stepsUp 11 = .ok (.bipush 8, 2) := by decide +kernel
theorem dX2_stepsUp_13 : decode cX2_stepsUp 13 = .ok (.irem, 1) := by decide +kernel
theorem dX2_stepsUp_14 : decode cX2_stepsUp 14 = .ok (.ifCond .eq 54, 3) := by decide +kernel
theorem dX2_stepsUp_17 : decode cX2_stepsUp 17 = .ok (.aload_n 0, 1) := by decide +kernel
theorem dX2_stepsUp_18 : decode cX2_stepsUp 18 = .ok (.getfield 20, 3) := by decide +kernel
theorem dX2_stepsUp_21 : decode cX2_stepsUp 21 = .ok (.iload_n 3, 1) := by decide +kernel
theorem dX2_stepsUp_22 : decode cX2_stepsUp 22 = .ok (.iaload, 1) := by decide +kernel
theorem dX2_stepsUp_23 : decode cX2_stepsUp 23 = .ok (.iconst (-1), 1) := by decide +kernel
theorem dX2_stepsUp_24 : decode cX2_stepsUp 24 = .ok (.if_icmp .eq 44, 3) := by decide +kernel
theorem dX2_stepsUp_27 : decode cX2_stepsUp 27 = .ok (.iload_n 1, 1) := by decide +kernel
theorem dX2_stepsUp_28 : decode cX2_stepsUp 28 = .ok (.aload_n 0, 1) := by decide +kernel
theorem dX2_stepsUp_29 : decode cX2_stepsUp 29 = .ok (.getfield 20, 3) := by decide +kernel
theorem dX2_stepsUp_32 : decode cX2_stepsUp 32 = .ok (.iload_n 3, 1) := by decide +kernel
theorem dX2_stepsUp_33 : decode cX2_stepsUp 33 = .ok (.iaload, 1) := by decide +kernel
theorem dX2_stepsUp_34 : decode cX2_stepsUp 34 = .ok (.aload_n 0, 1) := by decide +kernel
theorem dX2_stepsUp_35 : decode cX2_stepsUp 35 = .ok (.getfield 20, 3) := by decide +kernel
theorem dX2_stepsUp_38 : decode cX2_stepsUp 38 = .ok (.iload_n 3, 1) := by decide +kernel
theorem dX2_stepsUp_39 : decode cX2_stepsUp 39 = .ok (.iconst 1, 1) := by decide +kernel
theorem dX2_stepsUp_40 : decode cX2_stepsUp 40 = .ok (.isub, 1) := by decide +kernel
theorem dX2_stepsUp_41 : decode cX2_stepsUp 41 = .ok (.iaload, 1) := by decide +kernel
theorem dX2_stepsUp_42 : decode cX2_stepsUp 42 = .ok (.isub, 1) := by decide +kernel
theorem dX2_stepsUp_43 : decode cX2_stepsUp 43 = .ok (.imul, 1) := by decide +kernel
theorem dX2_stepsUp_44 : decode cX2_stepsUp 44 = .ok (.istore 4, 2) := by decide +kernel
theorem dX2_stepsUp_46 : decode cX2_stepsUp 46 = .ok (.iload 4, 2) := by decide +kernel
theorem dX2_stepsUp_48 : decode cX2_stepsUp 48 = .ok (.ifCond .ge 5, 3) := by decide +kernel
theorem dX2_stepsUp_51 : decode cX2_stepsUp 51 = .ok (.iconst 0, 1) := by decide +kernel
theorem dX2_stepsUp_52 : decode cX2_stepsUp 52 = .ok (.ireturn, 1) := by decide +kernel
theorem dX2_stepsUp_53 : decode cX2_stepsUp 53 = .ok (.iload_n 2, 1) := by decide +kernel
theorem dX2_stepsUp_54 : decode cX2_stepsUp 54 = .ok (.ifCond .ne 8, 3) := by decide +kernel
theorem dX2_stepsUp_57 : decode cX2_stepsUp 57 = .ok (.iload 4, 2) := by decide +kernel
theorem dX2_stepsUp_59 : decode cX2_stepsUp 59 = .ok (.ifCond .le 7, 3) := by decide +kernel
theorem dX2_stepsUp_62 : decode cX2_stepsUp 62 = .ok (.iconst 1, 1) := by decide +kernel
theorem dX2_stepsUp_63 : decode cX2_stepsUp 63 = .ok (.goto 4, 3) := by decide +kernel
theorem dX2_stepsUp_66 : decode cX2_stepsUp 66 = .ok (.iconst 0, 1) := by decide +kernel
theorem dX2_stepsUp_67 : decode cX2_stepsUp 67 = .ok (.istore_n 2, 1) := by decide +kernel
theorem dX2_stepsUp_68 : decode cX2_stepsUp 68 = .ok (.iinc 3 1, 3) := by decide +kernel
theorem dX2_stepsUp_71 : decode cX2_stepsUp 71 = .ok (.goto (-67), 3) := by decide +kernel
theorem dX2_stepsUp_74 : decode cX2_stepsUp 74 = .ok (.iload_n 2, 1) := by decide +kernel
theorem dX2_stepsUp_75 : decode cX2_stepsUp 75 = .ok (.ireturn, 1) := by decide +kernel
theorem dX3_init_0 : decode cX3_init 0 = .ok (.aload_n 0, 1) := by decide +kernel
theorem dX3_init_1 : decode cX3_init 1 = .ok (.invokespecial 3, 3) := by decide +kernel
theorem dX3_init_4 : decode cX3_init 4 = .ok (.aload_n 0, 1) := by decide +kernel
theorem dX3_init_5 : decode cX3_init 5 = .ok (.new 9, 3) := by decide +kernel
theorem dX3_init_8 : decode cX3_init 8 = .ok (.dup, 1) := by decide +kernel
theorem dX3_init_9 : decode cX3_init 9 = .ok (.bipush 40, 2) := by decide +kernel
theorem dX3_init_11 : decode cX3_init 11 = .ok (.invokespecial 11, 3) := by decide +kernel
theorem dX3_init_14 : decode cX3_init 14 = .ok (.putfield 14, 3) := by decide +kernel
theorem dX3_init_17 : decode cX3_init 17 = .ok (.aload_n 0, 1) := by decide +kernel
theorem dX3_init_18 : decode cX3_init 18 = .ok (.iconst 5, 1) := by decide +kernel
theorem dX3_init_19 : decode cX3_init 19 = .ok (.newarray .int, 2) := by decide +kernel
theorem dX3_init_21 : decode cX3_init 21 = .ok (.putfield 20, 3) := by decide +kernel
theorem dX3_init_24 : decode cX3_init 24 = .ok (.aload_n 0, 1) := by decide +kernel
theorem dX3_init_25 : decode cX3_init 25 = .ok (.iconst (-1), 1) := by decide +kernel
theorem dX3_init_26 : decode cX3_init 26 = .ok (.putfield 24, 3) := by decide +kernel
theorem dX3_init_29 : decode cX3_init 29 = .ok (.aload_n 0, 1) := by decide +kernel
theorem dX3_init_30 : decode cX3_init 30 = .ok (.iconst 0, 1) := by decide +kernel
theorem dX3_init_31 : decode cX3_init 31 = .ok (.putfield 28, 3) := by decide +kernel
theorem dX3_init_34 : decode cX3_init 34 = .ok (.return_, 1) := by decide +kernel
theorem dX3_reread_0 : decode cX3_reread 0 = .ok (.aload_n 0, 1) := by decide +kernel
theorem dX3_reread_1 : decode cX3_reread 1 = .ok (.getfield 20, 3) := by decide +kernel
theorem dX3_reread_4 : decode cX3_reread 4 = .ok (.iconst 0, 1) := by decide +kernel
theorem dX3_reread_5 : decode cX3_reread 5 = .ok (.invokestatic 31, 3) := by decide +kernel
theorem dX3_reread_8 : decode cX3_reread 8 = .ok (.aload_n 0, 1) := by decide +kernel
theorem dX3_reread_9 : decode cX3_reread 9 = .ok (.iconst (-1), 1) := by decide +kernel
theorem dX3_reread_10 : decode cX3_reread 10 = .ok (.putfield 24, 3) := by decide +kernel
theorem dX3_reread_13 : decode cX3_reread 13 = .ok (.iconst 0, 1) := by decide +kernel
theorem dX3_reread_14 : decode cX3_reread 14 = .ok (.istore_n 1, 1) := by decide +kernel
theorem dX3_reread_15 : decode cX3_reread 15 = .ok (.iload_n 1, 1) := by decide +kernel
theorem dX3_reread_16 : decode cX3_reread 16 = .ok (.aload_n 0, 1) := by decide +kernel
theorem dX3_reread_17 : decode cX3_reread 17 = .ok (.getfield 14, 3) := by decide +kernel
theorem dX3_reread_20 : decode cX3_reread 20 = .ok (.getfield 37, 3) := by decide +kernel
theorem dX3_reread_23 : decode cX3_reread 23 = .ok (.if_icmp .ge 55, 3) := by decide +kernel
theorem dX3_reread_26 : decode cX3_reread 26 = .ok (.aload_n 0, 1) := by decide +kernel
theorem dX3_reread_27 : decode cX3_reread 27 = .ok (.getfield 24, 3) := by decide +kernel
theorem dX3_reread_30 : decode cX3_reread 30 = .ok (.iconst (-1), 1) := by decide +kernel
theorem dX3_reread_31 : decode cX3_reread 31 = .ok (.if_icmp .ne 47, 3) := by decide +kernel
theorem dX3_reread_34 : decode cX3_reread 34 = .ok (.aload_n 0, 1) := by decide +kernel
theorem dX3_reread_35 : decode cX3_reread 35 = .ok (.getfield 14, 3) := by decide +kernel
theorem dX3_reread_38 : decode cX3_reread 38 = .ok (.getfield 40, 3) := by decide +kernel
theorem dX3_reread_41 : decode cX3_reread 41 = .ok (.iload_n 1, 1) := by decide +kernel
theorem dX3_reread_42 : decode cX3_reread 42 = .ok (.iaload, 1) := by decide +kernel
theorem dX3_reread_43 : decode cX3_reread 43 = .ok (.invokestatic 43, 3) := by decide +kernel
theorem dX3_reread_46 : decode cX3_reread 46 = .ok (.istore_n 2, 1) := by decide +kernel
theorem dX3_reread_47 : decode cX3_reread 47 = .ok (.iload_n 2, 1) := by decide +kernel
theorem dX3_reread_48 : decode cX3_reread 48 = .ok (.invokestatic 47, 3) := by decide +kernel
theorem dX3_reread_51 : decode cX3_reread 51 = .ok (.ifCond .eq 16, 3) := by decide +kernel
theorem dX3_reread_54 : decode cX3_reread 54 = .ok (.aload_n 0, 1) := by decide +kernel
theorem dX3_reread_55 : decode cX3_reread 55 = .ok (.getfield 20, 3) := by decide +kernel
theorem dX3_reread_58 : decode cX3_reread 58 = .ok (.iload_n 2, 1) := by decide +kernel
theorem dX3_reread_59 : decode cX3_reread 59 = .ok (.dup2, 1) := by decide +kernel
theorem dX3_reread_60 : decode cX3_reread 60 = .ok (.iaload, 1) := by decide +kernel
theorem dX3_reread_61 : decode cX3_reread 61 = .ok (.iconst 1, 1) := by decide +kernel
theorem dX3_reread_62 : decode cX3_reread 62 = .ok (.iadd, 1) := by decide +kernel
theorem dX3_reread_63 : decode cX3_reread 63 = .ok (.iastore, 1) := by decide +kernel
theorem dX3_reread_64 : decode cX3_reread 64 = .ok (.goto 8, 3) := by decide +kernel
theorem dX3_reread_67 : decode cX3_reread 67 = .ok (.aload_n 0, 1) := by decide +kernel
theorem dX3_reread_68 : decode cX3_reread 68 = .ok (.iload_n 1, 1) := by decide +kernel
theorem dX3_reread_69 : decode cX3_reread 69 = .ok (.putfield 24, 3) := by decide +kernel
theorem dX3_reread_72 : decode cX3_reread 72 = .ok (.iinc 1 1, 3) := by decide +kernel
theorem dX3_reread_75 : decode cX3_reread 75 = .ok (.goto (-60), 3) := by decide +kernel
theorem dX3_reread_78 : decode cX3_reread 78 = .ok (.aload_n 0, 1) := by decide +kernel
theorem dX3_reread_79 : decode cX3_reread 79 = .ok (.getfield 24, 3) := by decide +kernel
theorem dX3_reread_82 : decode cX3_reread 82 = .ok (.iconst (-1), 1) := by decide +kernel
theorem dX3_reread_83 : decode cX3_reread 83 = .ok (.if_icmp .eq 11, 3) := by decide +kernel
theorem dX3_reread_86 : decode cX3_reread 86 = .ok (.aload_n 0, 1) := by decide +kernel
theorem dX3_reread_87 : decode cX3_reread 87 = .ok (.getfield 20, 3) := by decide +kernel
theorem dX3_reread_90 : decode cX3_reread 90 = .ok (.iconst 0, 1) := by decide +kernel
theorem dX3_reread_91 : decode cX3_reread 91 = .ok (.invokestatic 31, 3) := by decide +kernel
theorem dX3_reread_94 : decode cX3_reread 94 = .ok (.aload_n 0, 1) := by decide +kernel
theorem dX3_reread_95 : decode cX3_reread 95 = .ok (.aload_n 0, 1) := by decide +kernel
theorem dX3_reread_96 : decode cX3_reread 96 = .ok (.getfield 24, 3) := by decide +kernel
theorem dX3_reread_99 : decode cX3_reread 99 = .ok (.iconst (-1), 1) := by decide +kernel
theorem dX3_reread_100 : decode cX3_reread 100 = .ok (.if_icmp .ne 13, 3) := by decide +kernel
theorem dX3_reread_103 : decode cX3_reread 103 = .ok (.aload_n 0, 1) := by decide +kernel
theorem dX3_reread_104 : decode cX3_reread 104 = .ok (.getfield 14, 3) := by decide +kernel
theorem dX3_reread_107 : decode cX3_reread 107 = .ok (.getfield 37, 3) := by decide +kernel
theorem dX3_reread_110 : decode cX3_reread 110 = .ok (.goto 4, 3) := by decide +kernel
theorem dX3_reread_113 : decode cX3_reread 113 = .ok (.iconst 0, 1) := by decide +kernel
theorem dX3_reread_114 : decode cX3_reread 114 = .ok (.putfield 28, 3) := by decide +kernel
theorem dX3_reread_117 : decode cX3_reread 117 = .ok (.return_, 1) := by decide +kernel
theorem dX3_kindAt_0 : decode cX3_kindAt 0 = .ok (.iload_n 1, 1) := by decide +kernel
theorem dX3_kindAt_1 : decode cX3_kindAt 1 = .ok (.iconst 0, 1) := by decide +kernel
theorem dX3_kindAt_2 : decode cX3_kindAt 2 = .ok (.aload_n 0, 1) := by decide +kernel
theorem dX3_kindAt_3 : decode cX3_kindAt 3 = .ok (.getfield 28, 3) := by decide +kernel
theorem dX3_kindAt_6 : decode cX3_kindAt 6 = .ok (.iconst 1, 1) := by decide +kernel
theorem dX3_kindAt_7 : decode cX3_kindAt 7 = .ok (.isub, 1) := by decide +kernel
theorem dX3_kindAt_8 : decode cX3_kindAt 8 = .ok (.invokestatic 51, 3) := by decide +kernel
theorem dX3_kindAt_11 : decode cX3_kindAt 11 = .ok (.ifCond .eq 18, 3) := by decide +kernel
theorem dX3_kindAt_14 : decode cX3_kindAt 14 = .ok (.aload_n 0, 1) := by decide +kernel
theorem dX3_kindAt_15 : decode cX3_kindAt 15 = .ok (.getfield 14, 3) := by decide +kernel
theorem dX3_kindAt_18 : decode cX3_kindAt 18 = .ok (.getfield 40, 3) := by decide +kernel
theorem dX3_kindAt_21 : decode cX3_kindAt 21 = .ok (.iload_n 1, 1) := by decide +kernel
theorem dX3_kindAt_22 : decode cX3_kindAt 22 = .ok (.iaload, 1) := by decide +kernel
theorem dX3_kindAt_23 : decode cX3_kindAt 23 = .ok (.invokestatic 43, 3) := by decide +kernel
theorem dX3_kindAt_26 : decode cX3_kindAt 26 = .ok (.goto 4, 3) := by decide +kernel
theorem dX3_kindAt_29 : decode cX3_kindAt 29 = .ok (.iconst (-1), 1) := by decide +kernel
theorem dX3_kindAt_30 : decode cX3_kindAt 30 = .ok (.ireturn, 1) := by decide +kernel
theorem dX3_kindOf_0 : decode cX3_kindOf 0 = .ok (.iload_n 0, 1) := by decide +kernel
theorem dX3_kindOf_1 : decode cX3_kindOf 1 = .ok (.lookupswitch 61 #[(46, 51), (108, 53), (114, 55), (115, 57), (120, 59)], 51) := by decide +kernel
theorem dX3_kindOf_52 : decode cX3_kindOf 52 = .ok (.iconst 0, 1) := by decide +kernel
theorem dX3_kindOf_53 : decode cX3_kindOf 53 = .ok (.ireturn, 1) := by decide +kernel
theorem dX3_kindOf_54 : decode cX3_kindOf 54 = .ok (.iconst 1, 1) := by decide +kernel
theorem dX3_kindOf_55 : decode cX3_kindOf 55 = .ok (.ireturn, 1) := by decide +kernel
theorem dX3_kindOf_56 : decode cX3_kindOf 56 = .ok (.iconst 2, 1) := by decide +kernel
theorem dX3_kindOf_57 : decode cX3_kindOf 57 = .ok (.ireturn, 1) := by decide +kernel
theorem dX3_kindOf_58 : decode cX3_kindOf 58 = .ok (.iconst 3, 1) := by decide +kernel
theorem dX3_kindOf_59 : decode cX3_kindOf 59 = .ok (.ireturn, 1) := by decide +kernel
theorem dX3_kindOf_60 : decode cX3_kindOf 60 = .ok (.iconst 4, 1) := by decide +kernel
theorem dX3_kindOf_61 : decode cX3_kindOf 61 = .ok (.ireturn, 1) := by decide +kernel
theorem dX3_kindOf_62 : decode cX3_kindOf 62 = .ok (.iconst (-1), 1) := by decide +kernel
theorem dX3_kindOf_63 : decode cX3_kindOf 63 = .ok (.ireturn, 1) := by decide +kernel
theorem dX4_init_0 : decode cX4_init 0 = .ok (.aload_n 0, 1) := by decide +kernel
theorem dX4_init_1 : decode cX4_init 1 = .ok (.invokespecial 1, 3) := by decide +kernel
theorem dX4_init_4 : decode cX4_init 4 = .ok (.aload_n 0, 1) := by decide +kernel
theorem dX4_init_5 : decode cX4_init 5 = .ok (.iconst 0, 1) := by decide +kernel
theorem dX4_init_6 : decode cX4_init 6 = .ok (.putfield 7, 3) := by decide +kernel
theorem dX4_init_9 : decode cX4_init 9 = .ok (.aload_n 0, 1) := by decide +kernel
theorem dX4_init_10 : decode cX4_init 10 = .ok (.iload_n 1, 1) := by decide +kernel
theorem dX4_init_11 : decode cX4_init 11 = .ok (.newarray .int, 2) := by decide +kernel
theorem dX4_init_13 : decode cX4_init 13 = .ok (.putfield 13, 3) := by decide +kernel
theorem dX4_init_16 : decode cX4_init 16 = .ok (.return_, 1) := by decide +kernel
theorem dX4_isFull_0 : decode cX4_isFull 0 = .ok (.aload_n 0, 1) := by decide +kernel
theorem dX4_isFull_1 : decode cX4_isFull 1 = .ok (.getfield 7, 3) := by decide +kernel
theorem dX4_isFull_4 : decode cX4_isFull 4 = .ok (.aload_n 0, 1) := by decide +kernel
theorem dX4_isFull_5 : decode cX4_isFull 5 = .ok (.getfield 13, 3) := by decide +kernel
theorem dX4_isFull_8 : decode cX4_isFull 8 = .ok (.arraylength, 1) := by decide +kernel
theorem dX4_isFull_9 : decode cX4_isFull 9 = .ok (.if_icmp .lt 7, 3) := by decide +kernel
theorem dX4_isFull_12 : decode cX4_isFull 12 = .ok (.iconst 1, 1) := by decide +kernel
theorem dX4_isFull_13 : decode cX4_isFull 13 = .ok (.goto 4, 3) := by decide +kernel
theorem dX4_isFull_16 : decode cX4_isFull 16 = .ok (.iconst 0, 1) := by decide +kernel
theorem dX4_isFull_17 : decode cX4_isFull 17 = .ok (.ireturn, 1) := by decide +kernel
theorem dX4_append_0 : decode cX4_append 0 = .ok (.aload_n 0, 1) := by decide +kernel
theorem dX4_append_1 : decode cX4_append 1 = .ok (.getfield 7, 3) := by decide +kernel
theorem dX4_append_4 : decode cX4_append 4 = .ok (.aload_n 0, 1) := by decide +kernel
theorem dX4_append_5 : decode cX4_append 5 = .ok (.getfield 13, 3) := by decide +kernel
theorem dX4_append_8 : decode cX4_append 8 = .ok (.arraylength, 1) := by decide +kernel
theorem dX4_append_9 : decode cX4_append 9 = .ok (.if_icmp .ge 23, 3) := by decide +kernel
theorem dX4_append_12 : decode cX4_append 12 = .ok (.aload_n 0, 1) := by decide +kernel
theorem dX4_append_13 : decode cX4_append 13 = .ok (.getfield 13, 3) := by decide +kernel
theorem dX4_append_16 : decode cX4_append 16 = .ok (.aload_n 0, 1) := by decide +kernel
theorem dX4_append_17 : decode cX4_append 17 = .ok (.getfield 7, 3) := by decide +kernel
theorem dX4_append_20 : decode cX4_append 20 = .ok (.iload_n 1, 1) := by decide +kernel
theorem dX4_append_21 : decode cX4_append 21 = .ok (.iastore, 1) := by decide +kernel
theorem dX4_append_22 : decode cX4_append 22 = .ok (.aload_n 0, 1) := by decide +kernel
theorem dX4_append_23 : decode cX4_append 23 = .ok (.dup, 1) := by decide +kernel
theorem dX4_append_24 : decode cX4_append 24 = .ok (.getfield 7, 3) := by decide +kernel
theorem dX4_append_27 : decode cX4_append 27 = .ok (.iconst 1, 1) := by decide +kernel
theorem dX4_append_28 : decode cX4_append 28 = .ok (.iadd, 1) := by decide +kernel
theorem dX4_append_29 : decode cX4_append 29 = .ok (.putfield 7, 3) := by decide +kernel
theorem dX4_append_32 : decode cX4_append 32 = .ok (.return_, 1) := by decide +kernel
theorem dX5_init_0 : decode cX5_init 0 = .ok (.aload_n 0, 1) := by decide +kernel
theorem dX5_init_1 : decode cX5_init 1 = .ok (.invokespecial 3, 3) := by decide +kernel
theorem dX5_init_4 : decode cX5_init 4 = .ok (.aload_n 0, 1) := by decide +kernel
theorem dX5_init_5 : decode cX5_init 5 = .ok (.bipush 60, 2) := by decide +kernel
theorem dX5_init_7 : decode cX5_init 7 = .ok (.newarray .int, 2) := by decide +kernel
theorem dX5_init_9 : decode cX5_init 9 = .ok (.putfield 9, 3) := by decide +kernel
theorem dX5_init_12 : decode cX5_init 12 = .ok (.aload_n 0, 1) := by decide +kernel
theorem dX5_init_13 : decode cX5_init 13 = .ok (.iconst (-1), 1) := by decide +kernel
theorem dX5_init_14 : decode cX5_init 14 = .ok (.putfield 15, 3) := by decide +kernel
theorem dX5_init_17 : decode cX5_init 17 = .ok (.aload_n 0, 1) := by decide +kernel
theorem dX5_init_18 : decode cX5_init 18 = .ok (.iconst 0, 1) := by decide +kernel
theorem dX5_init_19 : decode cX5_init 19 = .ok (.putfield 19, 3) := by decide +kernel
theorem dX5_init_22 : decode cX5_init 22 = .ok (.return_, 1) := by decide +kernel
theorem dX5_isLost_0 : decode cX5_isLost 0 = .ok (.aload_n 0, 1) := by decide +kernel
theorem dX5_isLost_1 : decode cX5_isLost 1 = .ok (.getfield 15, 3) := by decide +kernel
theorem dX5_isLost_4 : decode cX5_isLost 4 = .ok (.iconst (-1), 1) := by decide +kernel
theorem dX5_isLost_5 : decode cX5_isLost 5 = .ok (.if_icmp .ne 7, 3) := by decide +kernel
theorem dX5_isLost_8 : decode cX5_isLost 8 = .ok (.iconst 1, 1) := by decide +kernel
theorem dX5_isLost_9 : decode cX5_isLost 9 = .ok (.goto 4, 3) := by decide +kernel
theorem dX5_isLost_12 : decode cX5_isLost 12 = .ok (.iconst 0, 1) := by decide +kernel
theorem dX5_isLost_13 : decode cX5_isLost 13 = .ok (.ireturn, 1) := by decide +kernel
theorem dX5_renew_0 : decode cX5_renew 0 = .ok (.aload_n 0, 1) := by decide +kernel
theorem dX5_renew_1 : decode cX5_renew 1 = .ok (.getfield 9, 3) := by decide +kernel
theorem dX5_renew_4 : decode cX5_renew 4 = .ok (.iconst 0, 1) := by decide +kernel
theorem dX5_renew_5 : decode cX5_renew 5 = .ok (.invokestatic 22, 3) := by decide +kernel
theorem dX5_renew_8 : decode cX5_renew 8 = .ok (.aload_n 0, 1) := by decide +kernel
theorem dX5_renew_9 : decode cX5_renew 9 = .ok (.iload_n 1, 1) := by decide +kernel
theorem dX5_renew_10 : decode cX5_renew 10 = .ok (.putfield 15, 3) := by decide +kernel
theorem dX5_renew_13 : decode cX5_renew 13 = .ok (.aload_n 0, 1) := by decide +kernel
theorem dX5_renew_14 : decode cX5_renew 14 = .ok (.iload_n 2, 1) := by decide +kernel
theorem dX5_renew_15 : decode cX5_renew 15 = .ok (.putfield 19, 3) := by decide +kernel
theorem dX5_renew_18 : decode cX5_renew 18 = .ok (.return_, 1) := by decide +kernel
theorem dX5_hindrance_0 : decode cX5_hindrance 0 = .ok (.aload_n 0, 1) := by decide +kernel
theorem dX5_hindrance_1 : decode cX5_hindrance 1 = .ok (.invokevirtual 28, 3) := by decide +kernel
theorem dX5_hindrance_4 : decode cX5_hindrance 4 = .ok (.ifCond .eq 5, 3) := by decide +kernel
theorem dX5_hindrance_7 : decode cX5_hindrance 7 = .ok (.iconst 1, 1) := by decide +kernel
theorem dX5_hindrance_8 : decode cX5_hindrance 8 = .ok (.ireturn, 1) := by decide +kernel
theorem dX5_hindrance_9 : decode cX5_hindrance 9 = .ok (.aload_n 0, 1) := by decide +kernel
theorem dX5_hindrance_10 : decode cX5_hindrance 10 = .ok (.getfield 15, 3) := by decide +kernel
theorem dX5_hindrance_13 : decode cX5_hindrance 13 = .ok (.iload_n 1, 1) := by decide +kernel
theorem dX5_hindrance_14 : decode cX5_hindrance 14 = .ok (.if_icmp .eq 5, 3) := by decide +kernel
theorem dX5_hindrance_17 : decode cX5_hindrance 17 = .ok (.iconst 3, 1) := by decide +kernel
theorem dX5_hindrance_18 : decode cX5_hindrance 18 = .ok (.ireturn, 1) := by decide +kernel
theorem dX5_hindrance_19 : decode cX5_hindrance 19 = .ok (.iload_n 2, 1) := by decide +kernel
theorem dX5_hindrance_20 : decode cX5_hindrance 20 = .ok (.iconst 0, 1) := by decide +kernel
theorem dX5_hindrance_21 : decode cX5_hindrance 21 = .ok (.aload_n 0, 1) := by decide +kernel
theorem dX5_hindrance_22 : decode cX5_hindrance 22 = .ok (.getfield 19, 3) := by decide +kernel
theorem dX5_hindrance_25 : decode cX5_hindrance 25 = .ok (.iconst 1, 1) := by decide +kernel
theorem dX5_hindrance_26 : decode cX5_hindrance 26 = .ok (.isub, 1) := by decide +kernel
theorem dX5_hindrance_27 : decode cX5_hindrance 27 = .ok (.invokestatic 32, 3) := by decide +kernel
theorem dX5_hindrance_30 : decode cX5_hindrance 30 = .ok (.ifCond .eq 7, 3) := by decide +kernel
theorem dX5_hindrance_33 : decode cX5_hindrance 33 = .ok (.iconst 0, 1) := by decide +kernel
theorem dX5_hindrance_34 : decode cX5_hindrance 34 = .ok (.goto 4, 3) := by decide +kernel
theorem dX5_hindrance_37 : decode cX5_hindrance 37 = .ok (.iconst 2, 1) := by decide +kernel
theorem dX5_hindrance_38 : decode cX5_hindrance 38 = .ok (.ireturn, 1) := by decide +kernel
theorem dX5_put_0 : decode cX5_put 0 = .ok (.iload_n 1, 1) := by decide +kernel
theorem dX5_put_1 : decode cX5_put 1 = .ok (.iconst 0, 1) := by decide +kernel
theorem dX5_put_2 : decode cX5_put 2 = .ok (.bipush 59, 2) := by decide +kernel
theorem dX5_put_4 : decode cX5_put 4 = .ok (.invokestatic 32, 3) := by decide +kernel
theorem dX5_put_7 : decode cX5_put 7 = .ok (.ifCond .ne 4, 3) := by decide +kernel
theorem dX5_put_10 : decode cX5_put 10 = .ok (.return_, 1) := by decide +kernel
theorem dX5_put_11 : decode cX5_put 11 = .ok (.aload_n 0, 1) := by decide +kernel
theorem dX5_put_12 : decode cX5_put 12 = .ok (.getfield 9, 3) := by decide +kernel
theorem dX5_put_15 : decode cX5_put 15 = .ok (.iload_n 1, 1) := by decide +kernel
theorem dX5_put_16 : decode cX5_put 16 = .ok (.aload_n 0, 1) := by decide +kernel
theorem dX5_put_17 : decode cX5_put 17 = .ok (.getfield 15, 3) := by decide +kernel
theorem dX5_put_20 : decode cX5_put 20 = .ok (.ifCond .ne 8, 3) := by decide +kernel
theorem dX5_put_23 : decode cX5_put 23 = .ok (.iload_n 2, 1) := by decide +kernel
theorem dX5_put_24 : decode cX5_put 24 = .ok (.i2b, 1) := by decide +kernel
theorem dX5_put_25 : decode cX5_put 25 = .ok (.goto 17, 3) := by decide +kernel
theorem dX5_put_28 : decode cX5_put 28 = .ok (.aload_n 0, 1) := by decide +kernel
theorem dX5_put_29 : decode cX5_put 29 = .ok (.getfield 15, 3) := by decide +kernel
theorem dX5_put_32 : decode cX5_put 32 = .ok (.iconst 1, 1) := by decide +kernel
theorem dX5_put_33 : decode cX5_put 33 = .ok (.if_icmp .ne 8, 3) := by decide +kernel
theorem dX5_put_36 : decode cX5_put 36 = .ok (.iload_n 2, 1) := by decide +kernel
theorem dX5_put_37 : decode cX5_put 37 = .ok (.i2s, 1) := by decide +kernel
theorem dX5_put_38 : decode cX5_put 38 = .ok (.goto 4, 3) := by decide +kernel
theorem dX5_put_41 : decode cX5_put 41 = .ok (.iload_n 2, 1) := by decide +kernel
theorem dX5_put_42 : decode cX5_put 42 = .ok (.iastore, 1) := by decide +kernel
theorem dX5_put_43 : decode cX5_put 43 = .ok (.return_, 1) := by decide +kernel
theorem dX5_hasRun_0 : decode cX5_hasRun 0 = .ok (.iload_n 1, 1) := by decide +kernel
theorem dX5_hasRun_1 : decode cX5_hasRun 1 = .ok (.ifCond .lt 29, 3) := by decide +kernel
theorem dX5_hasRun_4 : decode cX5_hasRun 4 = .ok (.iload_n 2, 1) := by decide +kernel
theorem dX5_hasRun_5 : decode cX5_hasRun 5 = .ok (.iconst 0, 1) := by decide +kernel
theorem dX5_hasRun_6 : decode cX5_hasRun 6 = .ok (.aload_n 0, 1) := by decide +kernel
theorem dX5_hasRun_7 : decode cX5_hasRun 7 = .ok (.getfield 19, 3) := by decide +kernel
theorem dX5_hasRun_10 : decode cX5_hasRun 10 = .ok (.invokestatic 32, 3) := by decide +kernel
theorem dX5_hasRun_13 : decode cX5_hasRun 13 = .ok (.ifCond .eq 17, 3) := by decide +kernel
theorem dX5_hasRun_16 : decode cX5_hasRun 16 = .ok (.iload_n 1, 1) := by decide +kernel
theorem dX5_hasRun_17 : decode cX5_hasRun 17 = .ok (.aload_n 0, 1) := by decide +kernel
theorem dX5_hasRun_18 : decode cX5_hasRun 18 = .ok (.getfield 19, 3) := by decide +kernel
theorem dX5_hasRun_21 : decode cX5_hasRun 21 = .ok (.iload_n 2, 1) := by decide +kernel
theorem dX5_hasRun_22 : decode cX5_hasRun 22 = .ok (.isub, 1) := by decide +kernel
theorem dX5_hasRun_23 : decode cX5_hasRun 23 = .ok (.if_icmp .gt 7, 3) := by decide +kernel
theorem dX5_hasRun_26 : decode cX5_hasRun 26 = .ok (.iconst 1, 1) := by decide +kernel
theorem dX5_hasRun_27 : decode cX5_hasRun 27 = .ok (.goto 4, 3) := by decide +kernel
theorem dX5_hasRun_30 : decode cX5_hasRun 30 = .ok (.iconst 0, 1) := by decide +kernel
theorem dX5_hasRun_31 : decode cX5_hasRun 31 = .ok (.ireturn, 1) := by decide +kernel
theorem dX6_init_0 : decode cX6_init 0 = .ok (.aload_n 0, 1) := by decide +kernel
theorem dX6_init_1 : decode cX6_init 1 = .ok (.invokespecial 3, 3) := by decide +kernel
theorem dX6_init_4 : decode cX6_init 4 = .ok (.aload_n 0, 1) := by decide +kernel
theorem dX6_init_5 : decode cX6_init 5 = .ok (.bipush 7, 2) := by decide +kernel
theorem dX6_init_7 : decode cX6_init 7 = .ok (.newarray .int, 2) := by decide +kernel
theorem dX6_init_9 : decode cX6_init 9 = .ok (.putfield 9, 3) := by decide +kernel
theorem dX6_init_12 : decode cX6_init 12 = .ok (.aload_n 0, 1) := by decide +kernel
theorem dX6_init_13 : decode cX6_init 13 = .ok (.bipush 7, 2) := by decide +kernel
theorem dX6_init_15 : decode cX6_init 15 = .ok (.newarray .int, 2) := by decide +kernel
theorem dX6_init_17 : decode cX6_init 17 = .ok (.putfield 15, 3) := by decide +kernel
theorem dX6_init_20 : decode cX6_init 20 = .ok (.aload_n 0, 1) := by decide +kernel
theorem dX6_init_21 : decode cX6_init 21 = .ok (.bipush 7, 2) := by decide +kernel
theorem dX6_init_23 : decode cX6_init 23 = .ok (.newarray .int, 2) := by decide +kernel
theorem dX6_init_25 : decode cX6_init 25 = .ok (.putfield 18, 3) := by decide +kernel
theorem dX6_init_28 : decode cX6_init 28 = .ok (.aload_n 0, 1) := by decide +kernel
theorem dX6_init_29 : decode cX6_init 29 = .ok (.sipush 128, 3) := by decide +kernel
theorem dX6_init_32 : decode cX6_init 32 = .ok (.newarray .int, 2) := by decide +kernel
theorem dX6_init_34 : decode cX6_init 34 = .ok (.putfield 21, 3) := by decide +kernel
theorem dX6_init_37 : decode cX6_init 37 = .ok (.aload_n 0, 1) := by decide +kernel
theorem dX6_init_38 : decode cX6_init 38 = .ok (.iconst 0, 1) := by decide +kernel
theorem dX6_init_39 : decode cX6_init 39 = .ok (.putfield 24, 3) := by decide +kernel
theorem dX6_init_42 : decode cX6_init 42 = .ok (.return_, 1) := by decide +kernel
theorem dX6_append_0 : decode cX6_append 0 = .ok (.aload_n 0, 1) := by decide +kernel
theorem dX6_append_1 : decode cX6_append 1 = .ok (.getfield 24, 3) := by decide +kernel
theorem dX6_append_4 : decode cX6_append 4 = .ok (.bipush 7, 2) := by decide +kernel
theorem dX6_append_6 : decode cX6_append 6 = .ok (.if_icmp .ge 37, 3) := by decide +kernel
theorem dX6_append_9 : decode cX6_append 9 = .ok (.aload_n 0, 1) := by decide +kernel
theorem dX6_append_10 : decode cX6_append 10 = .ok (.getfield 9, 3) := by decide +kernel
theorem dX6_append_13 : decode cX6_append 13 = .ok (.aload_n 0, 1) := by decide +kernel
theorem dX6_append_14 : decode cX6_append 14 = .ok (.getfield 24, 3) := by decide +kernel
theorem dX6_append_17 : decode cX6_append 17 = .ok (.iload_n 1, 1) := by decide +kernel
theorem dX6_append_18 : decode cX6_append 18 = .ok (.iastore, 1) := by decide +kernel
theorem dX6_append_19 : decode cX6_append 19 = .ok (.aload_n 0, 1) := by decide +kernel
theorem dX6_append_20 : decode cX6_append 20 = .ok (.getfield 15, 3) := by decide +kernel
theorem dX6_append_23 : decode cX6_append 23 = .ok (.aload_n 0, 1) := by decide +kernel
theorem dX6_append_24 : decode cX6_append 24 = .ok (.getfield 24, 3) := by decide +kernel
theorem dX6_append_27 : decode cX6_append 27 = .ok (.iload_n 2, 1) := by decide +kernel
theorem dX6_append_28 : decode cX6_append 28 = .ok (.iastore, 1) := by decide +kernel
theorem dX6_append_29 : decode cX6_append 29 = .ok (.aload_n 0, 1) := by decide +kernel
theorem dX6_append_30 : decode cX6_append 30 = .ok (.dup, 1) := by decide +kernel
theorem dX6_append_31 : decode cX6_append 31 = .ok (.getfield 24, 3) := by decide +kernel
theorem dX6_append_34 : decode cX6_append 34 = .ok (.iconst 1, 1) := by decide +kernel
theorem dX6_append_35 : decode cX6_append 35 = .ok (.iadd, 1) := by decide +kernel
theorem dX6_append_36 : decode cX6_append 36 = .ok (.putfield 24, 3) := by decide +kernel
theorem dX6_append_39 : decode cX6_append 39 = .ok (.aload_n 0, 1) := by decide +kernel
theorem dX6_append_40 : decode cX6_append 40 = .ok (.invokevirtual 28, 3) := by decide +kernel
theorem dX6_append_43 : decode cX6_append 43 = .ok (.return_, 1) := by decide +kernel
theorem dX6_removeLast_0 : decode cX6_removeLast 0 = .ok (.aload_n 0, 1) := by decide +kernel
theorem dX6_removeLast_1 : decode cX6_removeLast 1 = .ok (.getfield 24, 3) := by decide +kernel
theorem dX6_removeLast_4 : decode cX6_removeLast 4 = .ok (.ifCond .le 17, 3) := by decide +kernel
theorem dX6_removeLast_7 : decode cX6_removeLast 7 = .ok (.aload_n 0, 1) := by decide +kernel
theorem dX6_removeLast_8 : decode cX6_removeLast 8 = .ok (.dup, 1) := by decide +kernel
theorem dX6_removeLast_9 : decode cX6_removeLast 9 = .ok (.getfield 24, 3) := by decide +kernel
theorem dX6_removeLast_12 : decode cX6_removeLast 12 = .ok (.iconst 1, 1) := by decide +kernel
theorem dX6_removeLast_13 : decode cX6_removeLast 13 = .ok (.isub, 1) := by decide +kernel
theorem dX6_removeLast_14 : decode cX6_removeLast 14 = .ok (.putfield 24, 3) := by decide +kernel
theorem dX6_removeLast_17 : decode cX6_removeLast 17 = .ok (.aload_n 0, 1) := by decide +kernel
theorem dX6_removeLast_18 : decode cX6_removeLast 18 = .ok (.invokevirtual 28, 3) := by decide +kernel
theorem dX6_removeLast_21 : decode cX6_removeLast 21 = .ok (.return_, 1) := by decide +kernel
theorem dX6_leastLate_0 : decode cX6_leastLate 0 = .ok (.aload_n 0, 1) := by decide +kernel
theorem dX6_leastLate_1 : decode cX6_leastLate 1 = .ok (.getfield 21, 3) := by decide +kernel
theorem dX6_leastLate_4 : decode cX6_leastLate 4 = .ok (.iconst 0, 1) := by decide +kernel
theorem dX6_leastLate_5 : decode cX6_leastLate 5 = .ok (.iaload, 1) := by decide +kernel
theorem dX6_leastLate_6 : decode cX6_leastLate 6 = .ok (.ireturn, 1) := by decide +kernel
theorem dX6_plan_0 : decode cX6_plan 0 = .ok (.iconst 1, 1) := by decide +kernel
theorem dX6_plan_1 : decode cX6_plan 1 = .ok (.aload_n 0, 1) := by decide +kernel
theorem dX6_plan_2 : decode cX6_plan 2 = .ok (.getfield 24, 3) := by decide +kernel
theorem dX6_plan_5 : decode cX6_plan 5 = .ok (.ishl, 1) := by decide +kernel
theorem dX6_plan_6 : decode cX6_plan 6 = .ok (.iconst 1, 1) := by decide +kernel
theorem dX6_plan_7 : decode cX6_plan 7 = .ok (.isub, 1) := by decide +kernel
theorem dX6_plan_8 : decode cX6_plan 8 = .ok (.istore_n 1, 1) := by decide +kernel
theorem dX6_plan_9 : decode cX6_plan 9 = .ok (.aload_n 0, 1) := by decide +kernel
theorem dX6_plan_10 : decode cX6_plan 10 = .ok (.getfield 21, 3) := by decide +kernel
theorem dX6_plan_13 : decode cX6_plan 13 = .ok (.iload_n 1, 1) := by decide +kernel
theorem dX6_plan_14 : decode cX6_plan 14 = .ok (.iconst 0, 1) := by decide +kernel
theorem dX6_plan_15 : decode cX6_plan 15 = .ok (.iastore, 1) := by decide +kernel
theorem dX6_plan_16 : decode cX6_plan 16 = .ok (.iload_n 1, 1) := by decide +kernel
theorem dX6_plan_17 : decode cX6_plan 17 = .ok (.iconst 1, 1) := by decide +kernel
theorem dX6_plan_18 : decode cX6_plan 18 = .ok (.isub, 1) := by decide +kernel
theorem dX6_plan_19 : decode cX6_plan 19 = .ok (.istore_n 2, 1) := by decide +kernel
theorem dX6_plan_20 : decode cX6_plan 20 = .ok (.iload_n 2, 1) := by decide +kernel
theorem dX6_plan_21 : decode cX6_plan 21 = .ok (.ifCond .lt 33, 3) := by decide +kernel
theorem dX6_plan_24 : decode cX6_plan 24 = .ok (.aload_n 0, 1) := by decide +kernel
theorem dX6_plan_25 : decode cX6_plan 25 = .ok (.iload_n 2, 1) := by decide +kernel
theorem dX6_plan_26 : decode cX6_plan 26 = .ok (.invokevirtual 31, 3) := by decide +kernel
theorem dX6_plan_29 : decode cX6_plan 29 = .ok (.istore_n 3, 1) := by decide +kernel
theorem dX6_plan_30 : decode cX6_plan 30 = .ok (.aload_n 0, 1) := by decide +kernel
theorem dX6_plan_31 : decode cX6_plan 31 = .ok (.getfield 21, 3) := by decide +kernel
theorem dX6_plan_34 : decode cX6_plan 34 = .ok (.iload_n 2, 1) := by decide +kernel
theorem dX6_plan_35 : decode cX6_plan 35 = .ok (.aload_n 0, 1) := by decide +kernel
theorem dX6_plan_36 : decode cX6_plan 36 = .ok (.iload_n 2, 1) := by decide +kernel
theorem dX6_plan_37 : decode cX6_plan 37 = .ok (.iload_n 3, 1) := by decide +kernel
theorem dX6_plan_38 : decode cX6_plan 38 = .ok (.aload_n 0, 1) := by decide +kernel
theorem dX6_plan_39 : decode cX6_plan 39 = .ok (.iload_n 2, 1) := by decide +kernel
theorem dX6_plan_40 : decode cX6_plan 40 = .ok (.iload_n 3, 1) := by decide +kernel
theorem dX6_plan_41 : decode cX6_plan 41 = .ok (.invokevirtual 35, 3) := by decide +kernel
theorem dX6_plan_44 : decode cX6_plan 44 = .ok (.invokevirtual 39, 3) := by decide +kernel
theorem dX6_plan_47 : decode cX6_plan 47 = .ok (.iastore, 1) := by decide +kernel
theorem dX6_plan_48 : decode cX6_plan 48 = .ok (.iinc 2 (-1), 3) := by decide +kernel
theorem dX6_plan_51 : decode cX6_plan 51 = .ok (.goto (-31), 3) := by decide +kernel
theorem dX6_plan_54 : decode cX6_plan 54 = .ok (.iconst 0, 1) := by decide +kernel
theorem dX6_plan_55 : decode cX6_plan 55 = .ok (.istore_n 2, 1) := by decide +kernel
theorem dX6_plan_56 : decode cX6_plan 56 = .ok (.iconst 0, 1) := by decide +kernel
theorem dX6_plan_57 : decode cX6_plan 57 = .ok (.istore_n 3, 1) := by decide +kernel
theorem dX6_plan_58 : decode cX6_plan 58 = .ok (.iload_n 3, 1) := by decide +kernel
theorem dX6_plan_59 : decode cX6_plan 59 = .ok (.aload_n 0, 1) := by decide +kernel
theorem dX6_plan_60 : decode cX6_plan 60 = .ok (.getfield 24, 3) := by decide +kernel
theorem dX6_plan_63 : decode cX6_plan 63 = .ok (.if_icmp .ge 36, 3) := by decide +kernel
theorem dX6_plan_66 : decode cX6_plan 66 = .ok (.aload_n 0, 1) := by decide +kernel
theorem dX6_plan_67 : decode cX6_plan 67 = .ok (.getfield 18, 3) := by decide +kernel
theorem dX6_plan_70 : decode cX6_plan 70 = .ok (.iload_n 3, 1) := by decide +kernel
theorem dX6_plan_71 : decode cX6_plan 71 = .ok (.aload_n 0, 1) := by decide +kernel
theorem dX6_plan_72 : decode cX6_plan 72 = .ok (.iload_n 2, 1) := by decide +kernel
theorem dX6_plan_73 : decode cX6_plan 73 = .ok (.aload_n 0, 1) := by decide +kernel
theorem dX6_plan_74 : decode cX6_plan 74 = .ok (.iload_n 2, 1) := by decide +kernel
theorem dX6_plan_75 : decode cX6_plan 75 = .ok (.invokevirtual 31, 3) := by decide +kernel
theorem dX6_plan_78 : decode cX6_plan 78 = .ok (.invokevirtual 35, 3) := by decide +kernel
theorem dX6_plan_81 : decode cX6_plan 81 = .ok (.iastore, 1) := by decide +kernel
theorem dX6_plan_82 : decode cX6_plan 82 = .ok (.iload_n 2, 1) := by decide +kernel
theorem dX6_plan_83 : decode cX6_plan 83 = .ok (.iconst 1, 1) := by decide +kernel
theorem dX6_plan_84 : decode cX6_plan 84 = .ok (.aload_n 0, 1) := by decide +kernel
theorem dX6_plan_85 : decode cX6_plan 85 = .ok (.getfield 18, 3) := by decide +kernel
theorem dX6_plan_88 : decode cX6_plan 88 = .ok (.iload_n 3, 1) := by decide +kernel
theorem dX6_plan_89 : decode cX6_plan 89 = .ok (.iaload, 1) := by decide +kernel
theorem dX6_plan_90 : decode cX6_plan 90 = .ok (.ishl, 1) := by decide +kernel
theorem dX6_plan_91 : decode cX6_plan 91 = .ok (.ior, 1) := by decide +kernel
theorem dX6_plan_92 : decode cX6_plan 92 = .ok (.istore_n 2, 1) := by decide +kernel
theorem dX6_plan_93 : decode cX6_plan 93 = .ok (.iinc 3 1, 3) := by decide +kernel
theorem dX6_plan_96 : decode cX6_plan 96 = .ok (.goto (-38), 3) := by decide +kernel
theorem dX6_plan_99 : decode cX6_plan 99 = .ok (.return_, 1) := by decide +kernel
theorem dX6_bestNext_0 : decode cX6_bestNext 0 = .ok (.iconst 0, 1) := by decide +kernel
theorem dX6_bestNext_1 : decode cX6_bestNext 1 = .ok (.istore_n 3, 1) := by decide +kernel
theorem dX6_bestNext_2 : decode cX6_bestNext 2 = .ok (.iconst (-1), 1) := by decide +kernel
theorem dX6_bestNext_3 : decode cX6_bestNext 3 = .ok (.istore 4, 2) := by decide +kernel
theorem dX6_bestNext_5 : decode cX6_bestNext 5 = .ok (.iconst 0, 1) := by decide +kernel
theorem dX6_bestNext_6 : decode cX6_bestNext 6 = .ok (.istore 5, 2) := by decide +kernel
theorem dX6_bestNext_8 : decode cX6_bestNext 8 = .ok (.iload 5, 2) := by decide +kernel
theorem dX6_bestNext_10 : decode cX6_bestNext 10 = .ok (.aload_n 0, 1) := by decide +kernel
theorem dX6_bestNext_11 : decode cX6_bestNext 11 = .ok (.getfield 24, 3) := by decide +kernel
theorem dX6_bestNext_14 : decode cX6_bestNext 14 = .ok (.if_icmp .ge 48, 3) := by decide +kernel
theorem dX6_bestNext_17 : decode cX6_bestNext 17 = .ok (.iload_n 1, 1) := by decide +kernel
theorem dX6_bestNext_18 : decode cX6_bestNext 18 = .ok (.iload 5, 2) := by decide +kernel
theorem dX6_bestNext_20 : decode cX6_bestNext 20 = .ok (.ishr, 1) := by decide +kernel
theorem dX6_bestNext_21 : decode cX6_bestNext 21 = .ok (.iconst 1, 1) := by decide +kernel
theorem dX6_bestNext_22 : decode cX6_bestNext 22 = .ok (.iand, 1) := by decide +kernel
theorem dX6_bestNext_23 : decode cX6_bestNext 23 = .ok (.ifCond .ne 33, 3) := by decide +kernel
theorem dX6_bestNext_26 : decode cX6_bestNext 26 = .ok (.aload_n 0, 1) := by decide +kernel
theorem dX6_bestNext_27 : decode cX6_bestNext 27 = .ok (.iload_n 1, 1) := by decide +kernel
theorem dX6_bestNext_28 : decode cX6_bestNext 28 = .ok (.iload_n 2, 1) := by decide +kernel
theorem dX6_bestNext_29 : decode cX6_bestNext 29 = .ok (.iload 5, 2) := by decide +kernel
theorem dX6_bestNext_31 : decode cX6_bestNext 31 = .ok (.invokevirtual 39, 3) := by decide +kernel
theorem dX6_bestNext_34 : decode cX6_bestNext 34 = .ok (.istore 6, 2) := by decide +kernel
theorem dX6_bestNext_36 : decode cX6_bestNext 36 = .ok (.iload 4, 2) := by decide +kernel
theorem dX6_bestNext_38 : decode cX6_bestNext 38 = .ok (.iconst (-1), 1) := by decide +kernel
theorem dX6_bestNext_39 : decode cX6_bestNext 39 = .ok (.if_icmp .eq 10, 3) := by decide +kernel
theorem dX6_bestNext_42 : decode cX6_bestNext 42 = .ok (.iload 6, 2) := by decide +kernel
theorem dX6_bestNext_44 : decode cX6_bestNext 44 = .ok (.iload 4, 2) := by decide +kernel
theorem dX6_bestNext_46 : decode cX6_bestNext 46 = .ok (.if_icmp .ge 10, 3) := by decide +kernel
theorem dX6_bestNext_49 : decode cX6_bestNext 49 = .ok (.iload 6, 2) := by decide +kernel
theorem dX6_bestNext_51 : decode cX6_bestNext 51 = .ok (.istore 4, 2) := by decide +kernel
theorem dX6_bestNext_53 : decode cX6_bestNext 53 = .ok (.iload 5, 2) := by decide +kernel
theorem dX6_bestNext_55 : decode cX6_bestNext 55 = .ok (.istore_n 3, 1) := by decide +kernel
theorem dX6_bestNext_56 : decode cX6_bestNext 56 = .ok (.iinc 5 1, 3) := by decide +kernel
theorem dX6_bestNext_59 : decode cX6_bestNext 59 = .ok (.goto (-51), 3) := by decide +kernel
theorem dX6_bestNext_62 : decode cX6_bestNext 62 = .ok (.iload_n 3, 1) := by decide +kernel
theorem dX6_bestNext_63 : decode cX6_bestNext 63 = .ok (.ireturn, 1) := by decide +kernel
theorem dX6_lateWith_0 : decode cX6_lateWith 0 = .ok (.iconst 0, 1) := by decide +kernel
theorem dX6_lateWith_1 : decode cX6_lateWith 1 = .ok (.iload_n 2, 1) := by decide +kernel
theorem dX6_lateWith_2 : decode cX6_lateWith 2 = .ok (.aload_n 0, 1) := by decide +kernel
theorem dX6_lateWith_3 : decode cX6_lateWith 3 = .ok (.getfield 9, 3) := by decide +kernel
theorem dX6_lateWith_6 : decode cX6_lateWith 6 = .ok (.iload_n 3, 1) := by decide +kernel
theorem dX6_lateWith_7 : decode cX6_lateWith 7 = .ok (.iaload, 1) := by decide +kernel
theorem dX6_lateWith_8 : decode cX6_lateWith 8 = .ok (.iadd, 1) := by decide +kernel
theorem dX6_lateWith_9 : decode cX6_lateWith 9 = .ok (.aload_n 0, 1) := by decide +kernel
theorem dX6_lateWith_10 : decode cX6_lateWith 10 = .ok (.getfield 15, 3) := by decide +kernel
theorem dX6_lateWith_13 : decode cX6_lateWith 13 = .ok (.iload_n 3, 1) := by decide +kernel
theorem dX6_lateWith_14 : decode cX6_lateWith 14 = .ok (.iaload, 1) := by decide +kernel
theorem dX6_lateWith_15 : decode cX6_lateWith 15 = .ok (.isub, 1) := by decide +kernel
theorem dX6_lateWith_16 : decode cX6_lateWith 16 = .ok (.invokestatic 43, 3) := by decide +kernel
theorem dX6_lateWith_19 : decode cX6_lateWith 19 = .ok (.aload_n 0, 1) := by decide +kernel
theorem dX6_lateWith_20 : decode cX6_lateWith 20 = .ok (.getfield 21, 3) := by decide +kernel
theorem dX6_lateWith_23 : decode cX6_lateWith 23 = .ok (.iload_n 1, 1) := by decide +kernel
theorem dX6_lateWith_24 : decode cX6_lateWith 24 = .ok (.iconst 1, 1) := by decide +kernel
theorem dX6_lateWith_25 : decode cX6_lateWith 25 = .ok (.iload_n 3, 1) := by decide +kernel
theorem dX6_lateWith_26 : decode cX6_lateWith 26 = .ok (.ishl, 1) := by decide +kernel
theorem dX6_lateWith_27 : decode cX6_lateWith 27 = .ok (.ior, 1) := by decide +kernel
theorem dX6_lateWith_28 : decode cX6_lateWith 28 = .ok (.iaload, 1) := by decide +kernel
theorem dX6_lateWith_29 : decode cX6_lateWith 29 = .ok (.iadd, 1) := by decide +kernel
theorem dX6_lateWith_30 : decode cX6_lateWith 30 = .ok (.ireturn, 1) := by decide +kernel
theorem dX6_spentOn_0 : decode cX6_spentOn 0 = .ok (.iconst 0, 1) := by decide +kernel
theorem dX6_spentOn_1 : decode cX6_spentOn 1 = .ok (.istore_n 2, 1) := by decide +kernel
theorem dX6_spentOn_2 : decode cX6_spentOn 2 = .ok (.iconst 0, 1) := by decide +kernel
theorem dX6_spentOn_3 : decode cX6_spentOn 3 = .ok (.istore_n 3, 1) := by decide +kernel
theorem dX6_spentOn_4 : decode cX6_spentOn 4 = .ok (.iload_n 3, 1) := by decide +kernel
theorem dX6_spentOn_5 : decode cX6_spentOn 5 = .ok (.aload_n 0, 1) := by decide +kernel
theorem dX6_spentOn_6 : decode cX6_spentOn 6 = .ok (.getfield 24, 3) := by decide +kernel
theorem dX6_spentOn_9 : decode cX6_spentOn 9 = .ok (.if_icmp .ge 31, 3) := by decide +kernel
theorem dX6_spentOn_12 : decode cX6_spentOn 12 = .ok (.iload_n 2, 1) := by decide +kernel
theorem dX6_spentOn_13 : decode cX6_spentOn 13 = .ok (.iload_n 1, 1) := by decide +kernel
theorem dX6_spentOn_14 : decode cX6_spentOn 14 = .ok (.iload_n 3, 1) := by decide +kernel
theorem dX6_spentOn_15 : decode cX6_spentOn 15 = .ok (.ishr, 1) := by decide +kernel
theorem dX6_spentOn_16 : decode cX6_spentOn 16 = .ok (.iconst 1, 1) := by decide +kernel
theorem dX6_spentOn_17 : decode cX6_spentOn 17 = .ok (.iand, 1) := by decide +kernel
theorem dX6_spentOn_18 : decode cX6_spentOn 18 = .ok (.iconst 1, 1) := by decide +kernel
theorem dX6_spentOn_19 : decode cX6_spentOn 19 = .ok (.if_icmp .ne 12, 3) := by decide +kernel
theorem dX6_spentOn_22 : decode cX6_spentOn 22 = .ok (.aload_n 0, 1) := by decide +kernel
theorem dX6_spentOn_23 : decode cX6_spentOn 23 = .ok (.getfield 9, 3) := by decide +kernel
theorem dX6_spentOn_26 : decode cX6_spentOn 26 = .ok (.iload_n 3, 1) := by decide +kernel
theorem dX6_spentOn_27 : decode cX6_spentOn 27 = .ok (.iaload, 1) := by decide +kernel
theorem dX6_spentOn_28 : decode cX6_spentOn 28 = .ok (.goto 4, 3) := by decide +kernel
theorem dX6_spentOn_31 : decode cX6_spentOn 31 = .ok (.iconst 0, 1) := by decide +kernel
theorem dX6_spentOn_32 : decode cX6_spentOn 32 = .ok (.iadd, 1) := by decide +kernel
theorem dX6_spentOn_33 : decode cX6_spentOn 33 = .ok (.istore_n 2, 1) := by decide +kernel
theorem dX6_spentOn_34 : decode cX6_spentOn 34 = .ok (.iinc 3 1, 3) := by decide +kernel
theorem dX6_spentOn_37 : decode cX6_spentOn 37 = .ok (.goto (-33), 3) := by decide +kernel
theorem dX6_spentOn_40 : decode cX6_spentOn 40 = .ok (.iload_n 2, 1) := by decide +kernel
theorem dX6_spentOn_41 : decode cX6_spentOn 41 = .ok (.ireturn, 1) := by decide +kernel
theorem dX7_init_0 : decode cX7_init 0 = .ok (.aload_n 0, 1) := by decide +kernel
theorem dX7_init_1 : decode cX7_init 1 = .ok (.invokespecial 3, 3) := by decide +kernel
theorem dX7_init_4 : decode cX7_init 4 = .ok (.aload_n 0, 1) := by decide +kernel
theorem dX7_init_5 : decode cX7_init 5 = .ok (.bipush 40, 2) := by decide +kernel
theorem dX7_init_7 : decode cX7_init 7 = .ok (.newarray .int, 2) := by decide +kernel
theorem dX7_init_9 : decode cX7_init 9 = .ok (.putfield 9, 3) := by decide +kernel
theorem dX7_init_12 : decode cX7_init 12 = .ok (.aload_n 0, 1) := by decide +kernel
theorem dX7_init_13 : decode cX7_init 13 = .ok (.bipush 40, 2) := by decide +kernel
theorem dX7_init_15 : decode cX7_init 15 = .ok (.newarray .int, 2) := by decide +kernel
theorem dX7_init_17 : decode cX7_init 17 = .ok (.putfield 15, 3) := by decide +kernel
theorem dX7_init_20 : decode cX7_init 20 = .ok (.aload_n 0, 1) := by decide +kernel
theorem dX7_init_21 : decode cX7_init 21 = .ok (.iconst 0, 1) := by decide +kernel
theorem dX7_init_22 : decode cX7_init 22 = .ok (.putfield 18, 3) := by decide +kernel
theorem dX7_init_25 : decode cX7_init 25 = .ok (.return_, 1) := by decide +kernel
theorem dX7_append_0 : decode cX7_append 0 = .ok (.aload_n 0, 1) := by decide +kernel
theorem dX7_append_1 : decode cX7_append 1 = .ok (.getfield 18, 3) := by decide +kernel
theorem dX7_append_4 : decode cX7_append 4 = .ok (.bipush 40, 2) := by decide +kernel
theorem dX7_append_6 : decode cX7_append 6 = .ok (.if_icmp .ge 33, 3) := by decide +kernel
theorem dX7_append_9 : decode cX7_append 9 = .ok (.aload_n 0, 1) := by decide +kernel
theorem dX7_append_10 : decode cX7_append 10 = .ok (.getfield 9, 3) := by decide +kernel
theorem dX7_append_13 : decode cX7_append 13 = .ok (.aload_n 0, 1) := by decide +kernel
theorem dX7_append_14 : decode cX7_append 14 = .ok (.getfield 18, 3) := by decide +kernel
theorem dX7_append_17 : decode cX7_append 17 = .ok (.iload_n 1, 1) := by decide +kernel
theorem dX7_append_18 : decode cX7_append 18 = .ok (.iastore, 1) := by decide +kernel
theorem dX7_append_19 : decode cX7_append 19 = .ok (.aload_n 0, 1) := by decide +kernel
theorem dX7_append_20 : decode cX7_append 20 = .ok (.getfield 15, 3) := by decide +kernel
theorem dX7_append_23 : decode cX7_append 23 = .ok (.aload_n 0, 1) := by decide +kernel
theorem dX7_append_24 : decode cX7_append 24 = .ok (.getfield 18, 3) := by decide +kernel
theorem dX7_append_27 : decode cX7_append 27 = .ok (.iload_n 2, 1) := by decide +kernel
theorem dX7_append_28 : decode cX7_append 28 = .ok (.iastore, 1) := by decide +kernel
theorem dX7_append_29 : decode cX7_append 29 = .ok (.aload_n 0, 1) := by decide +kernel
theorem dX7_append_30 : decode cX7_append 30 = .ok (.dup, 1) := by decide +kernel
theorem dX7_append_31 : decode cX7_append 31 = .ok (.getfield 18, 3) := by decide +kernel
theorem dX7_append_34 : decode cX7_append 34 = .ok (.iconst 1, 1) := by decide +kernel
theorem dX7_append_35 : decode cX7_append 35 = .ok (.iadd, 1) := by decide +kernel
theorem dX7_append_36 : decode cX7_append 36 = .ok (.putfield 18, 3) := by decide +kernel
theorem dX7_append_39 : decode cX7_append 39 = .ok (.return_, 1) := by decide +kernel
theorem dX8_init_0 : decode cX8_init 0 = .ok (.aload_n 0, 1) := by decide +kernel
theorem dX8_init_1 : decode cX8_init 1 = .ok (.invokespecial 3, 3) := by decide +kernel
theorem dX8_init_4 : decode cX8_init 4 = .ok (.aload_n 0, 1) := by decide +kernel
theorem dX8_init_5 : decode cX8_init 5 = .ok (.sipush 160, 3) := by decide +kernel
theorem dX8_init_8 : decode cX8_init 8 = .ok (.newarray .int, 2) := by decide +kernel
theorem dX8_init_10 : decode cX8_init 10 = .ok (.putfield 9, 3) := by decide +kernel
theorem dX8_init_13 : decode cX8_init 13 = .ok (.iconst 0, 1) := by decide +kernel
theorem dX8_init_14 : decode cX8_init 14 = .ok (.istore_n 1, 1) := by decide +kernel
theorem dX8_init_15 : decode cX8_init 15 = .ok (.iload_n 1, 1) := by decide +kernel
theorem dX8_init_16 : decode cX8_init 16 = .ok (.bipush 32, 2) := by decide +kernel
theorem dX8_init_18 : decode cX8_init 18 = .ok (.if_icmp .ge 16, 3) := by decide +kernel
theorem dX8_init_21 : decode cX8_init 21 = .ok (.aload_n 0, 1) := by decide +kernel
theorem dX8_init_22 : decode cX8_init 22 = .ok (.getfield 9, 3) := by decide +kernel
theorem dX8_init_25 : decode cX8_init 25 = .ok (.iload_n 1, 1) := by decide +kernel
theorem dX8_init_26 : decode cX8_init 26 = .ok (.iconst 1, 1) := by decide +kernel
theorem dX8_init_27 : decode cX8_init 27 = .ok (.iastore, 1) := by decide +kernel
theorem dX8_init_28 : decode cX8_init 28 = .ok (.iinc 1 1, 3) := by decide +kernel
theorem dX8_init_31 : decode cX8_init 31 = .ok (.goto (-16), 3) := by decide +kernel
theorem dX8_init_34 : decode cX8_init 34 = .ok (.return_, 1) := by decide +kernel
theorem dX8_at_0 : decode cX8_at 0 = .ok (.iload_n 1, 1) := by decide +kernel
theorem dX8_at_1 : decode cX8_at 1 = .ok (.invokestatic 15, 3) := by decide +kernel
theorem dX8_at_4 : decode cX8_at 4 = .ok (.ifCond .eq 24, 3) := by decide +kernel
theorem dX8_at_7 : decode cX8_at 7 = .ok (.iload_n 2, 1) := by decide +kernel
theorem dX8_at_8 : decode cX8_at 8 = .ok (.invokestatic 19, 3) := by decide +kernel
theorem dX8_at_11 : decode cX8_at 11 = .ok (.ifCond .eq 17, 3) := by decide +kernel
theorem dX8_at_14 : decode cX8_at 14 = .ok (.aload_n 0, 1) := by decide +kernel
theorem dX8_at_15 : decode cX8_at 15 = .ok (.getfield 9, 3) := by decide +kernel
theorem dX8_at_18 : decode cX8_at 18 = .ok (.iload_n 1, 1) := by decide +kernel
theorem dX8_at_19 : decode cX8_at 19 = .ok (.bipush 32, 2) := by decide +kernel
theorem dX8_at_21 : decode cX8_at 21 = .ok (.imul, 1) := by decide +kernel
theorem dX8_at_22 : decode cX8_at 22 = .ok (.iload_n 2, 1) := by decide +kernel
theorem dX8_at_23 : decode cX8_at 23 = .ok (.iadd, 1) := by decide +kernel
theorem dX8_at_24 : decode cX8_at 24 = .ok (.iaload, 1) := by decide +kernel
theorem dX8_at_25 : decode cX8_at 25 = .ok (.goto 4, 3) := by decide +kernel
theorem dX8_at_28 : decode cX8_at 28 = .ok (.iconst 0, 1) := by decide +kernel
theorem dX8_at_29 : decode cX8_at 29 = .ok (.ireturn, 1) := by decide +kernel
theorem dX8_put_0 : decode cX8_put 0 = .ok (.iload_n 1, 1) := by decide +kernel
theorem dX8_put_1 : decode cX8_put 1 = .ok (.invokestatic 15, 3) := by decide +kernel
theorem dX8_put_4 : decode cX8_put 4 = .ok (.ifCond .eq 22, 3) := by decide +kernel
theorem dX8_put_7 : decode cX8_put 7 = .ok (.iload_n 2, 1) := by decide +kernel
theorem dX8_put_8 : decode cX8_put 8 = .ok (.invokestatic 19, 3) := by decide +kernel
theorem dX8_put_11 : decode cX8_put 11 = .ok (.ifCond .eq 15, 3) := by decide +kernel
theorem dX8_put_14 : decode cX8_put 14 = .ok (.aload_n 0, 1) := by decide +kernel
theorem dX8_put_15 : decode cX8_put 15 = .ok (.getfield 9, 3) := by decide +kernel
theorem dX8_put_18 : decode cX8_put 18 = .ok (.iload_n 1, 1) := by decide +kernel
theorem dX8_put_19 : decode cX8_put 19 = .ok (.bipush 32, 2) := by decide +kernel
theorem dX8_put_21 : decode cX8_put 21 = .ok (.imul, 1) := by decide +kernel
theorem dX8_put_22 : decode cX8_put 22 = .ok (.iload_n 2, 1) := by decide +kernel
theorem dX8_put_23 : decode cX8_put 23 = .ok (.iadd, 1) := by decide +kernel
theorem dX8_put_24 : decode cX8_put 24 = .ok (.iload_n 3, 1) := by decide +kernel
theorem dX8_put_25 : decode cX8_put 25 = .ok (.iastore, 1) := by decide +kernel
theorem dX8_put_26 : decode cX8_put 26 = .ok (.return_, 1) := by decide +kernel
theorem dX9_init_0 : decode cX9_init 0 = .ok (.aload_n 0, 1) := by decide +kernel
theorem dX9_init_1 : decode cX9_init 1 = .ok (.invokespecial 3, 3) := by decide +kernel
theorem dX9_init_4 : decode cX9_init 4 = .ok (.aload_n 0, 1) := by decide +kernel
theorem dX9_init_5 : decode cX9_init 5 = .ok (.new 9, 3) := by decide +kernel
theorem dX9_init_8 : decode cX9_init 8 = .ok (.dup, 1) := by decide +kernel
theorem dX9_init_9 : decode cX9_init 9 = .ok (.invokespecial 11, 3) := by decide +kernel
theorem dX9_init_12 : decode cX9_init 12 = .ok (.putfield 12, 3) := by decide +kernel
theorem dX9_init_15 : decode cX9_init 15 = .ok (.aload_n 0, 1) := by decide +kernel
theorem dX9_init_16 : decode cX9_init 16 = .ok (.new 16, 3) := by decide +kernel
theorem dX9_init_19 : decode cX9_init 19 = .ok (.dup, 1) := by decide +kernel
theorem dX9_init_20 : decode cX9_init 20 = .ok (.invokespecial 18, 3) := by decide +kernel
theorem dX9_init_23 : decode cX9_init 23 = .ok (.putfield 19, 3) := by decide +kernel
theorem dX9_init_26 : decode cX9_init 26 = .ok (.aload_n 0, 1) := by decide +kernel
theorem dX9_init_27 : decode cX9_init 27 = .ok (.new 23, 3) := by decide +kernel
theorem dX9_init_30 : decode cX9_init 30 = .ok (.dup, 1) := by decide +kernel
theorem dX9_init_31 : decode cX9_init 31 = .ok (.invokespecial 25, 3) := by decide +kernel
theorem dX9_init_34 : decode cX9_init 34 = .ok (.putfield 26, 3) := by decide +kernel
theorem dX9_init_37 : decode cX9_init 37 = .ok (.aload_n 0, 1) := by decide +kernel
theorem dX9_init_38 : decode cX9_init 38 = .ok (.new 30, 3) := by decide +kernel
theorem dX9_init_41 : decode cX9_init 41 = .ok (.dup, 1) := by decide +kernel
theorem dX9_init_42 : decode cX9_init 42 = .ok (.invokespecial 32, 3) := by decide +kernel
theorem dX9_init_45 : decode cX9_init 45 = .ok (.putfield 33, 3) := by decide +kernel
theorem dX9_init_48 : decode cX9_init 48 = .ok (.aload_n 0, 1) := by decide +kernel
theorem dX9_init_49 : decode cX9_init 49 = .ok (.new 37, 3) := by decide +kernel
theorem dX9_init_52 : decode cX9_init 52 = .ok (.dup, 1) := by decide +kernel
theorem dX9_init_53 : decode cX9_init 53 = .ok (.invokespecial 39, 3) := by decide +kernel
theorem dX9_init_56 : decode cX9_init 56 = .ok (.putfield 40, 3) := by decide +kernel
theorem dX9_init_59 : decode cX9_init 59 = .ok (.aload_n 0, 1) := by decide +kernel
theorem dX9_init_60 : decode cX9_init 60 = .ok (.new 44, 3) := by decide +kernel
theorem dX9_init_63 : decode cX9_init 63 = .ok (.dup, 1) := by decide +kernel
theorem dX9_init_64 : decode cX9_init 64 = .ok (.invokespecial 46, 3) := by decide +kernel
theorem dX9_init_67 : decode cX9_init 67 = .ok (.putfield 47, 3) := by decide +kernel
theorem dX9_init_70 : decode cX9_init 70 = .ok (.aload_n 0, 1) := by decide +kernel
theorem dX9_init_71 : decode cX9_init 71 = .ok (.new 51, 3) := by decide +kernel
theorem dX9_init_74 : decode cX9_init 74 = .ok (.dup, 1) := by decide +kernel
theorem dX9_init_75 : decode cX9_init 75 = .ok (.invokespecial 53, 3) := by decide +kernel
theorem dX9_init_78 : decode cX9_init 78 = .ok (.putfield 54, 3) := by decide +kernel
theorem dX9_init_81 : decode cX9_init 81 = .ok (.aload_n 0, 1) := by decide +kernel
theorem dX9_init_82 : decode cX9_init 82 = .ok (.iconst 4, 1) := by decide +kernel
theorem dX9_init_83 : decode cX9_init 83 = .ok (.anewarray 58, 3) := by decide +kernel
theorem dX9_init_86 : decode cX9_init 86 = .ok (.putfield 60, 3) := by decide +kernel
theorem dX9_init_89 : decode cX9_init 89 = .ok (.aload_n 0, 1) := by decide +kernel
theorem dX9_init_90 : decode cX9_init 90 = .ok (.iconst 1, 1) := by decide +kernel
theorem dX9_init_91 : decode cX9_init 91 = .ok (.putfield 64, 3) := by decide +kernel
theorem dX9_init_94 : decode cX9_init 94 = .ok (.aload_n 0, 1) := by decide +kernel
theorem dX9_init_95 : decode cX9_init 95 = .ok (.iconst 0, 1) := by decide +kernel
theorem dX9_init_96 : decode cX9_init 96 = .ok (.putfield 68, 3) := by decide +kernel
theorem dX9_init_99 : decode cX9_init 99 = .ok (.iconst 0, 1) := by decide +kernel
theorem dX9_init_100 : decode cX9_init 100 = .ok (.istore_n 1, 1) := by decide +kernel
theorem dX9_init_101 : decode cX9_init 101 = .ok (.iload_n 1, 1) := by decide +kernel
theorem dX9_init_102 : decode cX9_init 102 = .ok (.iconst 4, 1) := by decide +kernel
theorem dX9_init_103 : decode cX9_init 103 = .ok (.if_icmp .ge 22, 3) := by decide +kernel
theorem dX9_init_106 : decode cX9_init 106 = .ok (.aload_n 0, 1) := by decide +kernel
theorem dX9_init_107 : decode cX9_init 107 = .ok (.getfield 60, 3) := by decide +kernel
theorem dX9_init_110 : decode cX9_init 110 = .ok (.iload_n 1, 1) := by decide +kernel
theorem dX9_init_111 : decode cX9_init 111 = .ok (.new 58, 3) := by decide +kernel
theorem dX9_init_114 : decode cX9_init 114 = .ok (.dup, 1) := by decide +kernel
theorem dX9_init_115 : decode cX9_init 115 = .ok (.invokespecial 72, 3) := by decide +kernel
theorem dX9_init_118 : decode cX9_init 118 = .ok (.aastore, 1) := by decide +kernel
theorem dX9_init_119 : decode cX9_init 119 = .ok (.iinc 1 1, 3) := by decide +kernel
theorem dX9_init_122 : decode cX9_init 122 = .ok (.goto (-21), 3) := by decide +kernel
theorem dX9_init_125 : decode cX9_init 125 = .ok (.return_, 1) := by decide +kernel
theorem dX9_type_0 : decode cX9_type 0 = .ok (.iload_n 1, 1) := by decide +kernel
theorem dX9_type_1 : decode cX9_type 1 = .ok (.invokestatic 73, 3) := by decide +kernel
theorem dX9_type_4 : decode cX9_type 4 = .ok (.ifCond .eq 14, 3) := by decide +kernel
theorem dX9_type_7 : decode cX9_type 7 = .ok (.iload_n 2, 1) := by decide +kernel
theorem dX9_type_8 : decode cX9_type 8 = .ok (.iconst 0, 1) := by decide +kernel
theorem dX9_type_9 : decode cX9_type 9 = .ok (.sipush 255, 3) := by decide +kernel
theorem dX9_type_12 : decode cX9_type 12 = .ok (.invokestatic 77, 3) := by decide +kernel
theorem dX9_type_15 : decode cX9_type 15 = .ok (.ifCond .ne 6, 3) := by decide +kernel
theorem dX9_type_18 : decode cX9_type 18 = .ok (.bipush (-2), 2) := by decide +kernel
theorem dX9_type_20 : decode cX9_type 20 = .ok (.ireturn, 1) := by decide +kernel
theorem dX9_type_21 : decode cX9_type 21 = .ok (.aload_n 0, 1) := by decide +kernel
theorem dX9_type_22 : decode cX9_type 22 = .ok (.iload_n 1, 1) := by decide +kernel
theorem dX9_type_23 : decode cX9_type 23 = .ok (.invokevirtual 81, 3) := by decide +kernel
theorem dX9_type_26 : decode cX9_type 26 = .ok (.astore_n 3, 1) := by decide +kernel
theorem dX9_type_27 : decode cX9_type 27 = .ok (.aload_n 3, 1) := by decide +kernel
theorem dX9_type_28 : decode cX9_type 28 = .ok (.invokevirtual 85, 3) := by decide +kernel
theorem dX9_type_31 : decode cX9_type 31 = .ok (.ifCond .eq 6, 3) := by decide +kernel
theorem dX9_type_34 : decode cX9_type 34 = .ok (.bipush (-4), 2) := by decide +kernel
theorem dX9_type_36 : decode cX9_type 36 = .ok (.ireturn, 1) := by decide +kernel
theorem dX9_type_37 : decode cX9_type 37 = .ok (.aload_n 3, 1) := by decide +kernel
theorem dX9_type_38 : decode cX9_type 38 = .ok (.iload_n 2, 1) := by decide +kernel
theorem dX9_type_39 : decode cX9_type 39 = .ok (.invokevirtual 91, 3) := by decide +kernel
theorem dX9_type_42 : decode cX9_type 42 = .ok (.aload_n 0, 1) := by decide +kernel
theorem dX9_type_43 : decode cX9_type 43 = .ok (.iload_n 1, 1) := by decide +kernel
theorem dX9_type_44 : decode cX9_type 44 = .ok (.invokevirtual 95, 3) := by decide +kernel
theorem dX9_type_47 : decode cX9_type 47 = .ok (.aload_n 3, 1) := by decide +kernel
theorem dX9_type_48 : decode cX9_type 48 = .ok (.getfield 98, 3) := by decide +kernel
theorem dX9_type_51 : decode cX9_type 51 = .ok (.ireturn, 1) := by decide +kernel
theorem dX9_wipe_0 : decode cX9_wipe 0 = .ok (.iload_n 1, 1) := by decide +kernel
theorem dX9_wipe_1 : decode cX9_wipe 1 = .ok (.invokestatic 73, 3) := by decide +kernel
theorem dX9_wipe_4 : decode cX9_wipe 4 = .ok (.ifCond .ne 6, 3) := by decide +kernel
theorem dX9_wipe_7 : decode cX9_wipe 7 = .ok (.bipush (-2), 2) := by decide +kernel
theorem dX9_wipe_9 : decode cX9_wipe 9 = .ok (.ireturn, 1) := by decide +kernel
theorem dX9_wipe_10 : decode cX9_wipe 10 = .ok (.aload_n 0, 1) := by decide +kernel
theorem dX9_wipe_11 : decode cX9_wipe 11 = .ok (.iload_n 1, 1) := by decide +kernel
theorem dX9_wipe_12 : decode cX9_wipe 12 = .ok (.invokevirtual 81, 3) := by decide +kernel
theorem dX9_wipe_15 : decode cX9_wipe 15 = .ok (.astore_n 2, 1) := by decide +kernel
theorem dX9_wipe_16 : decode cX9_wipe 16 = .ok (.aload_n 2, 1) := by decide +kernel
theorem dX9_wipe_17 : decode cX9_wipe 17 = .ok (.getfield 98, 3) := by decide +kernel
theorem dX9_wipe_20 : decode cX9_wipe 20 = .ok (.istore_n 3, 1) := by decide +kernel
theorem dX9_wipe_21 : decode cX9_wipe 21 = .ok (.aload_n 2, 1) := by decide +kernel
theorem dX9_wipe_22 : decode cX9_wipe 22 = .ok (.iconst 0, 1) := by decide +kernel
theorem dX9_wipe_23 : decode cX9_wipe 23 = .ok (.putfield 98, 3) := by decide +kernel
theorem dX9_wipe_26 : decode cX9_wipe 26 = .ok (.aload_n 0, 1) := by decide +kernel
theorem dX9_wipe_27 : decode cX9_wipe 27 = .ok (.iload_n 1, 1) := by decide +kernel
theorem dX9_wipe_28 : decode cX9_wipe 28 = .ok (.invokevirtual 95, 3) := by decide +kernel
theorem dX9_wipe_31 : decode cX9_wipe 31 = .ok (.iload_n 3, 1) := by decide +kernel
theorem dX9_wipe_32 : decode cX9_wipe 32 = .ok (.ireturn, 1) := by decide +kernel
theorem dX9_undo_0 : decode cX9_undo 0 = .ok (.iload_n 1, 1) := by decide +kernel
theorem dX9_undo_1 : decode cX9_undo 1 = .ok (.invokestatic 73, 3) := by decide +kernel
theorem dX9_undo_4 : decode cX9_undo 4 = .ok (.ifCond .ne 6, 3) := by decide +kernel
theorem dX9_undo_7 : decode cX9_undo 7 = .ok (.bipush (-2), 2) := by decide +kernel
theorem dX9_undo_9 : decode cX9_undo 9 = .ok (.ireturn, 1) := by decide +kernel
theorem dX9_undo_10 : decode cX9_undo 10 = .ok (.aload_n 0, 1) := by decide +kernel
theorem dX9_undo_11 : decode cX9_undo 11 = .ok (.iload_n 1, 1) := by decide +kernel
theorem dX9_undo_12 : decode cX9_undo 12 = .ok (.invokevirtual 81, 3) := by decide +kernel
theorem dX9_undo_15 : decode cX9_undo 15 = .ok (.astore_n 2, 1) := by decide +kernel
theorem dX9_undo_16 : decode cX9_undo 16 = .ok (.aload_n 2, 1) := by decide +kernel
theorem dX9_undo_17 : decode cX9_undo 17 = .ok (.getfield 98, 3) := by decide +kernel
theorem dX9_undo_20 : decode cX9_undo 20 = .ok (.ifCond .gt 6, 3) := by decide +kernel
theorem dX9_undo_23 : decode cX9_undo 23 = .ok (.bipush (-3), 2) := by decide +kernel
theorem dX9_undo_25 : decode cX9_undo 25 = .ok (.ireturn, 1) := by decide +kernel
theorem dX9_undo_26 : decode cX9_undo 26 = .ok (.aload_n 2, 1) := by decide +kernel
theorem dX9_undo_27 : decode cX9_undo 27 = .ok (.dup, 1) := by decide +kernel
theorem dX9_undo_28 : decode cX9_undo 28 = .ok (.getfield 98, 3) := by decide +kernel
theorem dX9_undo_31 : decode cX9_undo 31 = .ok (.iconst 1, 1) := by decide +kernel
theorem dX9_undo_32 : decode cX9_undo 32 = .ok (.isub, 1) := by decide +kernel
theorem dX9_undo_33 : decode cX9_undo 33 = .ok (.putfield 98, 3) := by decide +kernel
theorem dX9_undo_36 : decode cX9_undo 36 = .ok (.aload_n 0, 1) := by decide +kernel
theorem dX9_undo_37 : decode cX9_undo 37 = .ok (.iload_n 1, 1) := by decide +kernel
theorem dX9_undo_38 : decode cX9_undo 38 = .ok (.invokevirtual 95, 3) := by decide +kernel
theorem dX9_undo_41 : decode cX9_undo 41 = .ok (.aload_n 2, 1) := by decide +kernel
theorem dX9_undo_42 : decode cX9_undo 42 = .ok (.getfield 98, 3) := by decide +kernel
theorem dX9_undo_45 : decode cX9_undo 45 = .ok (.ireturn, 1) := by decide +kernel
theorem dX9_fault_0 : decode cX9_fault 0 = .ok (.iload_n 1, 1) := by decide +kernel
theorem dX9_fault_1 : decode cX9_fault 1 = .ok (.invokestatic 73, 3) := by decide +kernel
theorem dX9_fault_4 : decode cX9_fault 4 = .ok (.ifCond .ne 6, 3) := by decide +kernel
theorem dX9_fault_7 : decode cX9_fault 7 = .ok (.bipush (-2), 2) := by decide +kernel
theorem dX9_fault_9 : decode cX9_fault 9 = .ok (.ireturn, 1) := by decide +kernel
theorem dX9_fault_10 : decode cX9_fault 10 = .ok (.iload_n 1, 1) := by decide +kernel
theorem dX9_fault_11 : decode cX9_fault 11 = .ok (.ifCond .ne 13, 3) := by decide +kernel
theorem dX9_fault_14 : decode cX9_fault 14 = .ok (.aload_n 0, 1) := by decide +kernel
theorem dX9_fault_15 : decode cX9_fault 15 = .ok (.getfield 12, 3) := by decide +kernel
theorem dX9_fault_18 : decode cX9_fault 18 = .ok (.getfield 101, 3) := by decide +kernel
theorem dX9_fault_21 : decode cX9_fault 21 = .ok (.goto 10, 3) := by decide +kernel
theorem dX9_fault_24 : decode cX9_fault 24 = .ok (.aload_n 0, 1) := by decide +kernel
theorem dX9_fault_25 : decode cX9_fault 25 = .ok (.getfield 19, 3) := by decide +kernel
theorem dX9_fault_28 : decode cX9_fault 28 = .ok (.getfield 104, 3) := by decide +kernel
theorem dX9_fault_31 : decode cX9_fault 31 = .ok (.ireturn, 1) := by decide +kernel
theorem dX9_tool_0 : decode cX9_tool 0 = .ok (.iload_n 1, 1) := by decide +kernel
theorem dX9_tool_1 : decode cX9_tool 1 = .ok (.invokestatic 105, 3) := by decide +kernel
theorem dX9_tool_4 : decode cX9_tool 4 = .ok (.ifCond .eq 10, 3) := by decide +kernel
theorem dX9_tool_7 : decode cX9_tool 7 = .ok (.iload_n 2, 1) := by decide +kernel
theorem dX9_tool_8 : decode cX9_tool 8 = .ok (.invokestatic 108, 3) := by decide +kernel
theorem dX9_tool_11 : decode cX9_tool 11 = .ok (.ifCond .ne 6, 3) := by decide +kernel
theorem dX9_tool_14 : decode cX9_tool 14 = .ok (.bipush (-2), 2) := by decide +kernel
theorem dX9_tool_16 : decode cX9_tool 16 = .ok (.ireturn, 1) := by decide +kernel
theorem dX9_tool_17 : decode cX9_tool 17 = .ok (.iload_n 2, 1) := by decide +kernel
theorem dX9_tool_18 : decode cX9_tool 18 = .ok (.ifCond .ne 16, 3) := by decide +kernel
theorem dX9_tool_21 : decode cX9_tool 21 = .ok (.iload_n 3, 1) := by decide +kernel
theorem dX9_tool_22 : decode cX9_tool 22 = .ok (.iconst 1, 1) := by decide +kernel
theorem dX9_tool_23 : decode cX9_tool 23 = .ok (.bipush 60, 2) := by decide +kernel
theorem dX9_tool_25 : decode cX9_tool 25 = .ok (.invokestatic 77, 3) := by decide +kernel
theorem dX9_tool_28 : decode cX9_tool 28 = .ok (.ifCond .ne 19, 3) := by decide +kernel
theorem dX9_tool_31 : decode cX9_tool 31 = .ok (.goto 13, 3) := by decide +kernel
theorem dX9_tool_34 : decode cX9_tool 34 = .ok (.iload_n 3, 1) := by decide +kernel
theorem dX9_tool_35 : decode cX9_tool 35 = .ok (.iconst 0, 1) := by decide +kernel
theorem dX9_tool_36 : decode cX9_tool 36 = .ok (.bipush 99, 2) := by decide +kernel
theorem dX9_tool_38 : decode cX9_tool 38 = .ok (.invokestatic 77, 3) := by decide +kernel
theorem dX9_tool_41 : decode cX9_tool 41 = .ok (.ifCond .ne 6, 3) := by decide +kernel
theorem dX9_tool_44 : decode cX9_tool 44 = .ok (.bipush (-2), 2) := by decide +kernel
theorem dX9_tool_46 : decode cX9_tool 46 = .ok (.ireturn, 1) := by decide +kernel
theorem dX9_tool_47 : decode cX9_tool 47 = .ok (.iload_n 2, 1) := by decide +kernel
theorem dX9_tool_48 : decode cX9_tool 48 = .ok (.ifCond .ne 13, 3) := by decide +kernel
theorem dX9_tool_51 : decode cX9_tool 51 = .ok (.aload_n 0, 1) := by decide +kernel
theorem dX9_tool_52 : decode cX9_tool 52 = .ok (.getfield 26, 3) := by decide +kernel
theorem dX9_tool_55 : decode cX9_tool 55 = .ok (.getfield 111, 3) := by decide +kernel
theorem dX9_tool_58 : decode cX9_tool 58 = .ok (.goto 10, 3) := by decide +kernel
theorem dX9_tool_61 : decode cX9_tool 61 = .ok (.aload_n 0, 1) := by decide +kernel
theorem dX9_tool_62 : decode cX9_tool 62 = .ok (.getfield 26, 3) := by decide +kernel
theorem dX9_tool_65 : decode cX9_tool 65 = .ok (.getfield 115, 3) := by decide +kernel
theorem dX9_tool_68 : decode cX9_tool 68 = .ok (.astore 4, 2) := by decide +kernel
theorem dX9_tool_70 : decode cX9_tool 70 = .ok (.aload 4, 2) := by decide +kernel
theorem dX9_tool_72 : decode cX9_tool 72 = .ok (.iload_n 1, 1) := by decide +kernel
theorem dX9_tool_73 : decode cX9_tool 73 = .ok (.iaload, 1) := by decide +kernel
theorem dX9_tool_74 : decode cX9_tool 74 = .ok (.istore 5, 2) := by decide +kernel
theorem dX9_tool_76 : decode cX9_tool 76 = .ok (.aload 4, 2) := by decide +kernel
theorem dX9_tool_78 : decode cX9_tool 78 = .ok (.iload_n 1, 1) := by decide +kernel
theorem dX9_tool_79 : decode cX9_tool 79 = .ok (.iload_n 3, 1) := by decide +kernel
theorem dX9_tool_80 : decode cX9_tool 80 = .ok (.iastore, 1) := by decide +kernel
theorem dX9_tool_81 : decode cX9_tool 81 = .ok (.aload_n 0, 1) := by decide +kernel
theorem dX9_tool_82 : decode cX9_tool 82 = .ok (.iconst 1, 1) := by decide +kernel
theorem dX9_tool_83 : decode cX9_tool 83 = .ok (.putfield 64, 3) := by decide +kernel
theorem dX9_tool_86 : decode cX9_tool 86 = .ok (.iload 5, 2) := by decide +kernel
theorem dX9_tool_88 : decode cX9_tool 88 = .ok (.ireturn, 1) := by decide +kernel
theorem dX9_looks_0 : decode cX9_looks 0 = .ok (.iload_n 1, 1) := by decide +kernel
theorem dX9_looks_1 : decode cX9_looks 1 = .ok (.invokestatic 118, 3) := by decide +kernel
theorem dX9_looks_4 : decode cX9_looks 4 = .ok (.ifCond .eq 20, 3) := by decide +kernel
theorem dX9_looks_7 : decode cX9_looks 7 = .ok (.iload_n 2, 1) := by decide +kernel
theorem dX9_looks_8 : decode cX9_looks 8 = .ok (.invokestatic 121, 3) := by decide +kernel
theorem dX9_looks_11 : decode cX9_looks 11 = .ok (.ifCond .eq 13, 3) := by decide +kernel
theorem dX9_looks_14 : decode cX9_looks 14 = .ok (.iload_n 3, 1) := by decide +kernel
theorem dX9_looks_15 : decode cX9_looks 15 = .ok (.iconst 0, 1) := by decide +kernel
theorem dX9_looks_16 : decode cX9_looks 16 = .ok (.bipush 9, 2) := by decide +kernel
theorem dX9_looks_18 : decode cX9_looks 18 = .ok (.invokestatic 77, 3) := by decide +kernel
theorem dX9_looks_21 : decode cX9_looks 21 = .ok (.ifCond .ne 6, 3) := by decide +kernel
theorem dX9_looks_24 : decode cX9_looks 24 = .ok (.bipush (-2), 2) := by decide +kernel
theorem dX9_looks_26 : decode cX9_looks 26 = .ok (.ireturn, 1) := by decide +kernel
theorem dX9_looks_27 : decode cX9_looks 27 = .ok (.aload_n 0, 1) := by decide +kernel
theorem dX9_looks_28 : decode cX9_looks 28 = .ok (.getfield 33, 3) := by decide +kernel
theorem dX9_looks_31 : decode cX9_looks 31 = .ok (.iload_n 1, 1) := by decide +kernel
theorem dX9_looks_32 : decode cX9_looks 32 = .ok (.iload_n 2, 1) := by decide +kernel
theorem dX9_looks_33 : decode cX9_looks 33 = .ok (.invokevirtual 124, 3) := by decide +kernel
theorem dX9_looks_36 : decode cX9_looks 36 = .ok (.istore 4, 2) := by decide +kernel
theorem dX9_looks_38 : decode cX9_looks 38 = .ok (.aload_n 0, 1) := by decide +kernel
theorem dX9_looks_39 : decode cX9_looks 39 = .ok (.getfield 33, 3) := by decide +kernel
theorem dX9_looks_42 : decode cX9_looks 42 = .ok (.iload_n 1, 1) := by decide +kernel
theorem dX9_looks_43 : decode cX9_looks 43 = .ok (.iload_n 2, 1) := by decide +kernel
theorem dX9_looks_44 : decode cX9_looks 44 = .ok (.iload_n 3, 1) := by decide +kernel
theorem dX9_looks_45 : decode cX9_looks 45 = .ok (.invokevirtual 128, 3) := by decide +kernel
theorem dX9_looks_48 : decode cX9_looks 48 = .ok (.aload_n 0, 1) := by decide +kernel
theorem dX9_looks_49 : decode cX9_looks 49 = .ok (.iconst 1, 1) := by decide +kernel
theorem dX9_looks_50 : decode cX9_looks 50 = .ok (.putfield 64, 3) := by decide +kernel
theorem dX9_looks_53 : decode cX9_looks 53 = .ok (.iload 4, 2) := by decide +kernel
theorem dX9_looks_55 : decode cX9_looks 55 = .ok (.ireturn, 1) := by decide +kernel
theorem dX9_read_0 : decode cX9_read 0 = .ok (.iload_n 1, 1) := by decide +kernel
theorem dX9_read_1 : decode cX9_read 1 = .ok (.invokestatic 132, 3) := by decide +kernel
theorem dX9_read_4 : decode cX9_read 4 = .ok (.ifCond .eq 10, 3) := by decide +kernel
theorem dX9_read_7 : decode cX9_read 7 = .ok (.iload_n 2, 1) := by decide +kernel
theorem dX9_read_8 : decode cX9_read 8 = .ok (.invokestatic 118, 3) := by decide +kernel
theorem dX9_read_11 : decode cX9_read 11 = .ok (.ifCond .ne 6, 3) := by decide +kernel
theorem dX9_read_14 : decode cX9_read 14 = .ok (.bipush (-2), 2) := by decide +kernel
theorem dX9_read_16 : decode cX9_read 16 = .ok (.ireturn, 1) := by decide +kernel
theorem dX9_read_17 : decode cX9_read 17 = .ok (.aload_n 0, 1) := by decide +kernel
theorem dX9_read_18 : decode cX9_read 18 = .ok (.getfield 60, 3) := by decide +kernel
theorem dX9_read_21 : decode cX9_read 21 = .ok (.iload_n 1, 1) := by decide +kernel
theorem dX9_read_22 : decode cX9_read 22 = .ok (.aaload, 1) := by decide +kernel
theorem dX9_read_23 : decode cX9_read 23 = .ok (.astore_n 3, 1) := by decide +kernel
theorem dX9_read_24 : decode cX9_read 24 = .ok (.aload_n 3, 1) := by decide +kernel
theorem dX9_read_25 : decode cX9_read 25 = .ok (.invokevirtual 135, 3) := by decide +kernel
theorem dX9_read_28 : decode cX9_read 28 = .ok (.ifCond .eq 9, 3) := by decide +kernel
theorem dX9_read_31 : decode cX9_read 31 = .ok (.aload_n 0, 1) := by decide +kernel
theorem dX9_read_32 : decode cX9_read 32 = .ok (.iconst 1, 1) := by decide +kernel
theorem dX9_read_33 : decode cX9_read 33 = .ok (.invokevirtual 138, 3) := by decide +kernel
theorem dX9_read_36 : decode cX9_read 36 = .ok (.ireturn, 1) := by decide +kernel
theorem dX9_read_37 : decode cX9_read 37 = .ok (.aload_n 3, 1) := by decide +kernel
theorem dX9_read_38 : decode cX9_read 38 = .ok (.getfield 142, 3) := by decide +kernel
theorem dX9_read_41 : decode cX9_read 41 = .ok (.bipush 32, 2) := by decide +kernel
theorem dX9_read_43 : decode cX9_read 43 = .ok (.invokestatic 143, 3) := by decide +kernel
theorem dX9_read_46 : decode cX9_read 46 = .ok (.istore 4, 2) := by decide +kernel
theorem dX9_read_48 : decode cX9_read 48 = .ok (.iconst 0, 1) := by decide +kernel
theorem dX9_read_49 : decode cX9_read 49 = .ok (.istore 5, 2) := by decide +kernel
theorem dX9_read_51 : decode cX9_read 51 = .ok (.iload 5, 2) := by decide +kernel
theorem dX9_read_53 : decode cX9_read 53 = .ok (.iload 4, 2) := by decide +kernel
theorem dX9_read_55 : decode cX9_read 55 = .ok (.if_icmp .ge 42, 3) := by decide +kernel
theorem dX9_read_58 : decode cX9_read 58 = .ok (.aload_n 3, 1) := by decide +kernel
theorem dX9_read_59 : decode cX9_read 59 = .ok (.getfield 148, 3) := by decide +kernel
theorem dX9_read_62 : decode cX9_read 62 = .ok (.iload 5, 2) := by decide +kernel
theorem dX9_read_64 : decode cX9_read 64 = .ok (.iaload, 1) := by decide +kernel
theorem dX9_read_65 : decode cX9_read 65 = .ok (.iconst 0, 1) := by decide +kernel
theorem dX9_read_66 : decode cX9_read 66 = .ok (.bipush 9, 2) := by decide +kernel
theorem dX9_read_68 : decode cX9_read 68 = .ok (.invokestatic 77, 3) := by decide +kernel
theorem dX9_read_71 : decode cX9_read 71 = .ok (.ifCond .eq 26, 3) := by decide +kernel
theorem dX9_read_74 : decode cX9_read 74 = .ok (.aload_n 0, 1) := by decide +kernel
theorem dX9_read_75 : decode cX9_read 75 = .ok (.getfield 33, 3) := by decide +kernel
theorem dX9_read_78 : decode cX9_read 78 = .ok (.iload_n 2, 1) := by decide +kernel
theorem dX9_read_79 : decode cX9_read 79 = .ok (.iload 5, 2) := by decide +kernel
theorem dX9_read_81 : decode cX9_read 81 = .ok (.aload_n 3, 1) := by decide +kernel
theorem dX9_read_82 : decode cX9_read 82 = .ok (.getfield 148, 3) := by decide +kernel
theorem dX9_read_85 : decode cX9_read 85 = .ok (.iload 5, 2) := by decide +kernel
theorem dX9_read_87 : decode cX9_read 87 = .ok (.iaload, 1) := by decide +kernel
theorem dX9_read_88 : decode cX9_read 88 = .ok (.invokevirtual 128, 3) := by decide +kernel
theorem dX9_read_91 : decode cX9_read 91 = .ok (.iinc 5 1, 3) := by decide +kernel
theorem dX9_read_94 : decode cX9_read 94 = .ok (.goto (-43), 3) := by decide +kernel
theorem dX9_read_97 : decode cX9_read 97 = .ok (.aload_n 0, 1) := by decide +kernel
theorem dX9_read_98 : decode cX9_read 98 = .ok (.iconst 1, 1) := by decide +kernel
theorem dX9_read_99 : decode cX9_read 99 = .ok (.putfield 64, 3) := by decide +kernel
theorem dX9_read_102 : decode cX9_read 102 = .ok (.iload 5, 2) := by decide +kernel
theorem dX9_read_104 : decode cX9_read 104 = .ok (.ireturn, 1) := by decide +kernel
theorem dX9_stroke_0 : decode cX9_stroke 0 = .ok (.iload_n 1, 1) := by decide +kernel
theorem dX9_stroke_1 : decode cX9_stroke 1 = .ok (.invokestatic 105, 3) := by decide +kernel
theorem dX9_stroke_4 : decode cX9_stroke 4 = .ok (.ifCond .eq 10, 3) := by decide +kernel
theorem dX9_stroke_7 : decode cX9_stroke 7 = .ok (.iload_n 2, 1) := by decide +kernel
theorem dX9_stroke_8 : decode cX9_stroke 8 = .ok (.invokestatic 121, 3) := by decide +kernel
theorem dX9_stroke_11 : decode cX9_stroke 11 = .ok (.ifCond .ne 6, 3) := by decide +kernel
theorem dX9_stroke_14 : decode cX9_stroke 14 = .ok (.bipush (-2), 2) := by decide +kernel
theorem dX9_stroke_16 : decode cX9_stroke 16 = .ok (.ireturn, 1) := by decide +kernel
theorem dX9_stroke_17 : decode cX9_stroke 17 = .ok (.aload_n 0, 1) := by decide +kernel
theorem dX9_stroke_18 : decode cX9_stroke 18 = .ok (.getfield 40, 3) := by decide +kernel
theorem dX9_stroke_21 : decode cX9_stroke 21 = .ok (.getfield 151, 3) := by decide +kernel
theorem dX9_stroke_24 : decode cX9_stroke 24 = .ok (.bipush 40, 2) := by decide +kernel
theorem dX9_stroke_26 : decode cX9_stroke 26 = .ok (.if_icmp .lt 6, 3) := by decide +kernel
theorem dX9_stroke_29 : decode cX9_stroke 29 = .ok (.bipush (-4), 2) := by decide +kernel
theorem dX9_stroke_31 : decode cX9_stroke 31 = .ok (.ireturn, 1) := by decide +kernel
theorem dX9_stroke_32 : decode cX9_stroke 32 = .ok (.aload_n 0, 1) := by decide +kernel
theorem dX9_stroke_33 : decode cX9_stroke 33 = .ok (.getfield 40, 3) := by decide +kernel
theorem dX9_stroke_36 : decode cX9_stroke 36 = .ok (.iload_n 1, 1) := by decide +kernel
theorem dX9_stroke_37 : decode cX9_stroke 37 = .ok (.iload_n 2, 1) := by decide +kernel
theorem dX9_stroke_38 : decode cX9_stroke 38 = .ok (.invokevirtual 152, 3) := by decide +kernel
theorem dX9_stroke_41 : decode cX9_stroke 41 = .ok (.aload_n 0, 1) := by decide +kernel
theorem dX9_stroke_42 : decode cX9_stroke 42 = .ok (.iconst 1, 1) := by decide +kernel
theorem dX9_stroke_43 : decode cX9_stroke 43 = .ok (.putfield 64, 3) := by decide +kernel
theorem dX9_stroke_46 : decode cX9_stroke 46 = .ok (.aload_n 0, 1) := by decide +kernel
theorem dX9_stroke_47 : decode cX9_stroke 47 = .ok (.getfield 40, 3) := by decide +kernel
theorem dX9_stroke_50 : decode cX9_stroke 50 = .ok (.getfield 151, 3) := by decide +kernel
theorem dX9_stroke_53 : decode cX9_stroke 53 = .ok (.ireturn, 1) := by decide +kernel
theorem dX9_back_0 : decode cX9_back 0 = .ok (.aload_n 0, 1) := by decide +kernel
theorem dX9_back_1 : decode cX9_back 1 = .ok (.getfield 40, 3) := by decide +kernel
theorem dX9_back_4 : decode cX9_back 4 = .ok (.getfield 151, 3) := by decide +kernel
theorem dX9_back_7 : decode cX9_back 7 = .ok (.ifCond .gt 6, 3) := by decide +kernel
theorem dX9_back_10 : decode cX9_back 10 = .ok (.bipush (-3), 2) := by decide +kernel
theorem dX9_back_12 : decode cX9_back 12 = .ok (.ireturn, 1) := by decide +kernel
theorem dX9_back_13 : decode cX9_back 13 = .ok (.aload_n 0, 1) := by decide +kernel
theorem dX9_back_14 : decode cX9_back 14 = .ok (.getfield 40, 3) := by decide +kernel
theorem dX9_back_17 : decode cX9_back 17 = .ok (.dup, 1) := by decide +kernel
theorem dX9_back_18 : decode cX9_back 18 = .ok (.getfield 151, 3) := by decide +kernel
theorem dX9_back_21 : decode cX9_back 21 = .ok (.iconst 1, 1) := by decide +kernel
theorem dX9_back_22 : decode cX9_back 22 = .ok (.isub, 1) := by decide +kernel
theorem dX9_back_23 : decode cX9_back 23 = .ok (.putfield 151, 3) := by decide +kernel
theorem dX9_back_26 : decode cX9_back 26 = .ok (.aload_n 0, 1) := by decide +kernel
theorem dX9_back_27 : decode cX9_back 27 = .ok (.iconst 1, 1) := by decide +kernel
theorem dX9_back_28 : decode cX9_back 28 = .ok (.putfield 64, 3) := by decide +kernel
theorem dX9_back_31 : decode cX9_back 31 = .ok (.aload_n 0, 1) := by decide +kernel
theorem dX9_back_32 : decode cX9_back 32 = .ok (.getfield 40, 3) := by decide +kernel
theorem dX9_back_35 : decode cX9_back 35 = .ok (.getfield 151, 3) := by decide +kernel
theorem dX9_back_38 : decode cX9_back 38 = .ok (.ireturn, 1) := by decide +kernel
theorem dX9_judged_0 : decode cX9_judged 0 = .ok (.aload_n 0, 1) := by decide +kernel
theorem dX9_judged_1 : decode cX9_judged 1 = .ok (.invokevirtual 155, 3) := by decide +kernel
theorem dX9_judged_4 : decode cX9_judged 4 = .ok (.aload_n 0, 1) := by decide +kernel
theorem dX9_judged_5 : decode cX9_judged 5 = .ok (.getfield 40, 3) := by decide +kernel
theorem dX9_judged_8 : decode cX9_judged 8 = .ok (.getfield 151, 3) := by decide +kernel
theorem dX9_judged_11 : decode cX9_judged 11 = .ok (.invokevirtual 159, 3) := by decide +kernel
theorem dX9_judged_14 : decode cX9_judged 14 = .ok (.ireturn, 1) := by decide +kernel
theorem dX9_thick_0 : decode cX9_thick 0 = .ok (.iload_n 1, 1) := by decide +kernel
theorem dX9_thick_1 : decode cX9_thick 1 = .ok (.iconst 0, 1) := by decide +kernel
theorem dX9_thick_2 : decode cX9_thick 2 = .ok (.aload_n 0, 1) := by decide +kernel
theorem dX9_thick_3 : decode cX9_thick 3 = .ok (.getfield 40, 3) := by decide +kernel
theorem dX9_thick_6 : decode cX9_thick 6 = .ok (.getfield 151, 3) := by decide +kernel
theorem dX9_thick_9 : decode cX9_thick 9 = .ok (.invokestatic 77, 3) := by decide +kernel
theorem dX9_thick_12 : decode cX9_thick 12 = .ok (.ifCond .eq 23, 3) := by decide +kernel
theorem dX9_thick_15 : decode cX9_thick 15 = .ok (.iload_n 2, 1) := by decide +kernel
theorem dX9_thick_16 : decode cX9_thick 16 = .ok (.invokestatic 121, 3) := by decide +kernel
theorem dX9_thick_19 : decode cX9_thick 19 = .ok (.ifCond .eq 16, 3) := by decide +kernel
theorem dX9_thick_22 : decode cX9_thick 22 = .ok (.aload_n 0, 1) := by decide +kernel
theorem dX9_thick_23 : decode cX9_thick 23 = .ok (.getfield 12, 3) := by decide +kernel
theorem dX9_thick_26 : decode cX9_thick 26 = .ok (.getfield 162, 3) := by decide +kernel
theorem dX9_thick_29 : decode cX9_thick 29 = .ok (.iload_n 2, 1) := by decide +kernel
theorem dX9_thick_30 : decode cX9_thick 30 = .ok (.iaload, 1) := by decide +kernel
theorem dX9_thick_31 : decode cX9_thick 31 = .ok (.iconst (-1), 1) := by decide +kernel
theorem dX9_thick_32 : decode cX9_thick 32 = .ok (.if_icmp .ne 6, 3) := by decide +kernel
theorem dX9_thick_35 : decode cX9_thick 35 = .ok (.bipush (-2), 2) := by decide +kernel
theorem dX9_thick_37 : decode cX9_thick 37 = .ok (.ireturn, 1) := by decide +kernel
theorem dX9_thick_38 : decode cX9_thick 38 = .ok (.aload_n 0, 1) := by decide +kernel
theorem dX9_thick_39 : decode cX9_thick 39 = .ok (.invokevirtual 155, 3) := by decide +kernel
theorem dX9_thick_42 : decode cX9_thick 42 = .ok (.iload_n 1, 1) := by decide +kernel
theorem dX9_thick_43 : decode cX9_thick 43 = .ok (.iload_n 2, 1) := by decide +kernel
theorem dX9_thick_44 : decode cX9_thick 44 = .ok (.aload_n 0, 1) := by decide +kernel
theorem dX9_thick_45 : decode cX9_thick 45 = .ok (.getfield 40, 3) := by decide +kernel
theorem dX9_thick_48 : decode cX9_thick 48 = .ok (.invokevirtual 165, 3) := by decide +kernel
theorem dX9_thick_51 : decode cX9_thick 51 = .ok (.ifCond .eq 7, 3) := by decide +kernel
theorem dX9_thick_54 : decode cX9_thick 54 = .ok (.iconst 0, 1) := by decide +kernel
theorem dX9_thick_55 : decode cX9_thick 55 = .ok (.goto 12, 3) := by decide +kernel
theorem dX9_thick_58 : decode cX9_thick 58 = .ok (.aload_n 0, 1) := by decide +kernel
theorem dX9_thick_59 : decode cX9_thick 59 = .ok (.getfield 12, 3) := by decide +kernel
theorem dX9_thick_62 : decode cX9_thick 62 = .ok (.getfield 162, 3) := by decide +kernel
theorem dX9_thick_65 : decode cX9_thick 65 = .ok (.iload_n 2, 1) := by decide +kernel
theorem dX9_thick_66 : decode cX9_thick 66 = .ok (.iaload, 1) := by decide +kernel
theorem dX9_thick_67 : decode cX9_thick 67 = .ok (.ireturn, 1) := by decide +kernel
theorem dX9_state_0 : decode cX9_state 0 = .ok (.iload_n 1, 1) := by decide +kernel
theorem dX9_state_1 : decode cX9_state 1 = .ok (.iconst 0, 1) := by decide +kernel
theorem dX9_state_2 : decode cX9_state 2 = .ok (.aload_n 0, 1) := by decide +kernel
theorem dX9_state_3 : decode cX9_state 3 = .ok (.getfield 40, 3) := by decide +kernel
theorem dX9_state_6 : decode cX9_state 6 = .ok (.getfield 151, 3) := by decide +kernel
theorem dX9_state_9 : decode cX9_state 9 = .ok (.invokestatic 77, 3) := by decide +kernel
theorem dX9_state_12 : decode cX9_state 12 = .ok (.ifCond .eq 12, 3) := by decide +kernel
theorem dX9_state_15 : decode cX9_state 15 = .ok (.iload_n 2, 1) := by decide +kernel
theorem dX9_state_16 : decode cX9_state 16 = .ok (.iconst 0, 1) := by decide +kernel
theorem dX9_state_17 : decode cX9_state 17 = .ok (.iconst 2, 1) := by decide +kernel
theorem dX9_state_18 : decode cX9_state 18 = .ok (.invokestatic 77, 3) := by decide +kernel
theorem dX9_state_21 : decode cX9_state 21 = .ok (.ifCond .ne 6, 3) := by decide +kernel
theorem dX9_state_24 : decode cX9_state 24 = .ok (.bipush (-2), 2) := by decide +kernel
theorem dX9_state_26 : decode cX9_state 26 = .ok (.ireturn, 1) := by decide +kernel
theorem dX9_state_27 : decode cX9_state 27 = .ok (.iload_n 2, 1) := by decide +kernel
theorem dX9_state_28 : decode cX9_state 28 = .ok (.ifCond .ne 20, 3) := by decide +kernel
theorem dX9_state_31 : decode cX9_state 31 = .ok (.aload_n 0, 1) := by decide +kernel
theorem dX9_state_32 : decode cX9_state 32 = .ok (.invokevirtual 155, 3) := by decide +kernel
theorem dX9_state_35 : decode cX9_state 35 = .ok (.iload_n 1, 1) := by decide +kernel
theorem dX9_state_36 : decode cX9_state 36 = .ok (.aload_n 0, 1) := by decide +kernel
theorem dX9_state_37 : decode cX9_state 37 = .ok (.getfield 40, 3) := by decide +kernel
theorem dX9_state_40 : decode cX9_state 40 = .ok (.aload_n 0, 1) := by decide +kernel
theorem dX9_state_41 : decode cX9_state 41 = .ok (.getfield 26, 3) := by decide +kernel
theorem dX9_state_44 : decode cX9_state 44 = .ok (.invokevirtual 169, 3) := by decide +kernel
theorem dX9_state_47 : decode cX9_state 47 = .ok (.ireturn, 1) := by decide +kernel
theorem dX9_state_48 : decode cX9_state 48 = .ok (.iload_n 2, 1) := by decide +kernel
theorem dX9_state_49 : decode cX9_state 49 = .ok (.iconst 1, 1) := by decide +kernel
theorem dX9_state_50 : decode cX9_state 50 = .ok (.if_icmp .ne 20, 3) := by decide +kernel
theorem dX9_state_53 : decode cX9_state 53 = .ok (.aload_n 0, 1) := by decide +kernel
theorem dX9_state_54 : decode cX9_state 54 = .ok (.invokevirtual 155, 3) := by decide +kernel
theorem dX9_state_57 : decode cX9_state 57 = .ok (.iload_n 1, 1) := by decide +kernel
theorem dX9_state_58 : decode cX9_state 58 = .ok (.aload_n 0, 1) := by decide +kernel
theorem dX9_state_59 : decode cX9_state 59 = .ok (.getfield 40, 3) := by decide +kernel
theorem dX9_state_62 : decode cX9_state 62 = .ok (.aload_n 0, 1) := by decide +kernel
theorem dX9_state_63 : decode cX9_state 63 = .ok (.getfield 12, 3) := by decide +kernel
theorem dX9_state_66 : decode cX9_state 66 = .ok (.invokevirtual 173, 3) := by decide +kernel
theorem dX9_state_69 : decode cX9_state 69 = .ok (.ireturn, 1) := by decide +kernel
theorem dX9_state_70 : decode cX9_state 70 = .ok (.aload_n 0, 1) := by decide +kernel
theorem dX9_state_71 : decode cX9_state 71 = .ok (.getfield 12, 3) := by decide +kernel
theorem dX9_state_74 : decode cX9_state 74 = .ok (.getfield 177, 3) := by decide +kernel
theorem dX9_state_77 : decode cX9_state 77 = .ok (.aload_n 0, 1) := by decide +kernel
theorem dX9_state_78 : decode cX9_state 78 = .ok (.invokevirtual 155, 3) := by decide +kernel
theorem dX9_state_81 : decode cX9_state 81 = .ok (.iload_n 1, 1) := by decide +kernel
theorem dX9_state_82 : decode cX9_state 82 = .ok (.invokevirtual 180, 3) := by decide +kernel
theorem dX9_state_85 : decode cX9_state 85 = .ok (.iadd, 1) := by decide +kernel
theorem dX9_state_86 : decode cX9_state 86 = .ok (.ireturn, 1) := by decide +kernel
theorem dX9_left_0 : decode cX9_left 0 = .ok (.iload_n 1, 1) := by decide +kernel
theorem dX9_left_1 : decode cX9_left 1 = .ok (.invokestatic 105, 3) := by decide +kernel
theorem dX9_left_4 : decode cX9_left 4 = .ok (.ifCond .ne 6, 3) := by decide +kernel
theorem dX9_left_7 : decode cX9_left 7 = .ok (.bipush (-2), 2) := by decide +kernel
theorem dX9_left_9 : decode cX9_left 9 = .ok (.ireturn, 1) := by decide +kernel
theorem dX9_left_10 : decode cX9_left 10 = .ok (.aload_n 0, 1) := by decide +kernel
theorem dX9_left_11 : decode cX9_left 11 = .ok (.invokevirtual 155, 3) := by decide +kernel
theorem dX9_left_14 : decode cX9_left 14 = .ok (.getfield 183, 3) := by decide +kernel
theorem dX9_left_17 : decode cX9_left 17 = .ok (.iload_n 1, 1) := by decide +kernel
theorem dX9_left_18 : decode cX9_left 18 = .ok (.iaload, 1) := by decide +kernel
theorem dX9_left_19 : decode cX9_left 19 = .ok (.ireturn, 1) := by decide +kernel
theorem dX9_risk_0 : decode cX9_risk 0 = .ok (.aload_n 0, 1) := by decide +kernel
theorem dX9_risk_1 : decode cX9_risk 1 = .ok (.iload_n 1, 1) := by decide +kernel
theorem dX9_risk_2 : decode cX9_risk 2 = .ok (.invokevirtual 186, 3) := by decide +kernel
theorem dX9_risk_5 : decode cX9_risk 5 = .ok (.ifCond .ne 6, 3) := by decide +kernel
theorem dX9_risk_8 : decode cX9_risk 8 = .ok (.bipush (-2), 2) := by decide +kernel
theorem dX9_risk_10 : decode cX9_risk 10 = .ok (.ireturn, 1) := by decide +kernel
theorem dX9_risk_11 : decode cX9_risk 11 = .ok (.aload_n 0, 1) := by decide +kernel
theorem dX9_risk_12 : decode cX9_risk 12 = .ok (.invokevirtual 155, 3) := by decide +kernel
theorem dX9_risk_15 : decode cX9_risk 15 = .ok (.aload_n 0, 1) := by decide +kernel
theorem dX9_risk_16 : decode cX9_risk 16 = .ok (.getfield 19, 3) := by decide +kernel
theorem dX9_risk_19 : decode cX9_risk 19 = .ok (.iload_n 1, 1) := by decide +kernel
theorem dX9_risk_20 : decode cX9_risk 20 = .ok (.invokevirtual 189, 3) := by decide +kernel
theorem dX9_risk_23 : decode cX9_risk 23 = .ok (.aload_n 0, 1) := by decide +kernel
theorem dX9_risk_24 : decode cX9_risk 24 = .ok (.getfield 33, 3) := by decide +kernel
theorem dX9_risk_27 : decode cX9_risk 27 = .ok (.invokevirtual 192, 3) := by decide +kernel
theorem dX9_risk_30 : decode cX9_risk 30 = .ok (.ireturn, 1) := by decide +kernel
theorem dX9_all_0 : decode cX9_all 0 = .ok (.iload_n 1, 1) := by decide +kernel
theorem dX9_all_1 : decode cX9_all 1 = .ok (.invokestatic 105, 3) := by decide +kernel
theorem dX9_all_4 : decode cX9_all 4 = .ok (.ifCond .ne 6, 3) := by decide +kernel
theorem dX9_all_7 : decode cX9_all 7 = .ok (.bipush (-2), 2) := by decide +kernel
theorem dX9_all_9 : decode cX9_all 9 = .ok (.ireturn, 1) := by decide +kernel
theorem dX9_all_10 : decode cX9_all 10 = .ok (.aload_n 0, 1) := by decide +kernel
theorem dX9_all_11 : decode cX9_all 11 = .ok (.invokevirtual 155, 3) := by decide +kernel
theorem dX9_all_14 : decode cX9_all 14 = .ok (.getfield 196, 3) := by decide +kernel
theorem dX9_all_17 : decode cX9_all 17 = .ok (.aload_n 0, 1) := by decide +kernel
theorem dX9_all_18 : decode cX9_all 18 = .ok (.getfield 26, 3) := by decide +kernel
theorem dX9_all_21 : decode cX9_all 21 = .ok (.getfield 111, 3) := by decide +kernel
theorem dX9_all_24 : decode cX9_all 24 = .ok (.iload_n 1, 1) := by decide +kernel
theorem dX9_all_25 : decode cX9_all 25 = .ok (.iaload, 1) := by decide +kernel
theorem dX9_all_26 : decode cX9_all 26 = .ok (.imul, 1) := by decide +kernel
theorem dX9_all_27 : decode cX9_all 27 = .ok (.ireturn, 1) := by decide +kernel
theorem dX9_first_0 : decode cX9_first 0 = .ok (.iload_n 1, 1) := by decide +kernel
theorem dX9_first_1 : decode cX9_first 1 = .ok (.invokestatic 105, 3) := by decide +kernel
theorem dX9_first_4 : decode cX9_first 4 = .ok (.ifCond .eq 13, 3) := by decide +kernel
theorem dX9_first_7 : decode cX9_first 7 = .ok (.iload_n 2, 1) := by decide +kernel
theorem dX9_first_8 : decode cX9_first 8 = .ok (.iconst (-1), 1) := by decide +kernel
theorem dX9_first_9 : decode cX9_first 9 = .ok (.bipush 31, 2) := by decide +kernel
theorem dX9_first_11 : decode cX9_first 11 = .ok (.invokestatic 77, 3) := by decide +kernel
theorem dX9_first_14 : decode cX9_first 14 = .ok (.ifCond .ne 6, 3) := by decide +kernel
theorem dX9_first_17 : decode cX9_first 17 = .ok (.bipush (-2), 2) := by decide +kernel
theorem dX9_first_19 : decode cX9_first 19 = .ok (.ireturn, 1) := by decide +kernel
theorem dX9_first_20 : decode cX9_first 20 = .ok (.aload_n 0, 1) := by decide +kernel
theorem dX9_first_21 : decode cX9_first 21 = .ok (.invokevirtual 155, 3) := by decide +kernel
theorem dX9_first_24 : decode cX9_first 24 = .ok (.astore_n 3, 1) := by decide +kernel
theorem dX9_first_25 : decode cX9_first 25 = .ok (.iload_n 2, 1) := by decide +kernel
theorem dX9_first_26 : decode cX9_first 26 = .ok (.iconst (-1), 1) := by decide +kernel
theorem dX9_first_27 : decode cX9_first 27 = .ok (.if_icmp .ne 8, 3) := by decide +kernel
theorem dX9_first_30 : decode cX9_first 30 = .ok (.aload_n 3, 1) := by decide +kernel
theorem dX9_first_31 : decode cX9_first 31 = .ok (.getfield 199, 3) := by decide +kernel
theorem dX9_first_34 : decode cX9_first 34 = .ok (.ireturn, 1) := by decide +kernel
theorem dX9_first_35 : decode cX9_first 35 = .ok (.iload_n 2, 1) := by decide +kernel
theorem dX9_first_36 : decode cX9_first 36 = .ok (.aload_n 3, 1) := by decide +kernel
theorem dX9_first_37 : decode cX9_first 37 = .ok (.getfield 199, 3) := by decide +kernel
theorem dX9_first_40 : decode cX9_first 40 = .ok (.if_icmp .ge 12, 3) := by decide +kernel
theorem dX9_first_43 : decode cX9_first 43 = .ok (.aload_n 3, 1) := by decide +kernel
theorem dX9_first_44 : decode cX9_first 44 = .ok (.getfield 202, 3) := by decide +kernel
theorem dX9_first_47 : decode cX9_first 47 = .ok (.iload_n 2, 1) := by decide +kernel
theorem dX9_first_48 : decode cX9_first 48 = .ok (.iaload, 1) := by decide +kernel
theorem dX9_first_49 : decode cX9_first 49 = .ok (.goto 4, 3) := by decide +kernel
theorem dX9_first_52 : decode cX9_first 52 = .ok (.iconst (-1), 1) := by decide +kernel
theorem dX9_first_53 : decode cX9_first 53 = .ok (.ireturn, 1) := by decide +kernel
theorem dX9_stop_0 : decode cX9_stop 0 = .ok (.iload_n 1, 1) := by decide +kernel
theorem dX9_stop_1 : decode cX9_stop 1 = .ok (.invokestatic 105, 3) := by decide +kernel
theorem dX9_stop_4 : decode cX9_stop 4 = .ok (.ifCond .eq 31, 3) := by decide +kernel
theorem dX9_stop_7 : decode cX9_stop 7 = .ok (.iload_n 2, 1) := by decide +kernel
theorem dX9_stop_8 : decode cX9_stop 8 = .ok (.iconst 0, 1) := by decide +kernel
theorem dX9_stop_9 : decode cX9_stop 9 = .ok (.bipush 99, 2) := by decide +kernel
theorem dX9_stop_11 : decode cX9_stop 11 = .ok (.invokestatic 77, 3) := by decide +kernel
theorem dX9_stop_14 : decode cX9_stop 14 = .ok (.ifCond .eq 21, 3) := by decide +kernel
theorem dX9_stop_17 : decode cX9_stop 17 = .ok (.iload_n 3, 1) := by decide +kernel
theorem dX9_stop_18 : decode cX9_stop 18 = .ok (.iconst 0, 1) := by decide +kernel
theorem dX9_stop_19 : decode cX9_stop 19 = .ok (.bipush 99, 2) := by decide +kernel
theorem dX9_stop_21 : decode cX9_stop 21 = .ok (.invokestatic 77, 3) := by decide +kernel
theorem dX9_stop_24 : decode cX9_stop 24 = .ok (.ifCond .eq 11, 3) := by decide +kernel
theorem dX9_stop_27 : decode cX9_stop 27 = .ok (.iload 4, 2) := by decide +kernel
theorem dX9_stop_29 : decode cX9_stop 29 = .ok (.invokestatic 108, 3) := by decide +kernel
theorem dX9_stop_32 : decode cX9_stop 32 = .ok (.ifCond .ne 6, 3) := by decide +kernel
theorem dX9_stop_35 : decode cX9_stop 35 = .ok (.bipush (-2), 2) := by decide +kernel
theorem dX9_stop_37 : decode cX9_stop 37 = .ok (.ireturn, 1) := by decide +kernel
theorem dX9_stop_38 : decode cX9_stop 38 = .ok (.aload_n 0, 1) := by decide +kernel
theorem dX9_stop_39 : decode cX9_stop 39 = .ok (.invokevirtual 155, 3) := by decide +kernel
theorem dX9_stop_42 : decode cX9_stop 42 = .ok (.astore 5, 2) := by decide +kernel
theorem dX9_stop_44 : decode cX9_stop 44 = .ok (.iload_n 2, 1) := by decide +kernel
theorem dX9_stop_45 : decode cX9_stop 45 = .ok (.aload_n 0, 1) := by decide +kernel
theorem dX9_stop_46 : decode cX9_stop 46 = .ok (.getfield 26, 3) := by decide +kernel
theorem dX9_stop_49 : decode cX9_stop 49 = .ok (.getfield 111, 3) := by decide +kernel
theorem dX9_stop_52 : decode cX9_stop 52 = .ok (.iload_n 1, 1) := by decide +kernel
theorem dX9_stop_53 : decode cX9_stop 53 = .ok (.iaload, 1) := by decide +kernel
theorem dX9_stop_54 : decode cX9_stop 54 = .ok (.imul, 1) := by decide +kernel
theorem dX9_stop_55 : decode cX9_stop 55 = .ok (.istore 6, 2) := by decide +kernel
theorem dX9_stop_57 : decode cX9_stop 57 = .ok (.aload 5, 2) := by decide +kernel
theorem dX9_stop_59 : decode cX9_stop 59 = .ok (.iload 6, 2) := by decide +kernel
theorem dX9_stop_61 : decode cX9_stop 61 = .ok (.iload_n 3, 1) := by decide +kernel
theorem dX9_stop_62 : decode cX9_stop 62 = .ok (.invokevirtual 205, 3) := by decide +kernel
theorem dX9_stop_65 : decode cX9_stop 65 = .ok (.istore 7, 2) := by decide +kernel
theorem dX9_stop_67 : decode cX9_stop 67 = .ok (.iload 4, 2) := by decide +kernel
theorem dX9_stop_69 : decode cX9_stop 69 = .ok (.ifCond .ne 6, 3) := by decide +kernel
theorem dX9_stop_72 : decode cX9_stop 72 = .ok (.iload 7, 2) := by decide +kernel
theorem dX9_stop_74 : decode cX9_stop 74 = .ok (.ireturn, 1) := by decide +kernel
theorem dX9_stop_75 : decode cX9_stop 75 = .ok (.iload_n 3, 1) := by decide +kernel
theorem dX9_stop_76 : decode cX9_stop 76 = .ok (.aload 5, 2) := by decide +kernel
theorem dX9_stop_78 : decode cX9_stop 78 = .ok (.aload_n 0, 1) := by decide +kernel
theorem dX9_stop_79 : decode cX9_stop 79 = .ok (.getfield 40, 3) := by decide +kernel
theorem dX9_stop_82 : decode cX9_stop 82 = .ok (.getfield 151, 3) := by decide +kernel
theorem dX9_stop_85 : decode cX9_stop 85 = .ok (.aload_n 0, 1) := by decide +kernel
theorem dX9_stop_86 : decode cX9_stop 86 = .ok (.getfield 40, 3) := by decide +kernel
theorem dX9_stop_89 : decode cX9_stop 89 = .ok (.aload_n 0, 1) := by decide +kernel
theorem dX9_stop_90 : decode cX9_stop 90 = .ok (.getfield 12, 3) := by decide +kernel
theorem dX9_stop_93 : decode cX9_stop 93 = .ok (.invokevirtual 173, 3) := by decide +kernel
theorem dX9_stop_96 : decode cX9_stop 96 = .ok (.imul, 1) := by decide +kernel
theorem dX9_stop_97 : decode cX9_stop 97 = .ok (.aload 5, 2) := by decide +kernel
theorem dX9_stop_99 : decode cX9_stop 99 = .ok (.iload 7, 2) := by decide +kernel
theorem dX9_stop_101 : decode cX9_stop 101 = .ok (.iload 6, 2) := by decide +kernel
theorem dX9_stop_103 : decode cX9_stop 103 = .ok (.iload_n 3, 1) := by decide +kernel
theorem dX9_stop_104 : decode cX9_stop 104 = .ok (.invokevirtual 208, 3) := by decide +kernel
theorem dX9_stop_107 : decode cX9_stop 107 = .ok (.iadd, 1) := by decide +kernel
theorem dX9_stop_108 : decode cX9_stop 108 = .ok (.ireturn, 1) := by decide +kernel
theorem dX9_warm_0 : decode cX9_warm 0 = .ok (.iload_n 1, 1) := by decide +kernel
theorem dX9_warm_1 : decode cX9_warm 1 = .ok (.iconst 1, 1) := by decide +kernel
theorem dX9_warm_2 : decode cX9_warm 2 = .ok (.bipush 60, 2) := by decide +kernel
theorem dX9_warm_4 : decode cX9_warm 4 = .ok (.invokestatic 77, 3) := by decide +kernel
theorem dX9_warm_7 : decode cX9_warm 7 = .ok (.ifCond .eq 17, 3) := by decide +kernel
theorem dX9_warm_10 : decode cX9_warm 10 = .ok (.iload_n 2, 1) := by decide +kernel
theorem dX9_warm_11 : decode cX9_warm 11 = .ok (.invokestatic 105, 3) := by decide +kernel
theorem dX9_warm_14 : decode cX9_warm 14 = .ok (.ifCond .eq 10, 3) := by decide +kernel
theorem dX9_warm_17 : decode cX9_warm 17 = .ok (.iload_n 3, 1) := by decide +kernel
theorem dX9_warm_18 : decode cX9_warm 18 = .ok (.invokestatic 108, 3) := by decide +kernel
theorem dX9_warm_21 : decode cX9_warm 21 = .ok (.ifCond .ne 6, 3) := by decide +kernel
theorem dX9_warm_24 : decode cX9_warm 24 = .ok (.bipush (-2), 2) := by decide +kernel
theorem dX9_warm_26 : decode cX9_warm 26 = .ok (.ireturn, 1) := by decide +kernel
theorem dX9_warm_27 : decode cX9_warm 27 = .ok (.iload_n 3, 1) := by decide +kernel
theorem dX9_warm_28 : decode cX9_warm 28 = .ok (.ifCond .ne 13, 3) := by decide +kernel
theorem dX9_warm_31 : decode cX9_warm 31 = .ok (.aload_n 0, 1) := by decide +kernel
theorem dX9_warm_32 : decode cX9_warm 32 = .ok (.invokevirtual 155, 3) := by decide +kernel
theorem dX9_warm_35 : decode cX9_warm 35 = .ok (.invokevirtual 212, 3) := by decide +kernel
theorem dX9_warm_38 : decode cX9_warm 38 = .ok (.iload_n 1, 1) := by decide +kernel
theorem dX9_warm_39 : decode cX9_warm 39 = .ok (.imul, 1) := by decide +kernel
theorem dX9_warm_40 : decode cX9_warm 40 = .ok (.ireturn, 1) := by decide +kernel
theorem dX9_warm_41 : decode cX9_warm 41 = .ok (.aload_n 0, 1) := by decide +kernel
theorem dX9_warm_42 : decode cX9_warm 42 = .ok (.invokevirtual 155, 3) := by decide +kernel
theorem dX9_warm_45 : decode cX9_warm 45 = .ok (.iload_n 1, 1) := by decide +kernel
theorem dX9_warm_46 : decode cX9_warm 46 = .ok (.aload_n 0, 1) := by decide +kernel
theorem dX9_warm_47 : decode cX9_warm 47 = .ok (.getfield 26, 3) := by decide +kernel
theorem dX9_warm_50 : decode cX9_warm 50 = .ok (.getfield 111, 3) := by decide +kernel
theorem dX9_warm_53 : decode cX9_warm 53 = .ok (.iload_n 2, 1) := by decide +kernel
theorem dX9_warm_54 : decode cX9_warm 54 = .ok (.iaload, 1) := by decide +kernel
theorem dX9_warm_55 : decode cX9_warm 55 = .ok (.invokevirtual 216, 3) := by decide +kernel
theorem dX9_warm_58 : decode cX9_warm 58 = .ok (.ireturn, 1) := by decide +kernel
theorem dX9_crack_0 : decode cX9_crack 0 = .ok (.iload_n 1, 1) := by decide +kernel
theorem dX9_crack_1 : decode cX9_crack 1 = .ok (.iconst (-1), 1) := by decide +kernel
theorem dX9_crack_2 : decode cX9_crack 2 = .ok (.bipush 99, 2) := by decide +kernel
theorem dX9_crack_4 : decode cX9_crack 4 = .ok (.invokestatic 77, 3) := by decide +kernel
theorem dX9_crack_7 : decode cX9_crack 7 = .ok (.ifCond .eq 13, 3) := by decide +kernel
theorem dX9_crack_10 : decode cX9_crack 10 = .ok (.iload_n 2, 1) := by decide +kernel
theorem dX9_crack_11 : decode cX9_crack 11 = .ok (.iconst 0, 1) := by decide +kernel
theorem dX9_crack_12 : decode cX9_crack 12 = .ok (.bipush 30, 2) := by decide +kernel
theorem dX9_crack_14 : decode cX9_crack 14 = .ok (.invokestatic 77, 3) := by decide +kernel
theorem dX9_crack_17 : decode cX9_crack 17 = .ok (.ifCond .ne 6, 3) := by decide +kernel
theorem dX9_crack_20 : decode cX9_crack 20 = .ok (.bipush (-2), 2) := by decide +kernel
theorem dX9_crack_22 : decode cX9_crack 22 = .ok (.ireturn, 1) := by decide +kernel
theorem dX9_crack_23 : decode cX9_crack 23 = .ok (.iload_n 1, 1) := by decide +kernel
theorem dX9_crack_24 : decode cX9_crack 24 = .ok (.iconst (-1), 1) := by decide +kernel
theorem dX9_crack_25 : decode cX9_crack 25 = .ok (.if_icmp .ne 8, 3) := by decide +kernel
theorem dX9_crack_28 : decode cX9_crack 28 = .ok (.bipush 40, 2) := by decide +kernel
theorem dX9_crack_30 : decode cX9_crack 30 = .ok (.iload_n 2, 1) := by decide +kernel
theorem dX9_crack_31 : decode cX9_crack 31 = .ok (.isub, 1) := by decide +kernel
theorem dX9_crack_32 : decode cX9_crack 32 = .ok (.ireturn, 1) := by decide +kernel
theorem dX9_crack_33 : decode cX9_crack 33 = .ok (.iload_n 1, 1) := by decide +kernel
theorem dX9_crack_34 : decode cX9_crack 34 = .ok (.iload_n 2, 1) := by decide +kernel
theorem dX9_crack_35 : decode cX9_crack 35 = .ok (.invokestatic 219, 3) := by decide +kernel
theorem dX9_crack_38 : decode cX9_crack 38 = .ok (.ifCond .eq 7, 3) := by decide +kernel
theorem dX9_crack_41 : decode cX9_crack 41 = .ok (.iconst 1, 1) := by decide +kernel
theorem dX9_crack_42 : decode cX9_crack 42 = .ok (.goto 4, 3) := by decide +kernel
theorem dX9_crack_45 : decode cX9_crack 45 = .ok (.iconst 0, 1) := by decide +kernel
theorem dX9_crack_46 : decode cX9_crack 46 = .ok (.ireturn, 1) := by decide +kernel
theorem dX9_melts_0 : decode cX9_melts 0 = .ok (.iload_n 1, 1) := by decide +kernel
theorem dX9_melts_1 : decode cX9_melts 1 = .ok (.iconst 0, 1) := by decide +kernel
theorem dX9_melts_2 : decode cX9_melts 2 = .ok (.bipush 99, 2) := by decide +kernel
theorem dX9_melts_4 : decode cX9_melts 4 = .ok (.invokestatic 77, 3) := by decide +kernel
theorem dX9_melts_7 : decode cX9_melts 7 = .ok (.ifCond .eq 23, 3) := by decide +kernel
theorem dX9_melts_10 : decode cX9_melts 10 = .ok (.iload_n 2, 1) := by decide +kernel
theorem dX9_melts_11 : decode cX9_melts 11 = .ok (.iconst 0, 1) := by decide +kernel
theorem dX9_melts_12 : decode cX9_melts 12 = .ok (.bipush 30, 2) := by decide +kernel
theorem dX9_melts_14 : decode cX9_melts 14 = .ok (.invokestatic 77, 3) := by decide +kernel
theorem dX9_melts_17 : decode cX9_melts 17 = .ok (.ifCond .eq 13, 3) := by decide +kernel
theorem dX9_melts_20 : decode cX9_melts 20 = .ok (.iload_n 3, 1) := by decide +kernel
theorem dX9_melts_21 : decode cX9_melts 21 = .ok (.iconst 0, 1) := by decide +kernel
theorem dX9_melts_22 : decode cX9_melts 22 = .ok (.bipush 99, 2) := by decide +kernel
theorem dX9_melts_24 : decode cX9_melts 24 = .ok (.invokestatic 77, 3) := by decide +kernel
theorem dX9_melts_27 : decode cX9_melts 27 = .ok (.ifCond .ne 6, 3) := by decide +kernel
theorem dX9_melts_30 : decode cX9_melts 30 = .ok (.bipush (-2), 2) := by decide +kernel
theorem dX9_melts_32 : decode cX9_melts 32 = .ok (.ireturn, 1) := by decide +kernel
theorem dX9_melts_33 : decode cX9_melts 33 = .ok (.iload_n 1, 1) := by decide +kernel
theorem dX9_melts_34 : decode cX9_melts 34 = .ok (.iload_n 2, 1) := by decide +kernel
theorem dX9_melts_35 : decode cX9_melts 35 = .ok (.invokestatic 219, 3) := by decide +kernel
theorem dX9_melts_38 : decode cX9_melts 38 = .ok (.ifCond .eq 6, 3) := by decide +kernel
theorem dX9_melts_41 : decode cX9_melts 41 = .ok (.bipush (-3), 2) := by decide +kernel
theorem dX9_melts_43 : decode cX9_melts 43 = .ok (.ireturn, 1) := by decide +kernel
theorem dX9_melts_44 : decode cX9_melts 44 = .ok (.aload_n 0, 1) := by decide +kernel
theorem dX9_melts_45 : decode cX9_melts 45 = .ok (.invokevirtual 155, 3) := by decide +kernel
theorem dX9_melts_48 : decode cX9_melts 48 = .ok (.iload_n 1, 1) := by decide +kernel
theorem dX9_melts_49 : decode cX9_melts 49 = .ok (.bipush 10, 2) := by decide +kernel
theorem dX9_melts_51 : decode cX9_melts 51 = .ok (.idiv, 1) := by decide +kernel
theorem dX9_melts_52 : decode cX9_melts 52 = .ok (.iload_n 3, 1) := by decide +kernel
theorem dX9_melts_53 : decode cX9_melts 53 = .ok (.invokevirtual 223, 3) := by decide +kernel
theorem dX9_melts_56 : decode cX9_melts 56 = .ok (.ireturn, 1) := by decide +kernel
theorem dX9_again_0 : decode cX9_again 0 = .ok (.iload_n 1, 1) := by decide +kernel
theorem dX9_again_1 : decode cX9_again 1 = .ok (.iconst 1, 1) := by decide +kernel
theorem dX9_again_2 : decode cX9_again 2 = .ok (.iconst 5, 1) := by decide +kernel
theorem dX9_again_3 : decode cX9_again 3 = .ok (.invokestatic 77, 3) := by decide +kernel
theorem dX9_again_6 : decode cX9_again 6 = .ok (.ifCond .eq 31, 3) := by decide +kernel
theorem dX9_again_9 : decode cX9_again 9 = .ok (.iload_n 2, 1) := by decide +kernel
theorem dX9_again_10 : decode cX9_again 10 = .ok (.iconst 0, 1) := by decide +kernel
theorem dX9_again_11 : decode cX9_again 11 = .ok (.bipush 9, 2) := by decide +kernel
theorem dX9_again_13 : decode cX9_again 13 = .ok (.invokestatic 77, 3) := by decide +kernel
theorem dX9_again_16 : decode cX9_again 16 = .ok (.ifCond .eq 21, 3) := by decide +kernel
theorem dX9_again_19 : decode cX9_again 19 = .ok (.iload_n 3, 1) := by decide +kernel
theorem dX9_again_20 : decode cX9_again 20 = .ok (.iconst 0, 1) := by decide +kernel
theorem dX9_again_21 : decode cX9_again 21 = .ok (.bipush 60, 2) := by decide +kernel
theorem dX9_again_23 : decode cX9_again 23 = .ok (.invokestatic 77, 3) := by decide +kernel
theorem dX9_again_26 : decode cX9_again 26 = .ok (.ifCond .eq 11, 3) := by decide +kernel
theorem dX9_again_29 : decode cX9_again 29 = .ok (.iload 4, 2) := by decide +kernel
theorem dX9_again_31 : decode cX9_again 31 = .ok (.invokestatic 108, 3) := by decide +kernel
theorem dX9_again_34 : decode cX9_again 34 = .ok (.ifCond .ne 6, 3) := by decide +kernel
theorem dX9_again_37 : decode cX9_again 37 = .ok (.bipush (-2), 2) := by decide +kernel
theorem dX9_again_39 : decode cX9_again 39 = .ok (.ireturn, 1) := by decide +kernel
theorem dX9_again_40 : decode cX9_again 40 = .ok (.iconst 0, 1) := by decide +kernel
theorem dX9_again_41 : decode cX9_again 41 = .ok (.istore 5, 2) := by decide +kernel
theorem dX9_again_43 : decode cX9_again 43 = .ok (.iconst (-1), 1) := by decide +kernel
theorem dX9_again_44 : decode cX9_again 44 = .ok (.istore 6, 2) := by decide +kernel
theorem dX9_again_46 : decode cX9_again 46 = .ok (.iconst (-1), 1) := by decide +kernel
theorem dX9_again_47 : decode cX9_again 47 = .ok (.istore 7, 2) := by decide +kernel
theorem dX9_again_49 : decode cX9_again 49 = .ok (.iconst 0, 1) := by decide +kernel
theorem dX9_again_50 : decode cX9_again 50 = .ok (.istore 8, 2) := by decide +kernel
theorem dX9_again_52 : decode cX9_again 52 = .ok (.iload 8, 2) := by decide +kernel
theorem dX9_again_54 : decode cX9_again 54 = .ok (.bipush 120, 2) := by decide +kernel
theorem dX9_again_56 : decode cX9_again 56 = .ok (.if_icmp .gt 57, 3) := by decide +kernel
theorem dX9_again_59 : decode cX9_again 59 = .ok (.iload 5, 2) := by decide +kernel
theorem dX9_again_61 : decode cX9_again 61 = .ok (.iload_n 1, 1) := by decide +kernel
theorem dX9_again_62 : decode cX9_again 62 = .ok (.iadd, 1) := by decide +kernel
theorem dX9_again_63 : decode cX9_again 63 = .ok (.istore 5, 2) := by decide +kernel
theorem dX9_again_65 : decode cX9_again 65 = .ok (.iload 8, 2) := by decide +kernel
theorem dX9_again_67 : decode cX9_again 67 = .ok (.iload_n 3, 1) := by decide +kernel
theorem dX9_again_68 : decode cX9_again 68 = .ok (.if_icmp .lt 13, 3) := by decide +kernel
theorem dX9_again_71 : decode cX9_again 71 = .ok (.iconst 0, 1) := by decide +kernel
theorem dX9_again_72 : decode cX9_again 72 = .ok (.iload 5, 2) := by decide +kernel
theorem dX9_again_74 : decode cX9_again 74 = .ok (.iload_n 2, 1) := by decide +kernel
theorem dX9_again_75 : decode cX9_again 75 = .ok (.isub, 1) := by decide +kernel
theorem dX9_again_76 : decode cX9_again 76 = .ok (.invokestatic 226, 3) := by decide +kernel
theorem dX9_again_79 : decode cX9_again 79 = .ok (.istore 5, 2) := by decide +kernel
theorem dX9_again_81 : decode cX9_again 81 = .ok (.iload 5, 2) := by decide +kernel
theorem dX9_again_83 : decode cX9_again 83 = .ok (.bipush 10, 2) := by decide +kernel
theorem dX9_again_85 : decode cX9_again 85 = .ok (.if_icmp .le 22, 3) := by decide +kernel
theorem dX9_again_88 : decode cX9_again 88 = .ok (.iload 6, 2) := by decide +kernel
theorem dX9_again_90 : decode cX9_again 90 = .ok (.iconst (-1), 1) := by decide +kernel
theorem dX9_again_91 : decode cX9_again 91 = .ok (.if_icmp .ne 8, 3) := by decide +kernel
theorem dX9_again_94 : decode cX9_again 94 = .ok (.iload 8, 2) := by decide +kernel
theorem dX9_again_96 : decode cX9_again 96 = .ok (.goto 5, 3) := by decide +kernel
theorem dX9_again_99 : decode cX9_again 99 = .ok (.iload 6, 2) := by decide +kernel
theorem dX9_again_101 : decode cX9_again 101 = .ok (.istore 6, 2) := by decide +kernel
theorem dX9_again_103 : decode cX9_again 103 = .ok (.iload 8, 2) := by decide +kernel
theorem dX9_again_105 : decode cX9_again 105 = .ok (.istore 7, 2) := by decide +kernel
theorem dX9_again_107 : decode cX9_again 107 = .ok (.iinc 8 1, 3) := by decide +kernel
theorem dX9_again_110 : decode cX9_again 110 = .ok (.goto (-58), 3) := by decide +kernel
theorem dX9_again_113 : decode cX9_again 113 = .ok (.iload 4, 2) := by decide +kernel
theorem dX9_again_115 : decode cX9_again 115 = .ok (.ifCond .ne 6, 3) := by decide +kernel
theorem dX9_again_118 : decode cX9_again 118 = .ok (.iload 6, 2) := by decide +kernel
theorem dX9_again_120 : decode cX9_again 120 = .ok (.ireturn, 1) := by decide +kernel
theorem dX9_again_121 : decode cX9_again 121 = .ok (.iload 7, 2) := by decide +kernel
theorem dX9_again_123 : decode cX9_again 123 = .ok (.bipush 120, 2) := by decide +kernel
theorem dX9_again_125 : decode cX9_again 125 = .ok (.if_icmp .ne 7, 3) := by decide +kernel
theorem dX9_again_128 : decode cX9_again 128 = .ok (.iconst (-1), 1) := by decide +kernel
theorem dX9_again_129 : decode cX9_again 129 = .ok (.goto 7, 3) := by decide +kernel
theorem dX9_again_132 : decode cX9_again 132 = .ok (.iload 7, 2) := by decide +kernel
theorem dX9_again_134 : decode cX9_again 134 = .ok (.iconst 1, 1) := by decide +kernel
theorem dX9_again_135 : decode cX9_again 135 = .ok (.iadd, 1) := by decide +kernel
theorem dX9_again_136 : decode cX9_again 136 = .ok (.ireturn, 1) := by decide +kernel
theorem dX9_night_0 : decode cX9_night 0 = .ok (.iload_n 1, 1) := by decide +kernel
theorem dX9_night_1 : decode cX9_night 1 = .ok (.invokestatic 108, 3) := by decide +kernel
theorem dX9_night_4 : decode cX9_night 4 = .ok (.ifCond .eq 19, 3) := by decide +kernel
theorem dX9_night_7 : decode cX9_night 7 = .ok (.iload_n 2, 1) := by decide +kernel
theorem dX9_night_8 : decode cX9_night 8 = .ok (.iconst 0, 1) := by decide +kernel
theorem dX9_night_9 : decode cX9_night 9 = .ok (.iconst 3, 1) := by decide +kernel
theorem dX9_night_10 : decode cX9_night 10 = .ok (.invokestatic 77, 3) := by decide +kernel
theorem dX9_night_13 : decode cX9_night 13 = .ok (.ifCond .eq 10, 3) := by decide +kernel
theorem dX9_night_16 : decode cX9_night 16 = .ok (.iload_n 3, 1) := by decide +kernel
theorem dX9_night_17 : decode cX9_night 17 = .ok (.invokestatic 108, 3) := by decide +kernel
theorem dX9_night_20 : decode cX9_night 20 = .ok (.ifCond .ne 6, 3) := by decide +kernel
theorem dX9_night_23 : decode cX9_night 23 = .ok (.bipush (-2), 2) := by decide +kernel
theorem dX9_night_25 : decode cX9_night 25 = .ok (.ireturn, 1) := by decide +kernel
theorem dX9_night_26 : decode cX9_night 26 = .ok (.iload_n 1, 1) := by decide +kernel
theorem dX9_night_27 : decode cX9_night 27 = .ok (.iload_n 2, 1) := by decide +kernel
theorem dX9_night_28 : decode cX9_night 28 = .ok (.iload_n 3, 1) := by decide +kernel
theorem dX9_night_29 : decode cX9_night 29 = .ok (.invokestatic 229, 3) := by decide +kernel
theorem dX9_night_32 : decode cX9_night 32 = .ok (.ireturn, 1) := by decide +kernel
theorem dX9_tonight_0 : decode cX9_tonight 0 = .ok (.iload_n 1, 1) := by decide +kernel
theorem dX9_tonight_1 : decode cX9_tonight 1 = .ok (.iconst 0, 1) := by decide +kernel
theorem dX9_tonight_2 : decode cX9_tonight 2 = .ok (.bipush 16, 2) := by decide +kernel
theorem dX9_tonight_4 : decode cX9_tonight 4 = .ok (.invokestatic 77, 3) := by decide +kernel
theorem dX9_tonight_7 : decode cX9_tonight 7 = .ok (.ifCond .eq 19, 3) := by decide +kernel
theorem dX9_tonight_10 : decode cX9_tonight 10 = .ok (.iload_n 2, 1) := by decide +kernel
theorem dX9_tonight_11 : decode cX9_tonight 11 = .ok (.iconst 0, 1) := by decide +kernel
theorem dX9_tonight_12 : decode cX9_tonight 12 = .ok (.iconst 3, 1) := by decide +kernel
theorem dX9_tonight_13 : decode cX9_tonight 13 = .ok (.invokestatic 77, 3) := by decide +kernel
theorem dX9_tonight_16 : decode cX9_tonight 16 = .ok (.ifCond .eq 10, 3) := by decide +kernel
theorem dX9_tonight_19 : decode cX9_tonight 19 = .ok (.iload_n 3, 1) := by decide +kernel
theorem dX9_tonight_20 : decode cX9_tonight 20 = .ok (.invokestatic 108, 3) := by decide +kernel
theorem dX9_tonight_23 : decode cX9_tonight 23 = .ok (.ifCond .ne 7, 3) := by decide +kernel
theorem dX9_tonight_26 : decode cX9_tonight 26 = .ok (.ldc2_w 232, 3) := by decide +kernel
theorem dX9_tonight_29 : decode cX9_tonight 29 = .ok (.lreturn, 1) := by decide +kernel
theorem dX9_tonight_30 : decode cX9_tonight 30 = .ok (.iload 4, 2) := by decide +kernel
theorem dX9_tonight_32 : decode cX9_tonight 32 = .ok (.invokestatic 105, 3) := by decide +kernel
theorem dX9_tonight_35 : decode cX9_tonight 35 = .ok (.ifCond .eq 11, 3) := by decide +kernel
theorem dX9_tonight_38 : decode cX9_tonight 38 = .ok (.iload 5, 2) := by decide +kernel
theorem dX9_tonight_40 : decode cX9_tonight 40 = .ok (.invokestatic 108, 3) := by decide +kernel
theorem dX9_tonight_43 : decode cX9_tonight 43 = .ok (.ifCond .ne 7, 3) := by decide +kernel
theorem dX9_tonight_46 : decode cX9_tonight 46 = .ok (.ldc2_w 232, 3) := by decide +kernel
theorem dX9_tonight_49 : decode cX9_tonight 49 = .ok (.lreturn, 1) := by decide +kernel
theorem dX9_tonight_50 : decode cX9_tonight 50 = .ok (.aload_n 0, 1) := by decide +kernel
theorem dX9_tonight_51 : decode cX9_tonight 51 = .ok (.iload_n 1, 1) := by decide +kernel
theorem dX9_tonight_52 : decode cX9_tonight 52 = .ok (.iload_n 2, 1) := by decide +kernel
theorem dX9_tonight_53 : decode cX9_tonight 53 = .ok (.iload_n 3, 1) := by decide +kernel
theorem dX9_tonight_54 : decode cX9_tonight 54 = .ok (.iload 4, 2) := by decide +kernel
theorem dX9_tonight_56 : decode cX9_tonight 56 = .ok (.invokevirtual 234, 3) := by decide +kernel
theorem dX9_tonight_59 : decode cX9_tonight 59 = .ok (.istore 6, 2) := by decide +kernel
theorem dX9_tonight_61 : decode cX9_tonight 61 = .ok (.bipush 16, 2) := by decide +kernel
theorem dX9_tonight_63 : decode cX9_tonight 63 = .ok (.istore 7, 2) := by decide +kernel
theorem dX9_tonight_65 : decode cX9_tonight 65 = .ok (.iconst 0, 1) := by decide +kernel
theorem dX9_tonight_66 : decode cX9_tonight 66 = .ok (.istore 8, 2) := by decide +kernel
theorem dX9_tonight_68 : decode cX9_tonight 68 = .ok (.iload 8, 2) := by decide +kernel
theorem dX9_tonight_70 : decode cX9_tonight 70 = .ok (.iconst 4, 1) := by decide +kernel
theorem dX9_tonight_71 : decode cX9_tonight 71 = .ok (.if_icmp .ge 28, 3) := by decide +kernel
theorem dX9_tonight_74 : decode cX9_tonight 74 = .ok (.iload 6, 2) := by decide +kernel
theorem dX9_tonight_76 : decode cX9_tonight 76 = .ok (.iconst 2, 1) := by decide +kernel
theorem dX9_tonight_77 : decode cX9_tonight 77 = .ok (.irem, 1) := by decide +kernel
theorem dX9_tonight_78 : decode cX9_tonight 78 = .ok (.ifCond .ne 15, 3) := by decide +kernel
theorem dX9_tonight_81 : decode cX9_tonight 81 = .ok (.iload 6, 2) := by decide +kernel
theorem dX9_tonight_83 : decode cX9_tonight 83 = .ok (.iconst 2, 1) := by decide +kernel
theorem dX9_tonight_84 : decode cX9_tonight 84 = .ok (.idiv, 1) := by decide +kernel
theorem dX9_tonight_85 : decode cX9_tonight 85 = .ok (.istore 6, 2) := by decide +kernel
theorem dX9_tonight_87 : decode cX9_tonight 87 = .ok (.iload 7, 2) := by decide +kernel
theorem dX9_tonight_89 : decode cX9_tonight 89 = .ok (.iconst 2, 1) := by decide +kernel
theorem dX9_tonight_90 : decode cX9_tonight 90 = .ok (.idiv, 1) := by decide +kernel
theorem dX9_tonight_91 : decode cX9_tonight 91 = .ok (.istore 7, 2) := by decide +kernel
theorem dX9_tonight_93 : decode cX9_tonight 93 = .ok (.iinc 8 1, 3) := by decide +kernel
theorem dX9_tonight_96 : decode cX9_tonight 96 = .ok (.goto (-28), 3) := by decide +kernel
theorem dX9_tonight_99 : decode cX9_tonight 99 = .ok (.iload 5, 2) := by decide +kernel
theorem dX9_tonight_101 : decode cX9_tonight 101 = .ok (.ifCond .ne 9, 3) := by decide +kernel
theorem dX9_tonight_104 : decode cX9_tonight 104 = .ok (.iload 6, 2) := by decide +kernel
theorem dX9_tonight_106 : decode cX9_tonight 106 = .ok (.i2l, 1) := by decide +kernel
theorem dX9_tonight_107 : decode cX9_tonight 107 = .ok (.goto 6, 3) := by decide +kernel
theorem dX9_tonight_110 : decode cX9_tonight 110 = .ok (.iload 7, 2) := by decide +kernel
theorem dX9_tonight_112 : decode cX9_tonight 112 = .ok (.i2l, 1) := by decide +kernel
theorem dX9_tonight_113 : decode cX9_tonight 113 = .ok (.lreturn, 1) := by decide +kernel
theorem dX9_cover_0 : decode cX9_cover 0 = .ok (.iload_n 1, 1) := by decide +kernel
theorem dX9_cover_1 : decode cX9_cover 1 = .ok (.iconst 0, 1) := by decide +kernel
theorem dX9_cover_2 : decode cX9_cover 2 = .ok (.bipush 16, 2) := by decide +kernel
theorem dX9_cover_4 : decode cX9_cover 4 = .ok (.invokestatic 77, 3) := by decide +kernel
theorem dX9_cover_7 : decode cX9_cover 7 = .ok (.ifCond .eq 14, 3) := by decide +kernel
theorem dX9_cover_10 : decode cX9_cover 10 = .ok (.iload_n 2, 1) := by decide +kernel
theorem dX9_cover_11 : decode cX9_cover 11 = .ok (.iconst 0, 1) := by decide +kernel
theorem dX9_cover_12 : decode cX9_cover 12 = .ok (.sipush 9999, 3) := by decide +kernel
theorem dX9_cover_15 : decode cX9_cover 15 = .ok (.invokestatic 77, 3) := by decide +kernel
theorem dX9_cover_18 : decode cX9_cover 18 = .ok (.ifCond .ne 6, 3) := by decide +kernel
theorem dX9_cover_21 : decode cX9_cover 21 = .ok (.bipush (-2), 2) := by decide +kernel
theorem dX9_cover_23 : decode cX9_cover 23 = .ok (.ireturn, 1) := by decide +kernel
theorem dX9_cover_24 : decode cX9_cover 24 = .ok (.iload_n 3, 1) := by decide +kernel
theorem dX9_cover_25 : decode cX9_cover 25 = .ok (.iconst 0, 1) := by decide +kernel
theorem dX9_cover_26 : decode cX9_cover 26 = .ok (.bipush 16, 2) := by decide +kernel
theorem dX9_cover_28 : decode cX9_cover 28 = .ok (.invokestatic 77, 3) := by decide +kernel
theorem dX9_cover_31 : decode cX9_cover 31 = .ok (.ifCond .eq 15, 3) := by decide +kernel
theorem dX9_cover_34 : decode cX9_cover 34 = .ok (.iload 4, 2) := by decide +kernel
theorem dX9_cover_36 : decode cX9_cover 36 = .ok (.iconst 0, 1) := by decide +kernel
theorem dX9_cover_37 : decode cX9_cover 37 = .ok (.sipush 9999, 3) := by decide +kernel
theorem dX9_cover_40 : decode cX9_cover 40 = .ok (.invokestatic 77, 3) := by decide +kernel
theorem dX9_cover_43 : decode cX9_cover 43 = .ok (.ifCond .ne 6, 3) := by decide +kernel
theorem dX9_cover_46 : decode cX9_cover 46 = .ok (.bipush (-2), 2) := by decide +kernel
theorem dX9_cover_48 : decode cX9_cover 48 = .ok (.ireturn, 1) := by decide +kernel
theorem dX9_cover_49 : decode cX9_cover 49 = .ok (.bipush 16, 2) := by decide +kernel
theorem dX9_cover_51 : decode cX9_cover 51 = .ok (.iload_n 2, 1) := by decide +kernel
theorem dX9_cover_52 : decode cX9_cover 52 = .ok (.imul, 1) := by decide +kernel
theorem dX9_cover_53 : decode cX9_cover 53 = .ok (.iload_n 3, 1) := by decide +kernel
theorem dX9_cover_54 : decode cX9_cover 54 = .ok (.iload 4, 2) := by decide +kernel
theorem dX9_cover_56 : decode cX9_cover 56 = .ok (.imul, 1) := by decide +kernel
theorem dX9_cover_57 : decode cX9_cover 57 = .ok (.iadd, 1) := by decide +kernel
theorem dX9_cover_58 : decode cX9_cover 58 = .ok (.istore 5, 2) := by decide +kernel
theorem dX9_cover_60 : decode cX9_cover 60 = .ok (.iload 5, 2) := by decide +kernel
theorem dX9_cover_62 : decode cX9_cover 62 = .ok (.aload_n 0, 1) := by decide +kernel
theorem dX9_cover_63 : decode cX9_cover 63 = .ok (.iload_n 1, 1) := by decide +kernel
theorem dX9_cover_64 : decode cX9_cover 64 = .ok (.iconst 0, 1) := by decide +kernel
theorem dX9_cover_65 : decode cX9_cover 65 = .ok (.iconst 0, 1) := by decide +kernel
theorem dX9_cover_66 : decode cX9_cover 66 = .ok (.iconst 0, 1) := by decide +kernel
theorem dX9_cover_67 : decode cX9_cover 67 = .ok (.invokevirtual 234, 3) := by decide +kernel
theorem dX9_cover_70 : decode cX9_cover 70 = .ok (.if_icmp .ge 7, 3) := by decide +kernel
theorem dX9_cover_73 : decode cX9_cover 73 = .ok (.iconst 1, 1) := by decide +kernel
theorem dX9_cover_74 : decode cX9_cover 74 = .ok (.goto 4, 3) := by decide +kernel
theorem dX9_cover_77 : decode cX9_cover 77 = .ok (.iconst 0, 1) := by decide +kernel
theorem dX9_cover_78 : decode cX9_cover 78 = .ok (.ireturn, 1) := by decide +kernel
theorem dX9_car_0 : decode cX9_car 0 = .ok (.iload_n 1, 1) := by decide +kernel
theorem dX9_car_1 : decode cX9_car 1 = .ok (.iconst 1, 1) := by decide +kernel
theorem dX9_car_2 : decode cX9_car 2 = .ok (.sipush 9999, 3) := by decide +kernel
theorem dX9_car_5 : decode cX9_car 5 = .ok (.invokestatic 77, 3) := by decide +kernel
theorem dX9_car_8 : decode cX9_car 8 = .ok (.ifCond .eq 14, 3) := by decide +kernel
theorem dX9_car_11 : decode cX9_car 11 = .ok (.iload_n 2, 1) := by decide +kernel
theorem dX9_car_12 : decode cX9_car 12 = .ok (.iconst 0, 1) := by decide +kernel
theorem dX9_car_13 : decode cX9_car 13 = .ok (.sipush 9999, 3) := by decide +kernel
theorem dX9_car_16 : decode cX9_car 16 = .ok (.invokestatic 77, 3) := by decide +kernel
theorem dX9_car_19 : decode cX9_car 19 = .ok (.ifCond .ne 6, 3) := by decide +kernel
theorem dX9_car_22 : decode cX9_car 22 = .ok (.bipush (-2), 2) := by decide +kernel
theorem dX9_car_24 : decode cX9_car 24 = .ok (.ireturn, 1) := by decide +kernel
theorem dX9_car_25 : decode cX9_car 25 = .ok (.aload_n 0, 1) := by decide +kernel
theorem dX9_car_26 : decode cX9_car 26 = .ok (.getfield 54, 3) := by decide +kernel
theorem dX9_car_29 : decode cX9_car 29 = .ok (.getfield 238, 3) := by decide +kernel
theorem dX9_car_32 : decode cX9_car 32 = .ok (.bipush 7, 2) := by decide +kernel
theorem dX9_car_34 : decode cX9_car 34 = .ok (.if_icmp .lt 6, 3) := by decide +kernel
theorem dX9_car_37 : decode cX9_car 37 = .ok (.bipush (-4), 2) := by decide +kernel
theorem dX9_car_39 : decode cX9_car 39 = .ok (.ireturn, 1) := by decide +kernel
theorem dX9_car_40 : decode cX9_car 40 = .ok (.aload_n 0, 1) := by decide +kernel
theorem dX9_car_41 : decode cX9_car 41 = .ok (.getfield 54, 3) := by decide +kernel
theorem dX9_car_44 : decode cX9_car 44 = .ok (.iload_n 1, 1) := by decide +kernel
theorem dX9_car_45 : decode cX9_car 45 = .ok (.iload_n 2, 1) := by decide +kernel
theorem dX9_car_46 : decode cX9_car 46 = .ok (.invokevirtual 239, 3) := by decide +kernel
theorem dX9_car_49 : decode cX9_car 49 = .ok (.aload_n 0, 1) := by decide +kernel
theorem dX9_car_50 : decode cX9_car 50 = .ok (.getfield 54, 3) := by decide +kernel
theorem dX9_car_53 : decode cX9_car 53 = .ok (.getfield 238, 3) := by decide +kernel
theorem dX9_car_56 : decode cX9_car 56 = .ok (.ireturn, 1) := by decide +kernel
theorem dX9_gone_0 : decode cX9_gone 0 = .ok (.aload_n 0, 1) := by decide +kernel
theorem dX9_gone_1 : decode cX9_gone 1 = .ok (.getfield 54, 3) := by decide +kernel
theorem dX9_gone_4 : decode cX9_gone 4 = .ok (.getfield 238, 3) := by decide +kernel
theorem dX9_gone_7 : decode cX9_gone 7 = .ok (.ifCond .gt 6, 3) := by decide +kernel
theorem dX9_gone_10 : decode cX9_gone 10 = .ok (.bipush (-3), 2) := by decide +kernel
theorem dX9_gone_12 : decode cX9_gone 12 = .ok (.ireturn, 1) := by decide +kernel
theorem dX9_gone_13 : decode cX9_gone 13 = .ok (.aload_n 0, 1) := by decide +kernel
theorem dX9_gone_14 : decode cX9_gone 14 = .ok (.getfield 54, 3) := by decide +kernel
theorem dX9_gone_17 : decode cX9_gone 17 = .ok (.invokevirtual 240, 3) := by decide +kernel
theorem dX9_gone_20 : decode cX9_gone 20 = .ok (.aload_n 0, 1) := by decide +kernel
theorem dX9_gone_21 : decode cX9_gone 21 = .ok (.getfield 54, 3) := by decide +kernel
theorem dX9_gone_24 : decode cX9_gone 24 = .ok (.getfield 238, 3) := by decide +kernel
theorem dX9_gone_27 : decode cX9_gone 27 = .ok (.ireturn, 1) := by decide +kernel
theorem dX9_lent_0 : decode cX9_lent 0 = .ok (.iload_n 1, 1) := by decide +kernel
theorem dX9_lent_1 : decode cX9_lent 1 = .ok (.iconst (-1), 1) := by decide +kernel
theorem dX9_lent_2 : decode cX9_lent 2 = .ok (.bipush 6, 2) := by decide +kernel
theorem dX9_lent_4 : decode cX9_lent 4 = .ok (.invokestatic 77, 3) := by decide +kernel
theorem dX9_lent_7 : decode cX9_lent 7 = .ok (.ifCond .ne 6, 3) := by decide +kernel
theorem dX9_lent_10 : decode cX9_lent 10 = .ok (.bipush (-2), 2) := by decide +kernel
theorem dX9_lent_12 : decode cX9_lent 12 = .ok (.ireturn, 1) := by decide +kernel
theorem dX9_lent_13 : decode cX9_lent 13 = .ok (.iload_n 1, 1) := by decide +kernel
theorem dX9_lent_14 : decode cX9_lent 14 = .ok (.iconst (-1), 1) := by decide +kernel
theorem dX9_lent_15 : decode cX9_lent 15 = .ok (.if_icmp .ne 11, 3) := by decide +kernel
theorem dX9_lent_18 : decode cX9_lent 18 = .ok (.aload_n 0, 1) := by decide +kernel
theorem dX9_lent_19 : decode cX9_lent 19 = .ok (.getfield 54, 3) := by decide +kernel
theorem dX9_lent_22 : decode cX9_lent 22 = .ok (.invokevirtual 243, 3) := by decide +kernel
theorem dX9_lent_25 : decode cX9_lent 25 = .ok (.ireturn, 1) := by decide +kernel
theorem dX9_lent_26 : decode cX9_lent 26 = .ok (.iload_n 1, 1) := by decide +kernel
theorem dX9_lent_27 : decode cX9_lent 27 = .ok (.aload_n 0, 1) := by decide +kernel
theorem dX9_lent_28 : decode cX9_lent 28 = .ok (.getfield 54, 3) := by decide +kernel
theorem dX9_lent_31 : decode cX9_lent 31 = .ok (.getfield 238, 3) := by decide +kernel
theorem dX9_lent_34 : decode cX9_lent 34 = .ok (.if_icmp .ge 15, 3) := by decide +kernel
theorem dX9_lent_37 : decode cX9_lent 37 = .ok (.aload_n 0, 1) := by decide +kernel
theorem dX9_lent_38 : decode cX9_lent 38 = .ok (.getfield 54, 3) := by decide +kernel
theorem dX9_lent_41 : decode cX9_lent 41 = .ok (.getfield 246, 3) := by decide +kernel
theorem dX9_lent_44 : decode cX9_lent 44 = .ok (.iload_n 1, 1) := by decide +kernel
theorem dX9_lent_45 : decode cX9_lent 45 = .ok (.iaload, 1) := by decide +kernel
theorem dX9_lent_46 : decode cX9_lent 46 = .ok (.goto 4, 3) := by decide +kernel
theorem dX9_lent_49 : decode cX9_lent 49 = .ok (.iconst (-1), 1) := by decide +kernel
theorem dX9_lent_50 : decode cX9_lent 50 = .ok (.ireturn, 1) := by decide +kernel
theorem dX9_faced_0 : decode cX9_faced 0 = .ok (.aload_n 0, 1) := by decide +kernel
theorem dX9_faced_1 : decode cX9_faced 1 = .ok (.getfield 12, 3) := by decide +kernel
theorem dX9_faced_4 : decode cX9_faced 4 = .ok (.iconst 1, 1) := by decide +kernel
theorem dX9_faced_5 : decode cX9_faced 5 = .ok (.invokevirtual 249, 3) := by decide +kernel
theorem dX9_faced_8 : decode cX9_faced 8 = .ok (.ifCond .eq 5, 3) := by decide +kernel
theorem dX9_faced_11 : decode cX9_faced 11 = .ok (.iconst 0, 1) := by decide +kernel
theorem dX9_faced_12 : decode cX9_faced 12 = .ok (.ireturn, 1) := by decide +kernel
theorem dX9_faced_13 : decode cX9_faced 13 = .ok (.aload_n 0, 1) := by decide +kernel
theorem dX9_faced_14 : decode cX9_faced 14 = .ok (.getfield 12, 3) := by decide +kernel
theorem dX9_faced_17 : decode cX9_faced 17 = .ok (.iconst (-1), 1) := by decide +kernel
theorem dX9_faced_18 : decode cX9_faced 18 = .ok (.invokevirtual 249, 3) := by decide +kernel
theorem dX9_faced_21 : decode cX9_faced 21 = .ok (.ifCond .eq 7, 3) := by decide +kernel
theorem dX9_faced_24 : decode cX9_faced 24 = .ok (.iconst 1, 1) := by decide +kernel
theorem dX9_faced_25 : decode cX9_faced 25 = .ok (.goto 4, 3) := by decide +kernel
theorem dX9_faced_28 : decode cX9_faced 28 = .ok (.iconst (-1), 1) := by decide +kernel
theorem dX9_faced_29 : decode cX9_faced 29 = .ok (.ireturn, 1) := by decide +kernel
theorem dX9_bend_0 : decode cX9_bend 0 = .ok (.aload_n 0, 1) := by decide +kernel
theorem dX9_bend_1 : decode cX9_bend 1 = .ok (.iload_n 1, 1) := by decide +kernel
theorem dX9_bend_2 : decode cX9_bend 2 = .ok (.invokevirtual 186, 3) := by decide +kernel
theorem dX9_bend_5 : decode cX9_bend 5 = .ok (.ifCond .eq 24, 3) := by decide +kernel
theorem dX9_bend_8 : decode cX9_bend 8 = .ok (.iload_n 2, 1) := by decide +kernel
theorem dX9_bend_9 : decode cX9_bend 9 = .ok (.iconst 0, 1) := by decide +kernel
theorem dX9_bend_10 : decode cX9_bend 10 = .ok (.sipush 999, 3) := by decide +kernel
theorem dX9_bend_13 : decode cX9_bend 13 = .ok (.invokestatic 77, 3) := by decide +kernel
theorem dX9_bend_16 : decode cX9_bend 16 = .ok (.ifCond .eq 13, 3) := by decide +kernel
theorem dX9_bend_19 : decode cX9_bend 19 = .ok (.iload_n 3, 1) := by decide +kernel
theorem dX9_bend_20 : decode cX9_bend 20 = .ok (.iconst 0, 1) := by decide +kernel
theorem dX9_bend_21 : decode cX9_bend 21 = .ok (.bipush 99, 2) := by decide +kernel
theorem dX9_bend_23 : decode cX9_bend 23 = .ok (.invokestatic 77, 3) := by decide +kernel
theorem dX9_bend_26 : decode cX9_bend 26 = .ok (.ifCond .ne 6, 3) := by decide +kernel
theorem dX9_bend_29 : decode cX9_bend 29 = .ok (.bipush (-2), 2) := by decide +kernel
theorem dX9_bend_31 : decode cX9_bend 31 = .ok (.ireturn, 1) := by decide +kernel
theorem dX9_bend_32 : decode cX9_bend 32 = .ok (.iload_n 2, 1) := by decide +kernel
theorem dX9_bend_33 : decode cX9_bend 33 = .ok (.iload_n 3, 1) := by decide +kernel
theorem dX9_bend_34 : decode cX9_bend 34 = .ok (.aload_n 0, 1) := by decide +kernel
theorem dX9_bend_35 : decode cX9_bend 35 = .ok (.iload_n 1, 1) := by decide +kernel
theorem dX9_bend_36 : decode cX9_bend 36 = .ok (.invokevirtual 252, 3) := by decide +kernel
theorem dX9_bend_39 : decode cX9_bend 39 = .ok (.imul, 1) := by decide +kernel
theorem dX9_bend_40 : decode cX9_bend 40 = .ok (.if_icmp .ge 7, 3) := by decide +kernel
theorem dX9_bend_43 : decode cX9_bend 43 = .ok (.iconst 1, 1) := by decide +kernel
theorem dX9_bend_44 : decode cX9_bend 44 = .ok (.goto 4, 3) := by decide +kernel
theorem dX9_bend_47 : decode cX9_bend 47 = .ok (.iconst 0, 1) := by decide +kernel
theorem dX9_bend_48 : decode cX9_bend 48 = .ok (.ireturn, 1) := by decide +kernel
theorem dX9_sheet_0 : decode cX9_sheet 0 = .ok (.iload_n 1, 1) := by decide +kernel
theorem dX9_sheet_1 : decode cX9_sheet 1 = .ok (.invokestatic 132, 3) := by decide +kernel
theorem dX9_sheet_4 : decode cX9_sheet 4 = .ok (.ifCond .eq 16, 3) := by decide +kernel
theorem dX9_sheet_7 : decode cX9_sheet 7 = .ok (.iload_n 2, 1) := by decide +kernel
theorem dX9_sheet_8 : decode cX9_sheet 8 = .ok (.invokestatic 255, 3) := by decide +kernel
theorem dX9_sheet_11 : decode cX9_sheet 11 = .ok (.ifCond .eq 9, 3) := by decide +kernel
theorem dX9_sheet_14 : decode cX9_sheet 14 = .ok (.iload_n 3, 1) := by decide +kernel
theorem dX9_sheet_15 : decode cX9_sheet 15 = .ok (.bipush 60, 2) := by decide +kernel
theorem dX9_sheet_17 : decode cX9_sheet 17 = .ok (.if_icmp .le 6, 3) := by decide +kernel
theorem dX9_sheet_20 : decode cX9_sheet 20 = .ok (.bipush (-2), 2) := by decide +kernel
theorem dX9_sheet_22 : decode cX9_sheet 22 = .ok (.ireturn, 1) := by decide +kernel
theorem dX9_sheet_23 : decode cX9_sheet 23 = .ok (.iload_n 3, 1) := by decide +kernel
theorem dX9_sheet_24 : decode cX9_sheet 24 = .ok (.ifCond .ge 9, 3) := by decide +kernel
theorem dX9_sheet_27 : decode cX9_sheet 27 = .ok (.aload_n 0, 1) := by decide +kernel
theorem dX9_sheet_28 : decode cX9_sheet 28 = .ok (.iconst 5, 1) := by decide +kernel
theorem dX9_sheet_29 : decode cX9_sheet 29 = .ok (.invokevirtual 138, 3) := by decide +kernel
theorem dX9_sheet_32 : decode cX9_sheet 32 = .ok (.ireturn, 1) := by decide +kernel
theorem dX9_sheet_33 : decode cX9_sheet 33 = .ok (.aload_n 0, 1) := by decide +kernel
theorem dX9_sheet_34 : decode cX9_sheet 34 = .ok (.getfield 60, 3) := by decide +kernel
theorem dX9_sheet_37 : decode cX9_sheet 37 = .ok (.iload_n 1, 1) := by decide +kernel
theorem dX9_sheet_38 : decode cX9_sheet 38 = .ok (.aaload, 1) := by decide +kernel
theorem dX9_sheet_39 : decode cX9_sheet 39 = .ok (.iload_n 2, 1) := by decide +kernel
theorem dX9_sheet_40 : decode cX9_sheet 40 = .ok (.iload_n 3, 1) := by decide +kernel
theorem dX9_sheet_41 : decode cX9_sheet 41 = .ok (.invokevirtual 258, 3) := by decide +kernel
theorem dX9_sheet_44 : decode cX9_sheet 44 = .ok (.iload_n 3, 1) := by decide +kernel
theorem dX9_sheet_45 : decode cX9_sheet 45 = .ok (.ireturn, 1) := by decide +kernel
theorem dX9_lose_0 : decode cX9_lose 0 = .ok (.iload_n 1, 1) := by decide +kernel
theorem dX9_lose_1 : decode cX9_lose 1 = .ok (.invokestatic 132, 3) := by decide +kernel
theorem dX9_lose_4 : decode cX9_lose 4 = .ok (.ifCond .ne 6, 3) := by decide +kernel
theorem dX9_lose_7 : decode cX9_lose 7 = .ok (.bipush (-2), 2) := by decide +kernel
theorem dX9_lose_9 : decode cX9_lose 9 = .ok (.ireturn, 1) := by decide +kernel
theorem dX9_lose_10 : decode cX9_lose 10 = .ok (.aload_n 0, 1) := by decide +kernel
theorem dX9_lose_11 : decode cX9_lose 11 = .ok (.getfield 60, 3) := by decide +kernel
theorem dX9_lose_14 : decode cX9_lose 14 = .ok (.iload_n 1, 1) := by decide +kernel
theorem dX9_lose_15 : decode cX9_lose 15 = .ok (.aaload, 1) := by decide +kernel
theorem dX9_lose_16 : decode cX9_lose 16 = .ok (.astore_n 2, 1) := by decide +kernel
theorem dX9_lose_17 : decode cX9_lose 17 = .ok (.aload_n 2, 1) := by decide +kernel
theorem dX9_lose_18 : decode cX9_lose 18 = .ok (.invokevirtual 135, 3) := by decide +kernel
theorem dX9_lose_21 : decode cX9_lose 21 = .ok (.ifCond .eq 9, 3) := by decide +kernel
theorem dX9_lose_24 : decode cX9_lose 24 = .ok (.aload_n 0, 1) := by decide +kernel
theorem dX9_lose_25 : decode cX9_lose 25 = .ok (.iconst 1, 1) := by decide +kernel
theorem dX9_lose_26 : decode cX9_lose 26 = .ok (.invokevirtual 138, 3) := by decide +kernel
theorem dX9_lose_29 : decode cX9_lose 29 = .ok (.ireturn, 1) := by decide +kernel
theorem dX9_lose_30 : decode cX9_lose 30 = .ok (.aload_n 2, 1) := by decide +kernel
theorem dX9_lose_31 : decode cX9_lose 31 = .ok (.iconst (-1), 1) := by decide +kernel
theorem dX9_lose_32 : decode cX9_lose 32 = .ok (.putfield 261, 3) := by decide +kernel
theorem dX9_lose_35 : decode cX9_lose 35 = .ok (.aload_n 2, 1) := by decide +kernel
theorem dX9_lose_36 : decode cX9_lose 36 = .ok (.getfield 142, 3) := by decide +kernel
theorem dX9_lose_39 : decode cX9_lose 39 = .ok (.ireturn, 1) := by decide +kernel
theorem dX9_lay_0 : decode cX9_lay 0 = .ok (.iload_n 1, 1) := by decide +kernel
theorem dX9_lay_1 : decode cX9_lay 1 = .ok (.invokestatic 132, 3) := by decide +kernel
theorem dX9_lay_4 : decode cX9_lay 4 = .ok (.ifCond .eq 10, 3) := by decide +kernel
theorem dX9_lay_7 : decode cX9_lay 7 = .ok (.iload_n 2, 1) := by decide +kernel
theorem dX9_lay_8 : decode cX9_lay 8 = .ok (.invokestatic 255, 3) := by decide +kernel
theorem dX9_lay_11 : decode cX9_lay 11 = .ok (.ifCond .ne 6, 3) := by decide +kernel
theorem dX9_lay_14 : decode cX9_lay 14 = .ok (.bipush (-2), 2) := by decide +kernel
theorem dX9_lay_16 : decode cX9_lay 16 = .ok (.ireturn, 1) := by decide +kernel
theorem dX9_lay_17 : decode cX9_lay 17 = .ok (.aload_n 0, 1) := by decide +kernel
theorem dX9_lay_18 : decode cX9_lay 18 = .ok (.getfield 60, 3) := by decide +kernel
theorem dX9_lay_21 : decode cX9_lay 21 = .ok (.iload_n 1, 1) := by decide +kernel
theorem dX9_lay_22 : decode cX9_lay 22 = .ok (.aaload, 1) := by decide +kernel
theorem dX9_lay_23 : decode cX9_lay 23 = .ok (.iload_n 2, 1) := by decide +kernel
theorem dX9_lay_24 : decode cX9_lay 24 = .ok (.iload_n 3, 1) := by decide +kernel
theorem dX9_lay_25 : decode cX9_lay 25 = .ok (.invokevirtual 264, 3) := by decide +kernel
theorem dX9_lay_28 : decode cX9_lay 28 = .ok (.istore 5, 2) := by decide +kernel
theorem dX9_lay_30 : decode cX9_lay 30 = .ok (.iload 5, 2) := by decide +kernel
theorem dX9_lay_32 : decode cX9_lay 32 = .ok (.ifCond .eq 10, 3) := by decide +kernel
theorem dX9_lay_35 : decode cX9_lay 35 = .ok (.aload_n 0, 1) := by decide +kernel
theorem dX9_lay_36 : decode cX9_lay 36 = .ok (.iload 5, 2) := by decide +kernel
theorem dX9_lay_38 : decode cX9_lay 38 = .ok (.invokevirtual 138, 3) := by decide +kernel
theorem dX9_lay_41 : decode cX9_lay 41 = .ok (.ireturn, 1) := by decide +kernel
theorem dX9_lay_42 : decode cX9_lay 42 = .ok (.aload_n 0, 1) := by decide +kernel
theorem dX9_lay_43 : decode cX9_lay 43 = .ok (.getfield 60, 3) := by decide +kernel
theorem dX9_lay_46 : decode cX9_lay 46 = .ok (.iload_n 1, 1) := by decide +kernel
theorem dX9_lay_47 : decode cX9_lay 47 = .ok (.aaload, 1) := by decide +kernel
theorem dX9_lay_48 : decode cX9_lay 48 = .ok (.iload_n 3, 1) := by decide +kernel
theorem dX9_lay_49 : decode cX9_lay 49 = .ok (.iload 4, 2) := by decide +kernel
theorem dX9_lay_51 : decode cX9_lay 51 = .ok (.invokevirtual 267, 3) := by decide +kernel
theorem dX9_lay_54 : decode cX9_lay 54 = .ok (.iconst 1, 1) := by decide +kernel
theorem dX9_lay_55 : decode cX9_lay 55 = .ok (.ireturn, 1) := by decide +kernel
theorem dX9_get_0 : decode cX9_get 0 = .ok (.iload_n 1, 1) := by decide +kernel
theorem dX9_get_1 : decode cX9_get 1 = .ok (.invokestatic 132, 3) := by decide +kernel
theorem dX9_get_4 : decode cX9_get 4 = .ok (.ifCond .eq 10, 3) := by decide +kernel
theorem dX9_get_7 : decode cX9_get 7 = .ok (.iload_n 2, 1) := by decide +kernel
theorem dX9_get_8 : decode cX9_get 8 = .ok (.invokestatic 255, 3) := by decide +kernel
theorem dX9_get_11 : decode cX9_get 11 = .ok (.ifCond .ne 7, 3) := by decide +kernel
theorem dX9_get_14 : decode cX9_get 14 = .ok (.ldc_w 269, 3) := by decide +kernel
theorem dX9_get_17 : decode cX9_get 17 = .ok (.ireturn, 1) := by decide +kernel
theorem dX9_get_18 : decode cX9_get 18 = .ok (.aload_n 0, 1) := by decide +kernel
theorem dX9_get_19 : decode cX9_get 19 = .ok (.getfield 60, 3) := by decide +kernel
theorem dX9_get_22 : decode cX9_get 22 = .ok (.iload_n 1, 1) := by decide +kernel
theorem dX9_get_23 : decode cX9_get 23 = .ok (.aaload, 1) := by decide +kernel
theorem dX9_get_24 : decode cX9_get 24 = .ok (.iload_n 2, 1) := by decide +kernel
theorem dX9_get_25 : decode cX9_get 25 = .ok (.iload_n 3, 1) := by decide +kernel
theorem dX9_get_26 : decode cX9_get 26 = .ok (.invokevirtual 264, 3) := by decide +kernel
theorem dX9_get_29 : decode cX9_get 29 = .ok (.istore 4, 2) := by decide +kernel
theorem dX9_get_31 : decode cX9_get 31 = .ok (.iload 4, 2) := by decide +kernel
theorem dX9_get_33 : decode cX9_get 33 = .ok (.ifCond .eq 13, 3) := by decide +kernel
theorem dX9_get_36 : decode cX9_get 36 = .ok (.aload_n 0, 1) := by decide +kernel
theorem dX9_get_37 : decode cX9_get 37 = .ok (.iload 4, 2) := by decide +kernel
theorem dX9_get_39 : decode cX9_get 39 = .ok (.putfield 68, 3) := by decide +kernel
theorem dX9_get_42 : decode cX9_get 42 = .ok (.ldc_w 269, 3) := by decide +kernel
theorem dX9_get_45 : decode cX9_get 45 = .ok (.ireturn, 1) := by decide +kernel
theorem dX9_get_46 : decode cX9_get 46 = .ok (.aload_n 0, 1) := by decide +kernel
theorem dX9_get_47 : decode cX9_get 47 = .ok (.getfield 60, 3) := by decide +kernel
theorem dX9_get_50 : decode cX9_get 50 = .ok (.iload_n 1, 1) := by decide +kernel
theorem dX9_get_51 : decode cX9_get 51 = .ok (.aaload, 1) := by decide +kernel
theorem dX9_get_52 : decode cX9_get 52 = .ok (.getfield 148, 3) := by decide +kernel
theorem dX9_get_55 : decode cX9_get 55 = .ok (.iload_n 3, 1) := by decide +kernel
theorem dX9_get_56 : decode cX9_get 56 = .ok (.iaload, 1) := by decide +kernel
theorem dX9_get_57 : decode cX9_get 57 = .ok (.ireturn, 1) := by decide +kernel
theorem dX9_copy_0 : decode cX9_copy 0 = .ok (.iload_n 1, 1) := by decide +kernel
theorem dX9_copy_1 : decode cX9_copy 1 = .ok (.invokestatic 132, 3) := by decide +kernel
theorem dX9_copy_4 : decode cX9_copy 4 = .ok (.ifCond .eq 10, 3) := by decide +kernel
theorem dX9_copy_7 : decode cX9_copy 7 = .ok (.iload_n 3, 1) := by decide +kernel
theorem dX9_copy_8 : decode cX9_copy 8 = .ok (.invokestatic 132, 3) := by decide +kernel
theorem dX9_copy_11 : decode cX9_copy 11 = .ok (.ifCond .ne 6, 3) := by decide +kernel
theorem dX9_copy_14 : decode cX9_copy 14 = .ok (.bipush (-2), 2) := by decide +kernel
theorem dX9_copy_16 : decode cX9_copy 16 = .ok (.ireturn, 1) := by decide +kernel
theorem dX9_copy_17 : decode cX9_copy 17 = .ok (.aload_n 0, 1) := by decide +kernel
theorem dX9_copy_18 : decode cX9_copy 18 = .ok (.getfield 60, 3) := by decide +kernel
theorem dX9_copy_21 : decode cX9_copy 21 = .ok (.iload_n 1, 1) := by decide +kernel
theorem dX9_copy_22 : decode cX9_copy 22 = .ok (.aaload, 1) := by decide +kernel
theorem dX9_copy_23 : decode cX9_copy 23 = .ok (.astore 6, 2) := by decide +kernel
theorem dX9_copy_25 : decode cX9_copy 25 = .ok (.aload_n 0, 1) := by decide +kernel
theorem dX9_copy_26 : decode cX9_copy 26 = .ok (.getfield 60, 3) := by decide +kernel
theorem dX9_copy_29 : decode cX9_copy 29 = .ok (.iload_n 3, 1) := by decide +kernel
theorem dX9_copy_30 : decode cX9_copy 30 = .ok (.aaload, 1) := by decide +kernel
theorem dX9_copy_31 : decode cX9_copy 31 = .ok (.astore 7, 2) := by decide +kernel
theorem dX9_copy_33 : decode cX9_copy 33 = .ok (.aload 6, 2) := by decide +kernel
theorem dX9_copy_35 : decode cX9_copy 35 = .ok (.invokevirtual 135, 3) := by decide +kernel
theorem dX9_copy_38 : decode cX9_copy 38 = .ok (.ifCond .ne 11, 3) := by decide +kernel
theorem dX9_copy_41 : decode cX9_copy 41 = .ok (.aload 7, 2) := by decide +kernel
theorem dX9_copy_43 : decode cX9_copy 43 = .ok (.invokevirtual 135, 3) := by decide +kernel
theorem dX9_copy_46 : decode cX9_copy 46 = .ok (.ifCond .eq 9, 3) := by decide +kernel
theorem dX9_copy_49 : decode cX9_copy 49 = .ok (.aload_n 0, 1) := by decide +kernel
theorem dX9_copy_50 : decode cX9_copy 50 = .ok (.iconst 1, 1) := by decide +kernel
theorem dX9_copy_51 : decode cX9_copy 51 = .ok (.invokevirtual 138, 3) := by decide +kernel
theorem dX9_copy_54 : decode cX9_copy 54 = .ok (.ireturn, 1) := by decide +kernel
theorem dX9_copy_55 : decode cX9_copy 55 = .ok (.aload 6, 2) := by decide +kernel
theorem dX9_copy_57 : decode cX9_copy 57 = .ok (.getfield 261, 3) := by decide +kernel
theorem dX9_copy_60 : decode cX9_copy 60 = .ok (.aload 7, 2) := by decide +kernel
theorem dX9_copy_62 : decode cX9_copy 62 = .ok (.getfield 261, 3) := by decide +kernel
theorem dX9_copy_65 : decode cX9_copy 65 = .ok (.if_icmp .eq 9, 3) := by decide +kernel
theorem dX9_copy_68 : decode cX9_copy 68 = .ok (.aload_n 0, 1) := by decide +kernel
theorem dX9_copy_69 : decode cX9_copy 69 = .ok (.iconst 4, 1) := by decide +kernel
theorem dX9_copy_70 : decode cX9_copy 70 = .ok (.invokevirtual 138, 3) := by decide +kernel
theorem dX9_copy_73 : decode cX9_copy 73 = .ok (.ireturn, 1) := by decide +kernel
theorem dX9_copy_74 : decode cX9_copy 74 = .ok (.aload 6, 2) := by decide +kernel
theorem dX9_copy_76 : decode cX9_copy 76 = .ok (.iload_n 2, 1) := by decide +kernel
theorem dX9_copy_77 : decode cX9_copy 77 = .ok (.iload 5, 2) := by decide +kernel
theorem dX9_copy_79 : decode cX9_copy 79 = .ok (.invokevirtual 270, 3) := by decide +kernel
theorem dX9_copy_82 : decode cX9_copy 82 = .ok (.ifCond .eq 15, 3) := by decide +kernel
theorem dX9_copy_85 : decode cX9_copy 85 = .ok (.aload 7, 2) := by decide +kernel
theorem dX9_copy_87 : decode cX9_copy 87 = .ok (.iload 4, 2) := by decide +kernel
theorem dX9_copy_89 : decode cX9_copy 89 = .ok (.iload 5, 2) := by decide +kernel
theorem dX9_copy_91 : decode cX9_copy 91 = .ok (.invokevirtual 270, 3) := by decide +kernel
theorem dX9_copy_94 : decode cX9_copy 94 = .ok (.ifCond .ne 9, 3) := by decide +kernel
theorem dX9_copy_97 : decode cX9_copy 97 = .ok (.aload_n 0, 1) := by decide +kernel
theorem dX9_copy_98 : decode cX9_copy 98 = .ok (.iconst 2, 1) := by decide +kernel
theorem dX9_copy_99 : decode cX9_copy 99 = .ok (.invokevirtual 138, 3) := by decide +kernel
theorem dX9_copy_102 : decode cX9_copy 102 = .ok (.ireturn, 1) := by decide +kernel
theorem dX9_copy_103 : decode cX9_copy 103 = .ok (.aload 6, 2) := by decide +kernel
theorem dX9_copy_105 : decode cX9_copy 105 = .ok (.getfield 148, 3) := by decide +kernel
theorem dX9_copy_108 : decode cX9_copy 108 = .ok (.iload_n 2, 1) := by decide +kernel
theorem dX9_copy_109 : decode cX9_copy 109 = .ok (.aload 7, 2) := by decide +kernel
theorem dX9_copy_111 : decode cX9_copy 111 = .ok (.getfield 148, 3) := by decide +kernel
theorem dX9_copy_114 : decode cX9_copy 114 = .ok (.iload 4, 2) := by decide +kernel
theorem dX9_copy_116 : decode cX9_copy 116 = .ok (.iload 5, 2) := by decide +kernel
theorem dX9_copy_118 : decode cX9_copy 118 = .ok (.invokestatic 273, 3) := by decide +kernel
theorem dX9_copy_121 : decode cX9_copy 121 = .ok (.iconst 1, 1) := by decide +kernel
theorem dX9_copy_122 : decode cX9_copy 122 = .ok (.ireturn, 1) := by decide +kernel
theorem dX9_write_0 : decode cX9_write 0 = .ok (.iload_n 1, 1) := by decide +kernel
theorem dX9_write_1 : decode cX9_write 1 = .ok (.invokestatic 105, 3) := by decide +kernel
theorem dX9_write_4 : decode cX9_write 4 = .ok (.ifCond .eq 10, 3) := by decide +kernel
theorem dX9_write_7 : decode cX9_write 7 = .ok (.iload_n 2, 1) := by decide +kernel
theorem dX9_write_8 : decode cX9_write 8 = .ok (.invokestatic 132, 3) := by decide +kernel
theorem dX9_write_11 : decode cX9_write 11 = .ok (.ifCond .ne 6, 3) := by decide +kernel
theorem dX9_write_14 : decode cX9_write 14 = .ok (.bipush (-2), 2) := by decide +kernel
theorem dX9_write_16 : decode cX9_write 16 = .ok (.ireturn, 1) := by decide +kernel
theorem dX9_write_17 : decode cX9_write 17 = .ok (.aload_n 0, 1) := by decide +kernel
theorem dX9_write_18 : decode cX9_write 18 = .ok (.getfield 60, 3) := by decide +kernel
theorem dX9_write_21 : decode cX9_write 21 = .ok (.iload_n 2, 1) := by decide +kernel
theorem dX9_write_22 : decode cX9_write 22 = .ok (.aaload, 1) := by decide +kernel
theorem dX9_write_23 : decode cX9_write 23 = .ok (.astore_n 3, 1) := by decide +kernel
theorem dX9_write_24 : decode cX9_write 24 = .ok (.aload_n 3, 1) := by decide +kernel
theorem dX9_write_25 : decode cX9_write 25 = .ok (.invokevirtual 135, 3) := by decide +kernel
theorem dX9_write_28 : decode cX9_write 28 = .ok (.ifCond .eq 9, 3) := by decide +kernel
theorem dX9_write_31 : decode cX9_write 31 = .ok (.aload_n 0, 1) := by decide +kernel
theorem dX9_write_32 : decode cX9_write 32 = .ok (.iconst 1, 1) := by decide +kernel
theorem dX9_write_33 : decode cX9_write 33 = .ok (.invokevirtual 138, 3) := by decide +kernel
theorem dX9_write_36 : decode cX9_write 36 = .ok (.ireturn, 1) := by decide +kernel
theorem dX9_write_37 : decode cX9_write 37 = .ok (.aload_n 0, 1) := by decide +kernel
theorem dX9_write_38 : decode cX9_write 38 = .ok (.invokevirtual 155, 3) := by decide +kernel
theorem dX9_write_41 : decode cX9_write 41 = .ok (.astore 4, 2) := by decide +kernel
theorem dX9_write_43 : decode cX9_write 43 = .ok (.aload_n 3, 1) := by decide +kernel
theorem dX9_write_44 : decode cX9_write 44 = .ok (.getfield 142, 3) := by decide +kernel
theorem dX9_write_47 : decode cX9_write 47 = .ok (.aload 4, 2) := by decide +kernel
theorem dX9_write_49 : decode cX9_write 49 = .ok (.getfield 199, 3) := by decide +kernel
theorem dX9_write_52 : decode cX9_write 52 = .ok (.invokestatic 143, 3) := by decide +kernel
theorem dX9_write_55 : decode cX9_write 55 = .ok (.istore 5, 2) := by decide +kernel
theorem dX9_write_57 : decode cX9_write 57 = .ok (.iconst 0, 1) := by decide +kernel
theorem dX9_write_58 : decode cX9_write 58 = .ok (.istore 6, 2) := by decide +kernel
theorem dX9_write_60 : decode cX9_write 60 = .ok (.iload 6, 2) := by decide +kernel
theorem dX9_write_62 : decode cX9_write 62 = .ok (.iload 5, 2) := by decide +kernel
theorem dX9_write_64 : decode cX9_write 64 = .ok (.if_icmp .ge 23, 3) := by decide +kernel
theorem dX9_write_67 : decode cX9_write 67 = .ok (.aload_n 3, 1) := by decide +kernel
theorem dX9_write_68 : decode cX9_write 68 = .ok (.iload 6, 2) := by decide +kernel
theorem dX9_write_70 : decode cX9_write 70 = .ok (.aload 4, 2) := by decide +kernel
theorem dX9_write_72 : decode cX9_write 72 = .ok (.getfield 202, 3) := by decide +kernel
theorem dX9_write_75 : decode cX9_write 75 = .ok (.iload 6, 2) := by decide +kernel
theorem dX9_write_77 : decode cX9_write 77 = .ok (.iaload, 1) := by decide +kernel
theorem dX9_write_78 : decode cX9_write 78 = .ok (.invokevirtual 267, 3) := by decide +kernel
theorem dX9_write_81 : decode cX9_write 81 = .ok (.iinc 6 1, 3) := by decide +kernel
theorem dX9_write_84 : decode cX9_write 84 = .ok (.goto (-24), 3) := by decide +kernel
theorem dX9_write_87 : decode cX9_write 87 = .ok (.iload 5, 2) := by decide +kernel
theorem dX9_write_89 : decode cX9_write 89 = .ok (.ireturn, 1) := by decide +kernel
theorem dX9_count_0 : decode cX9_count 0 = .ok (.iload_n 1, 1) := by decide +kernel
theorem dX9_count_1 : decode cX9_count 1 = .ok (.tableswitch 133 0 8 #[51, 59, 67, 78, 89, 97, 112, 120, 128], 51) := by decide +kernel
theorem dX9_count_52 : decode cX9_count 52 = .ok (.aload_n 0, 1) := by decide +kernel
theorem dX9_count_53 : decode cX9_count 53 = .ok (.getfield 12, 3) := by decide +kernel
theorem dX9_count_56 : decode cX9_count 56 = .ok (.getfield 279, 3) := by decide +kernel
theorem dX9_count_59 : decode cX9_count 59 = .ok (.ireturn, 1) := by decide +kernel
theorem dX9_count_60 : decode cX9_count 60 = .ok (.aload_n 0, 1) := by decide +kernel
theorem dX9_count_61 : decode cX9_count 61 = .ok (.getfield 19, 3) := by decide +kernel
theorem dX9_count_64 : decode cX9_count 64 = .ok (.getfield 282, 3) := by decide +kernel
theorem dX9_count_67 : decode cX9_count 67 = .ok (.ireturn, 1) := by decide +kernel
theorem dX9_count_68 : decode cX9_count 68 = .ok (.aload_n 0, 1) := by decide +kernel
theorem dX9_count_69 : decode cX9_count 69 = .ok (.getfield 12, 3) := by decide +kernel
theorem dX9_count_72 : decode cX9_count 72 = .ok (.getfield 285, 3) := by decide +kernel
theorem dX9_count_75 : decode cX9_count 75 = .ok (.getfield 98, 3) := by decide +kernel
theorem dX9_count_78 : decode cX9_count 78 = .ok (.ireturn, 1) := by decide +kernel
theorem dX9_count_79 : decode cX9_count 79 = .ok (.aload_n 0, 1) := by decide +kernel
theorem dX9_count_80 : decode cX9_count 80 = .ok (.getfield 19, 3) := by decide +kernel
theorem dX9_count_83 : decode cX9_count 83 = .ok (.getfield 289, 3) := by decide +kernel
theorem dX9_count_86 : decode cX9_count 86 = .ok (.getfield 98, 3) := by decide +kernel
theorem dX9_count_89 : decode cX9_count 89 = .ok (.ireturn, 1) := by decide +kernel
theorem dX9_count_90 : decode cX9_count 90 = .ok (.aload_n 0, 1) := by decide +kernel
theorem dX9_count_91 : decode cX9_count 91 = .ok (.getfield 40, 3) := by decide +kernel
theorem dX9_count_94 : decode cX9_count 94 = .ok (.getfield 151, 3) := by decide +kernel
theorem dX9_count_97 : decode cX9_count 97 = .ok (.ireturn, 1) := by decide +kernel
theorem dX9_count_98 : decode cX9_count 98 = .ok (.aload_n 0, 1) := by decide +kernel
theorem dX9_count_99 : decode cX9_count 99 = .ok (.invokevirtual 155, 3) := by decide +kernel
theorem dX9_count_102 : decode cX9_count 102 = .ok (.aload_n 0, 1) := by decide +kernel
theorem dX9_count_103 : decode cX9_count 103 = .ok (.getfield 40, 3) := by decide +kernel
theorem dX9_count_106 : decode cX9_count 106 = .ok (.getfield 151, 3) := by decide +kernel
theorem dX9_count_109 : decode cX9_count 109 = .ok (.invokevirtual 180, 3) := by decide +kernel
theorem dX9_count_112 : decode cX9_count 112 = .ok (.ireturn, 1) := by decide +kernel
theorem dX9_count_113 : decode cX9_count 113 = .ok (.aload_n 0, 1) := by decide +kernel
theorem dX9_count_114 : decode cX9_count 114 = .ok (.getfield 12, 3) := by decide +kernel
theorem dX9_count_117 : decode cX9_count 117 = .ok (.getfield 290, 3) := by decide +kernel
theorem dX9_count_120 : decode cX9_count 120 = .ok (.ireturn, 1) := by decide +kernel
theorem dX9_count_121 : decode cX9_count 121 = .ok (.aload_n 0, 1) := by decide +kernel
theorem dX9_count_122 : decode cX9_count 122 = .ok (.getfield 54, 3) := by decide +kernel
theorem dX9_count_125 : decode cX9_count 125 = .ok (.getfield 238, 3) := by decide +kernel
theorem dX9_count_128 : decode cX9_count 128 = .ok (.ireturn, 1) := by decide +kernel
theorem dX9_count_129 : decode cX9_count 129 = .ok (.aload_n 0, 1) := by decide +kernel
theorem dX9_count_130 : decode cX9_count 130 = .ok (.getfield 68, 3) := by decide +kernel
theorem dX9_count_133 : decode cX9_count 133 = .ok (.ireturn, 1) := by decide +kernel
theorem dX9_count_134 : decode cX9_count 134 = .ok (.bipush (-2), 2) := by decide +kernel
theorem dX9_count_136 : decode cX9_count 136 = .ok (.ireturn, 1) := by decide +kernel
theorem dX9_digest_0 : decode cX9_digest 0 = .ok (.ldc2_w 291, 3) := by decide +kernel
theorem dX9_digest_3 : decode cX9_digest 3 = .ok (.lstore_n 1, 1) := by decide +kernel
theorem dX9_digest_4 : decode cX9_digest 4 = .ok (.iconst 0, 1) := by decide +kernel
theorem dX9_digest_5 : decode cX9_digest 5 = .ok (.istore_n 3, 1) := by decide +kernel
theorem dX9_digest_6 : decode cX9_digest 6 = .ok (.iload_n 3, 1) := by decide +kernel
theorem dX9_digest_7 : decode cX9_digest 7 = .ok (.bipush 7, 2) := by decide +kernel
theorem dX9_digest_9 : decode cX9_digest 9 = .ok (.if_icmp .gt 20, 3) := by decide +kernel
theorem dX9_digest_12 : decode cX9_digest 12 = .ok (.lload_n 1, 1) := by decide +kernel
theorem dX9_digest_13 : decode cX9_digest 13 = .ok (.aload_n 0, 1) := by decide +kernel
theorem dX9_digest_14 : decode cX9_digest 14 = .ok (.iload_n 3, 1) := by decide +kernel
theorem dX9_digest_15 : decode cX9_digest 15 = .ok (.invokevirtual 293, 3) := by decide +kernel
theorem dX9_digest_18 : decode cX9_digest 18 = .ok (.i2l, 1) := by decide +kernel
theorem dX9_digest_19 : decode cX9_digest 19 = .ok (.invokestatic 296, 3) := by decide +kernel
theorem dX9_digest_22 : decode cX9_digest 22 = .ok (.lstore_n 1, 1) := by decide +kernel
theorem dX9_digest_23 : decode cX9_digest 23 = .ok (.iinc 3 1, 3) := by decide +kernel
theorem dX9_digest_26 : decode cX9_digest 26 = .ok (.goto (-20), 3) := by decide +kernel
theorem dX9_digest_29 : decode cX9_digest 29 = .ok (.lload_n 1, 1) := by decide +kernel
theorem dX9_digest_30 : decode cX9_digest 30 = .ok (.aload_n 0, 1) := by decide +kernel
theorem dX9_digest_31 : decode cX9_digest 31 = .ok (.iconst 0, 1) := by decide +kernel
theorem dX9_digest_32 : decode cX9_digest 32 = .ok (.invokevirtual 300, 3) := by decide +kernel
theorem dX9_digest_35 : decode cX9_digest 35 = .ok (.i2l, 1) := by decide +kernel
theorem dX9_digest_36 : decode cX9_digest 36 = .ok (.invokestatic 296, 3) := by decide +kernel
theorem dX9_digest_39 : decode cX9_digest 39 = .ok (.lstore_n 1, 1) := by decide +kernel
theorem dX9_digest_40 : decode cX9_digest 40 = .ok (.lload_n 1, 1) := by decide +kernel
theorem dX9_digest_41 : decode cX9_digest 41 = .ok (.aload_n 0, 1) := by decide +kernel
theorem dX9_digest_42 : decode cX9_digest 42 = .ok (.iconst 1, 1) := by decide +kernel
theorem dX9_digest_43 : decode cX9_digest 43 = .ok (.invokevirtual 300, 3) := by decide +kernel
theorem dX9_digest_46 : decode cX9_digest 46 = .ok (.i2l, 1) := by decide +kernel
theorem dX9_digest_47 : decode cX9_digest 47 = .ok (.invokestatic 296, 3) := by decide +kernel
theorem dX9_digest_50 : decode cX9_digest 50 = .ok (.lstore_n 1, 1) := by decide +kernel
theorem dX9_digest_51 : decode cX9_digest 51 = .ok (.lload_n 1, 1) := by decide +kernel
theorem dX9_digest_52 : decode cX9_digest 52 = .ok (.aload_n 0, 1) := by decide +kernel
theorem dX9_digest_53 : decode cX9_digest 53 = .ok (.invokevirtual 302, 3) := by decide +kernel
theorem dX9_digest_56 : decode cX9_digest 56 = .ok (.i2l, 1) := by decide +kernel
theorem dX9_digest_57 : decode cX9_digest 57 = .ok (.invokestatic 296, 3) := by decide +kernel
theorem dX9_digest_60 : decode cX9_digest 60 = .ok (.lstore_n 1, 1) := by decide +kernel
theorem dX9_digest_61 : decode cX9_digest 61 = .ok (.iconst 0, 1) := by decide +kernel
theorem dX9_digest_62 : decode cX9_digest 62 = .ok (.istore_n 3, 1) := by decide +kernel
theorem dX9_digest_63 : decode cX9_digest 63 = .ok (.iload_n 3, 1) := by decide +kernel
theorem dX9_digest_64 : decode cX9_digest 64 = .ok (.iconst 2, 1) := by decide +kernel
theorem dX9_digest_65 : decode cX9_digest 65 = .ok (.if_icmp .gt 27, 3) := by decide +kernel
theorem dX9_digest_68 : decode cX9_digest 68 = .ok (.lload_n 1, 1) := by decide +kernel
theorem dX9_digest_69 : decode cX9_digest 69 = .ok (.aload_n 0, 1) := by decide +kernel
theorem dX9_digest_70 : decode cX9_digest 70 = .ok (.aload_n 0, 1) := by decide +kernel
theorem dX9_digest_71 : decode cX9_digest 71 = .ok (.getfield 40, 3) := by decide +kernel
theorem dX9_digest_74 : decode cX9_digest 74 = .ok (.getfield 151, 3) := by decide +kernel
theorem dX9_digest_77 : decode cX9_digest 77 = .ok (.iload_n 3, 1) := by decide +kernel
theorem dX9_digest_78 : decode cX9_digest 78 = .ok (.invokevirtual 305, 3) := by decide +kernel
theorem dX9_digest_81 : decode cX9_digest 81 = .ok (.i2l, 1) := by decide +kernel
theorem dX9_digest_82 : decode cX9_digest 82 = .ok (.invokestatic 296, 3) := by decide +kernel
theorem dX9_digest_85 : decode cX9_digest 85 = .ok (.lstore_n 1, 1) := by decide +kernel
theorem dX9_digest_86 : decode cX9_digest 86 = .ok (.iinc 3 1, 3) := by decide +kernel
theorem dX9_digest_89 : decode cX9_digest 89 = .ok (.goto (-26), 3) := by decide +kernel
theorem dX9_digest_92 : decode cX9_digest 92 = .ok (.iconst 0, 1) := by decide +kernel
theorem dX9_digest_93 : decode cX9_digest 93 = .ok (.istore_n 3, 1) := by decide +kernel
theorem dX9_digest_94 : decode cX9_digest 94 = .ok (.iload_n 3, 1) := by decide +kernel
theorem dX9_digest_95 : decode cX9_digest 95 = .ok (.iconst 4, 1) := by decide +kernel
theorem dX9_digest_96 : decode cX9_digest 96 = .ok (.if_icmp .ge 16, 3) := by decide +kernel
theorem dX9_digest_99 : decode cX9_digest 99 = .ok (.aload_n 0, 1) := by decide +kernel
theorem dX9_digest_100 : decode cX9_digest 100 = .ok (.lload_n 1, 1) := by decide +kernel
theorem dX9_digest_101 : decode cX9_digest 101 = .ok (.iload_n 3, 1) := by decide +kernel
theorem dX9_digest_102 : decode cX9_digest 102 = .ok (.invokevirtual 308, 3) := by decide +kernel
theorem dX9_digest_105 : decode cX9_digest 105 = .ok (.lstore_n 1, 1) := by decide +kernel
theorem dX9_digest_106 : decode cX9_digest 106 = .ok (.iinc 3 1, 3) := by decide +kernel
theorem dX9_digest_109 : decode cX9_digest 109 = .ok (.goto (-15), 3) := by decide +kernel
theorem dX9_digest_112 : decode cX9_digest 112 = .ok (.iconst 0, 1) := by decide +kernel
theorem dX9_digest_113 : decode cX9_digest 113 = .ok (.istore_n 3, 1) := by decide +kernel
theorem dX9_digest_114 : decode cX9_digest 114 = .ok (.iload_n 3, 1) := by decide +kernel
theorem dX9_digest_115 : decode cX9_digest 115 = .ok (.aload_n 0, 1) := by decide +kernel
theorem dX9_digest_116 : decode cX9_digest 116 = .ok (.getfield 19, 3) := by decide +kernel
theorem dX9_digest_119 : decode cX9_digest 119 = .ok (.getfield 282, 3) := by decide +kernel
theorem dX9_digest_122 : decode cX9_digest 122 = .ok (.if_icmp .ge 34, 3) := by decide +kernel
theorem dX9_digest_125 : decode cX9_digest 125 = .ok (.lload_n 1, 1) := by decide +kernel
theorem dX9_digest_126 : decode cX9_digest 126 = .ok (.aload_n 0, 1) := by decide +kernel
theorem dX9_digest_127 : decode cX9_digest 127 = .ok (.iload_n 3, 1) := by decide +kernel
theorem dX9_digest_128 : decode cX9_digest 128 = .ok (.invokevirtual 252, 3) := by decide +kernel
theorem dX9_digest_131 : decode cX9_digest 131 = .ok (.i2l, 1) := by decide +kernel
theorem dX9_digest_132 : decode cX9_digest 132 = .ok (.invokestatic 296, 3) := by decide +kernel
theorem dX9_digest_135 : decode cX9_digest 135 = .ok (.lstore_n 1, 1) := by decide +kernel
theorem dX9_digest_136 : decode cX9_digest 136 = .ok (.lload_n 1, 1) := by decide +kernel
theorem dX9_digest_137 : decode cX9_digest 137 = .ok (.aload_n 0, 1) := by decide +kernel
theorem dX9_digest_138 : decode cX9_digest 138 = .ok (.iload_n 3, 1) := by decide +kernel
theorem dX9_digest_139 : decode cX9_digest 139 = .ok (.bipush 30, 2) := by decide +kernel
theorem dX9_digest_141 : decode cX9_digest 141 = .ok (.iconst 2, 1) := by decide +kernel
theorem dX9_digest_142 : decode cX9_digest 142 = .ok (.invokevirtual 312, 3) := by decide +kernel
theorem dX9_digest_145 : decode cX9_digest 145 = .ok (.i2l, 1) := by decide +kernel
theorem dX9_digest_146 : decode cX9_digest 146 = .ok (.invokestatic 296, 3) := by decide +kernel
theorem dX9_digest_149 : decode cX9_digest 149 = .ok (.lstore_n 1, 1) := by decide +kernel
theorem dX9_digest_150 : decode cX9_digest 150 = .ok (.iinc 3 1, 3) := by decide +kernel
theorem dX9_digest_153 : decode cX9_digest 153 = .ok (.goto (-39), 3) := by decide +kernel
theorem dX9_digest_156 : decode cX9_digest 156 = .ok (.lload_n 1, 1) := by decide +kernel
theorem dX9_digest_157 : decode cX9_digest 157 = .ok (.aload_n 0, 1) := by decide +kernel
theorem dX9_digest_158 : decode cX9_digest 158 = .ok (.bipush 30, 2) := by decide +kernel
theorem dX9_digest_160 : decode cX9_digest 160 = .ok (.bipush 6, 2) := by decide +kernel
theorem dX9_digest_162 : decode cX9_digest 162 = .ok (.iconst 5, 1) := by decide +kernel
theorem dX9_digest_163 : decode cX9_digest 163 = .ok (.invokevirtual 315, 3) := by decide +kernel
theorem dX9_digest_166 : decode cX9_digest 166 = .ok (.i2l, 1) := by decide +kernel
theorem dX9_digest_167 : decode cX9_digest 167 = .ok (.invokestatic 296, 3) := by decide +kernel
theorem dX9_digest_170 : decode cX9_digest 170 = .ok (.lstore_n 1, 1) := by decide +kernel
theorem dX9_digest_171 : decode cX9_digest 171 = .ok (.lload_n 1, 1) := by decide +kernel
theorem dX9_digest_172 : decode cX9_digest 172 = .ok (.aload_n 0, 1) := by decide +kernel
theorem dX9_digest_173 : decode cX9_digest 173 = .ok (.iconst 3, 1) := by decide +kernel
theorem dX9_digest_174 : decode cX9_digest 174 = .ok (.iconst 4, 1) := by decide +kernel
theorem dX9_digest_175 : decode cX9_digest 175 = .ok (.iconst 5, 1) := by decide +kernel
theorem dX9_digest_176 : decode cX9_digest 176 = .ok (.iconst 0, 1) := by decide +kernel
theorem dX9_digest_177 : decode cX9_digest 177 = .ok (.invokevirtual 318, 3) := by decide +kernel
theorem dX9_digest_180 : decode cX9_digest 180 = .ok (.i2l, 1) := by decide +kernel
theorem dX9_digest_181 : decode cX9_digest 181 = .ok (.invokestatic 296, 3) := by decide +kernel
theorem dX9_digest_184 : decode cX9_digest 184 = .ok (.lstore_n 1, 1) := by decide +kernel
theorem dX9_digest_185 : decode cX9_digest 185 = .ok (.lload_n 1, 1) := by decide +kernel
theorem dX9_digest_186 : decode cX9_digest 186 = .ok (.aload_n 0, 1) := by decide +kernel
theorem dX9_digest_187 : decode cX9_digest 187 = .ok (.iconst 3, 1) := by decide +kernel
theorem dX9_digest_188 : decode cX9_digest 188 = .ok (.iconst 4, 1) := by decide +kernel
theorem dX9_digest_189 : decode cX9_digest 189 = .ok (.iconst 5, 1) := by decide +kernel
theorem dX9_digest_190 : decode cX9_digest 190 = .ok (.iconst 1, 1) := by decide +kernel
theorem dX9_digest_191 : decode cX9_digest 191 = .ok (.invokevirtual 318, 3) := by decide +kernel
theorem dX9_digest_194 : decode cX9_digest 194 = .ok (.i2l, 1) := by decide +kernel
theorem dX9_digest_195 : decode cX9_digest 195 = .ok (.invokestatic 296, 3) := by decide +kernel
theorem dX9_digest_198 : decode cX9_digest 198 = .ok (.lstore_n 1, 1) := by decide +kernel
theorem dX9_digest_199 : decode cX9_digest 199 = .ok (.lload_n 1, 1) := by decide +kernel
theorem dX9_digest_200 : decode cX9_digest 200 = .ok (.aload_n 0, 1) := by decide +kernel
theorem dX9_digest_201 : decode cX9_digest 201 = .ok (.bipush 8, 2) := by decide +kernel
theorem dX9_digest_203 : decode cX9_digest 203 = .ok (.bipush 60, 2) := by decide +kernel
theorem dX9_digest_205 : decode cX9_digest 205 = .ok (.iconst 4, 1) := by decide +kernel
theorem dX9_digest_206 : decode cX9_digest 206 = .ok (.bipush 90, 2) := by decide +kernel
theorem dX9_digest_208 : decode cX9_digest 208 = .ok (.invokevirtual 321, 3) := by decide +kernel
theorem dX9_digest_211 : decode cX9_digest 211 = .ok (.i2l, 1) := by decide +kernel
theorem dX9_digest_212 : decode cX9_digest 212 = .ok (.invokestatic 296, 3) := by decide +kernel
theorem dX9_digest_215 : decode cX9_digest 215 = .ok (.lstore_n 1, 1) := by decide +kernel
theorem dX9_digest_216 : decode cX9_digest 216 = .ok (.iconst (-1), 1) := by decide +kernel
theorem dX9_digest_217 : decode cX9_digest 217 = .ok (.istore_n 3, 1) := by decide +kernel
theorem dX9_digest_218 : decode cX9_digest 218 = .ok (.iload_n 3, 1) := by decide +kernel
theorem dX9_digest_219 : decode cX9_digest 219 = .ok (.iconst 1, 1) := by decide +kernel
theorem dX9_digest_220 : decode cX9_digest 220 = .ok (.if_icmp .gt 20, 3) := by decide +kernel
theorem dX9_digest_223 : decode cX9_digest 223 = .ok (.lload_n 1, 1) := by decide +kernel
theorem dX9_digest_224 : decode cX9_digest 224 = .ok (.aload_n 0, 1) := by decide +kernel
theorem dX9_digest_225 : decode cX9_digest 225 = .ok (.iload_n 3, 1) := by decide +kernel
theorem dX9_digest_226 : decode cX9_digest 226 = .ok (.invokevirtual 324, 3) := by decide +kernel
theorem dX9_digest_229 : decode cX9_digest 229 = .ok (.i2l, 1) := by decide +kernel
theorem dX9_digest_230 : decode cX9_digest 230 = .ok (.invokestatic 296, 3) := by decide +kernel
theorem dX9_digest_233 : decode cX9_digest 233 = .ok (.lstore_n 1, 1) := by decide +kernel
theorem dX9_digest_234 : decode cX9_digest 234 = .ok (.iinc 3 1, 3) := by decide +kernel
theorem dX9_digest_237 : decode cX9_digest 237 = .ok (.goto (-19), 3) := by decide +kernel
theorem dX9_digest_240 : decode cX9_digest 240 = .ok (.lload_n 1, 1) := by decide +kernel
theorem dX9_digest_241 : decode cX9_digest 241 = .ok (.aload_n 0, 1) := by decide +kernel
theorem dX9_digest_242 : decode cX9_digest 242 = .ok (.invokevirtual 327, 3) := by decide +kernel
theorem dX9_digest_245 : decode cX9_digest 245 = .ok (.i2l, 1) := by decide +kernel
theorem dX9_digest_246 : decode cX9_digest 246 = .ok (.invokestatic 296, 3) := by decide +kernel
theorem dX9_digest_249 : decode cX9_digest 249 = .ok (.lreturn, 1) := by decide +kernel
theorem dX9_mixedWithTool_0 : decode cX9_mixedWithTool 0 = .ok (.lload_n 1, 1) := by decide +kernel
theorem dX9_mixedWithTool_1 : decode cX9_mixedWithTool 1 = .ok (.aload_n 0, 1) := by decide +kernel
theorem dX9_mixedWithTool_2 : decode cX9_mixedWithTool 2 = .ok (.iload_n 3, 1) := by decide +kernel
theorem dX9_mixedWithTool_3 : decode cX9_mixedWithTool 3 = .ok (.invokevirtual 330, 3) := by decide +kernel
theorem dX9_mixedWithTool_6 : decode cX9_mixedWithTool 6 = .ok (.i2l, 1) := by decide +kernel
theorem dX9_mixedWithTool_7 : decode cX9_mixedWithTool 7 = .ok (.invokestatic 296, 3) := by decide +kernel
theorem dX9_mixedWithTool_10 : decode cX9_mixedWithTool 10 = .ok (.lstore 4, 2) := by decide +kernel
theorem dX9_mixedWithTool_12 : decode cX9_mixedWithTool 12 = .ok (.lload 4, 2) := by decide +kernel
theorem dX9_mixedWithTool_14 : decode cX9_mixedWithTool 14 = .ok (.aload_n 0, 1) := by decide +kernel
theorem dX9_mixedWithTool_15 : decode cX9_mixedWithTool 15 = .ok (.iload_n 3, 1) := by decide +kernel
theorem dX9_mixedWithTool_16 : decode cX9_mixedWithTool 16 = .ok (.invokevirtual 333, 3) := by decide +kernel
theorem dX9_mixedWithTool_19 : decode cX9_mixedWithTool 19 = .ok (.i2l, 1) := by decide +kernel
theorem dX9_mixedWithTool_20 : decode cX9_mixedWithTool 20 = .ok (.invokestatic 296, 3) := by decide +kernel
theorem dX9_mixedWithTool_23 : decode cX9_mixedWithTool 23 = .ok (.lstore 4, 2) := by decide +kernel
theorem dX9_mixedWithTool_25 : decode cX9_mixedWithTool 25 = .ok (.iconst (-1), 1) := by decide +kernel
theorem dX9_mixedWithTool_26 : decode cX9_mixedWithTool 26 = .ok (.istore 6, 2) := by decide +kernel
theorem dX9_mixedWithTool_28 : decode cX9_mixedWithTool 28 = .ok (.iload 6, 2) := by decide +kernel
theorem dX9_mixedWithTool_30 : decode cX9_mixedWithTool 30 = .ok (.iconst 1, 1) := by decide +kernel
theorem dX9_mixedWithTool_31 : decode cX9_mixedWithTool 31 = .ok (.if_icmp .gt 24, 3) := by decide +kernel
theorem dX9_mixedWithTool_34 : decode cX9_mixedWithTool 34 = .ok (.lload 4, 2) := by decide +kernel
theorem dX9_mixedWithTool_36 : decode cX9_mixedWithTool 36 = .ok (.aload_n 0, 1) := by decide +kernel
theorem dX9_mixedWithTool_37 : decode cX9_mixedWithTool 37 = .ok (.iload_n 3, 1) := by decide +kernel
theorem dX9_mixedWithTool_38 : decode cX9_mixedWithTool 38 = .ok (.iload 6, 2) := by decide +kernel
theorem dX9_mixedWithTool_40 : decode cX9_mixedWithTool 40 = .ok (.invokevirtual 336, 3) := by decide +kernel
theorem dX9_mixedWithTool_43 : decode cX9_mixedWithTool 43 = .ok (.i2l, 1) := by decide +kernel
theorem dX9_mixedWithTool_44 : decode cX9_mixedWithTool 44 = .ok (.invokestatic 296, 3) := by decide +kernel
theorem dX9_mixedWithTool_47 : decode cX9_mixedWithTool 47 = .ok (.lstore 4, 2) := by decide +kernel
theorem dX9_mixedWithTool_49 : decode cX9_mixedWithTool 49 = .ok (.iinc 6 1, 3) := by decide +kernel
theorem dX9_mixedWithTool_52 : decode cX9_mixedWithTool 52 = .ok (.goto (-24), 3) := by decide +kernel
theorem dX9_mixedWithTool_55 : decode cX9_mixedWithTool 55 = .ok (.lload 4, 2) := by decide +kernel
theorem dX9_mixedWithTool_57 : decode cX9_mixedWithTool 57 = .ok (.aload_n 0, 1) := by decide +kernel
theorem dX9_mixedWithTool_58 : decode cX9_mixedWithTool 58 = .ok (.iload_n 3, 1) := by decide +kernel
theorem dX9_mixedWithTool_59 : decode cX9_mixedWithTool 59 = .ok (.iconst 1, 1) := by decide +kernel
theorem dX9_mixedWithTool_60 : decode cX9_mixedWithTool 60 = .ok (.iconst 3, 1) := by decide +kernel
theorem dX9_mixedWithTool_61 : decode cX9_mixedWithTool 61 = .ok (.iconst 0, 1) := by decide +kernel
theorem dX9_mixedWithTool_62 : decode cX9_mixedWithTool 62 = .ok (.invokevirtual 339, 3) := by decide +kernel
theorem dX9_mixedWithTool_65 : decode cX9_mixedWithTool 65 = .ok (.i2l, 1) := by decide +kernel
theorem dX9_mixedWithTool_66 : decode cX9_mixedWithTool 66 = .ok (.invokestatic 296, 3) := by decide +kernel
theorem dX9_mixedWithTool_69 : decode cX9_mixedWithTool 69 = .ok (.lstore 4, 2) := by decide +kernel
theorem dX9_mixedWithTool_71 : decode cX9_mixedWithTool 71 = .ok (.lload 4, 2) := by decide +kernel
theorem dX9_mixedWithTool_73 : decode cX9_mixedWithTool 73 = .ok (.aload_n 0, 1) := by decide +kernel
theorem dX9_mixedWithTool_74 : decode cX9_mixedWithTool 74 = .ok (.iload_n 3, 1) := by decide +kernel
theorem dX9_mixedWithTool_75 : decode cX9_mixedWithTool 75 = .ok (.iconst 1, 1) := by decide +kernel
theorem dX9_mixedWithTool_76 : decode cX9_mixedWithTool 76 = .ok (.iconst 3, 1) := by decide +kernel
theorem dX9_mixedWithTool_77 : decode cX9_mixedWithTool 77 = .ok (.iconst 1, 1) := by decide +kernel
theorem dX9_mixedWithTool_78 : decode cX9_mixedWithTool 78 = .ok (.invokevirtual 339, 3) := by decide +kernel
theorem dX9_mixedWithTool_81 : decode cX9_mixedWithTool 81 = .ok (.i2l, 1) := by decide +kernel
theorem dX9_mixedWithTool_82 : decode cX9_mixedWithTool 82 = .ok (.invokestatic 296, 3) := by decide +kernel
theorem dX9_mixedWithTool_85 : decode cX9_mixedWithTool 85 = .ok (.lstore 4, 2) := by decide +kernel
theorem dX9_mixedWithTool_87 : decode cX9_mixedWithTool 87 = .ok (.lload 4, 2) := by decide +kernel
theorem dX9_mixedWithTool_89 : decode cX9_mixedWithTool 89 = .ok (.aload_n 0, 1) := by decide +kernel
theorem dX9_mixedWithTool_90 : decode cX9_mixedWithTool 90 = .ok (.bipush 20, 2) := by decide +kernel
theorem dX9_mixedWithTool_92 : decode cX9_mixedWithTool 92 = .ok (.iload_n 3, 1) := by decide +kernel
theorem dX9_mixedWithTool_93 : decode cX9_mixedWithTool 93 = .ok (.iconst 0, 1) := by decide +kernel
theorem dX9_mixedWithTool_94 : decode cX9_mixedWithTool 94 = .ok (.invokevirtual 342, 3) := by decide +kernel
theorem dX9_mixedWithTool_97 : decode cX9_mixedWithTool 97 = .ok (.i2l, 1) := by decide +kernel
theorem dX9_mixedWithTool_98 : decode cX9_mixedWithTool 98 = .ok (.invokestatic 296, 3) := by decide +kernel
theorem dX9_mixedWithTool_101 : decode cX9_mixedWithTool 101 = .ok (.lstore 4, 2) := by decide +kernel
theorem dX9_mixedWithTool_103 : decode cX9_mixedWithTool 103 = .ok (.lload 4, 2) := by decide +kernel
theorem dX9_mixedWithTool_105 : decode cX9_mixedWithTool 105 = .ok (.aload_n 0, 1) := by decide +kernel
theorem dX9_mixedWithTool_106 : decode cX9_mixedWithTool 106 = .ok (.bipush 20, 2) := by decide +kernel
theorem dX9_mixedWithTool_108 : decode cX9_mixedWithTool 108 = .ok (.iload_n 3, 1) := by decide +kernel
theorem dX9_mixedWithTool_109 : decode cX9_mixedWithTool 109 = .ok (.iconst 1, 1) := by decide +kernel
theorem dX9_mixedWithTool_110 : decode cX9_mixedWithTool 110 = .ok (.invokevirtual 342, 3) := by decide +kernel
theorem dX9_mixedWithTool_113 : decode cX9_mixedWithTool 113 = .ok (.i2l, 1) := by decide +kernel
theorem dX9_mixedWithTool_114 : decode cX9_mixedWithTool 114 = .ok (.invokestatic 296, 3) := by decide +kernel
theorem dX9_mixedWithTool_117 : decode cX9_mixedWithTool 117 = .ok (.lstore 4, 2) := by decide +kernel
theorem dX9_mixedWithTool_119 : decode cX9_mixedWithTool 119 = .ok (.lload 4, 2) := by decide +kernel
theorem dX9_mixedWithTool_121 : decode cX9_mixedWithTool 121 = .ok (.aload_n 0, 1) := by decide +kernel
theorem dX9_mixedWithTool_122 : decode cX9_mixedWithTool 122 = .ok (.bipush 6, 2) := by decide +kernel
theorem dX9_mixedWithTool_124 : decode cX9_mixedWithTool 124 = .ok (.iconst 1, 1) := by decide +kernel
theorem dX9_mixedWithTool_125 : decode cX9_mixedWithTool 125 = .ok (.iconst 0, 1) := by decide +kernel
theorem dX9_mixedWithTool_126 : decode cX9_mixedWithTool 126 = .ok (.iload_n 3, 1) := by decide +kernel
theorem dX9_mixedWithTool_127 : decode cX9_mixedWithTool 127 = .ok (.iconst 0, 1) := by decide +kernel
theorem dX9_mixedWithTool_128 : decode cX9_mixedWithTool 128 = .ok (.invokevirtual 345, 3) := by decide +kernel
theorem dX9_mixedWithTool_131 : decode cX9_mixedWithTool 131 = .ok (.invokestatic 296, 3) := by decide +kernel
theorem dX9_mixedWithTool_134 : decode cX9_mixedWithTool 134 = .ok (.lstore 4, 2) := by decide +kernel
theorem dX9_mixedWithTool_136 : decode cX9_mixedWithTool 136 = .ok (.lload 4, 2) := by decide +kernel
theorem dX9_mixedWithTool_138 : decode cX9_mixedWithTool 138 = .ok (.aload_n 0, 1) := by decide +kernel
theorem dX9_mixedWithTool_139 : decode cX9_mixedWithTool 139 = .ok (.bipush 6, 2) := by decide +kernel
theorem dX9_mixedWithTool_141 : decode cX9_mixedWithTool 141 = .ok (.iconst 1, 1) := by decide +kernel
theorem dX9_mixedWithTool_142 : decode cX9_mixedWithTool 142 = .ok (.iconst 0, 1) := by decide +kernel
theorem dX9_mixedWithTool_143 : decode cX9_mixedWithTool 143 = .ok (.iload_n 3, 1) := by decide +kernel
theorem dX9_mixedWithTool_144 : decode cX9_mixedWithTool 144 = .ok (.iconst 1, 1) := by decide +kernel
theorem dX9_mixedWithTool_145 : decode cX9_mixedWithTool 145 = .ok (.invokevirtual 345, 3) := by decide +kernel
theorem dX9_mixedWithTool_148 : decode cX9_mixedWithTool 148 = .ok (.invokestatic 296, 3) := by decide +kernel
theorem dX9_mixedWithTool_151 : decode cX9_mixedWithTool 151 = .ok (.lreturn, 1) := by decide +kernel
theorem dX9_mixed_0 : decode cX9_mixed 0 = .ok (.ldc2_w 349, 3) := by decide +kernel
theorem dX9_mixed_3 : decode cX9_mixed 3 = .ok (.lload_n 0, 1) := by decide +kernel
theorem dX9_mixed_4 : decode cX9_mixed 4 = .ok (.lmul, 1) := by decide +kernel
theorem dX9_mixed_5 : decode cX9_mixed 5 = .ok (.lload_n 2, 1) := by decide +kernel
theorem dX9_mixed_6 : decode cX9_mixed 6 = .ok (.ladd, 1) := by decide +kernel
theorem dX9_mixed_7 : decode cX9_mixed 7 = .ok (.lreturn, 1) := by decide +kernel
theorem dX9_within_0 : decode cX9_within 0 = .ok (.iload_n 0, 1) := by decide +kernel
theorem dX9_within_1 : decode cX9_within 1 = .ok (.iload_n 1, 1) := by decide +kernel
theorem dX9_within_2 : decode cX9_within 2 = .ok (.if_icmp .lt 12, 3) := by decide +kernel
theorem dX9_within_5 : decode cX9_within 5 = .ok (.iload_n 0, 1) := by decide +kernel
theorem dX9_within_6 : decode cX9_within 6 = .ok (.iload_n 2, 1) := by decide +kernel
theorem dX9_within_7 : decode cX9_within 7 = .ok (.if_icmp .gt 7, 3) := by decide +kernel
theorem dX9_within_10 : decode cX9_within 10 = .ok (.iconst 1, 1) := by decide +kernel
theorem dX9_within_11 : decode cX9_within 11 = .ok (.goto 4, 3) := by decide +kernel
theorem dX9_within_14 : decode cX9_within 14 = .ok (.iconst 0, 1) := by decide +kernel
theorem dX9_within_15 : decode cX9_within 15 = .ok (.ireturn, 1) := by decide +kernel
theorem dX9_isText_0 : decode cX9_isText 0 = .ok (.iload_n 0, 1) := by decide +kernel
theorem dX9_isText_1 : decode cX9_isText 1 = .ok (.iconst 0, 1) := by decide +kernel
theorem dX9_isText_2 : decode cX9_isText 2 = .ok (.iconst 1, 1) := by decide +kernel
theorem dX9_isText_3 : decode cX9_isText 3 = .ok (.invokestatic 77, 3) := by decide +kernel
theorem dX9_isText_6 : decode cX9_isText 6 = .ok (.ireturn, 1) := by decide +kernel
theorem dX9_isTool_0 : decode cX9_isTool 0 = .ok (.iload_n 0, 1) := by decide +kernel
theorem dX9_isTool_1 : decode cX9_isTool 1 = .ok (.iconst 0, 1) := by decide +kernel
theorem dX9_isTool_2 : decode cX9_isTool 2 = .ok (.iconst 3, 1) := by decide +kernel
theorem dX9_isTool_3 : decode cX9_isTool 3 = .ok (.invokestatic 77, 3) := by decide +kernel
theorem dX9_isTool_6 : decode cX9_isTool 6 = .ok (.ireturn, 1) := by decide +kernel
theorem dX9_isCell_0 : decode cX9_isCell 0 = .ok (.iload_n 0, 1) := by decide +kernel
theorem dX9_isCell_1 : decode cX9_isCell 1 = .ok (.iconst 0, 1) := by decide +kernel
theorem dX9_isCell_2 : decode cX9_isCell 2 = .ok (.bipush 31, 2) := by decide +kernel
theorem dX9_isCell_4 : decode cX9_isCell 4 = .ok (.invokestatic 77, 3) := by decide +kernel
theorem dX9_isCell_7 : decode cX9_isCell 7 = .ok (.ireturn, 1) := by decide +kernel
theorem dX9_isKind_0 : decode cX9_isKind 0 = .ok (.iload_n 0, 1) := by decide +kernel
theorem dX9_isKind_1 : decode cX9_isKind 1 = .ok (.iconst 0, 1) := by decide +kernel
theorem dX9_isKind_2 : decode cX9_isKind 2 = .ok (.iconst 4, 1) := by decide +kernel
theorem dX9_isKind_3 : decode cX9_isKind 3 = .ok (.invokestatic 77, 3) := by decide +kernel
theorem dX9_isKind_6 : decode cX9_isKind 6 = .ok (.ireturn, 1) := by decide +kernel
theorem dX9_isSheet_0 : decode cX9_isSheet 0 = .ok (.iload_n 0, 1) := by decide +kernel
theorem dX9_isSheet_1 : decode cX9_isSheet 1 = .ok (.iconst 0, 1) := by decide +kernel
theorem dX9_isSheet_2 : decode cX9_isSheet 2 = .ok (.iconst 3, 1) := by decide +kernel
theorem dX9_isSheet_3 : decode cX9_isSheet 3 = .ok (.invokestatic 77, 3) := by decide +kernel
theorem dX9_isSheet_6 : decode cX9_isSheet 6 = .ok (.ireturn, 1) := by decide +kernel
theorem dX9_isForm_0 : decode cX9_isForm 0 = .ok (.iload_n 0, 1) := by decide +kernel
theorem dX9_isForm_1 : decode cX9_isForm 1 = .ok (.iconst 0, 1) := by decide +kernel
theorem dX9_isForm_2 : decode cX9_isForm 2 = .ok (.iconst 2, 1) := by decide +kernel
theorem dX9_isForm_3 : decode cX9_isForm 3 = .ok (.invokestatic 77, 3) := by decide +kernel
theorem dX9_isForm_6 : decode cX9_isForm 6 = .ok (.ireturn, 1) := by decide +kernel
theorem dX9_isPair_0 : decode cX9_isPair 0 = .ok (.iload_n 0, 1) := by decide +kernel
theorem dX9_isPair_1 : decode cX9_isPair 1 = .ok (.iconst 0, 1) := by decide +kernel
theorem dX9_isPair_2 : decode cX9_isPair 2 = .ok (.iconst 1, 1) := by decide +kernel
theorem dX9_isPair_3 : decode cX9_isPair 3 = .ok (.invokestatic 77, 3) := by decide +kernel
theorem dX9_isPair_6 : decode cX9_isPair 6 = .ok (.ireturn, 1) := by decide +kernel
theorem dX9_isStretch_0 : decode cX9_isStretch 0 = .ok (.iload_n 1, 1) := by decide +kernel
theorem dX9_isStretch_1 : decode cX9_isStretch 1 = .ok (.iconst 0, 1) := by decide +kernel
theorem dX9_isStretch_2 : decode cX9_isStretch 2 = .ok (.aload_n 0, 1) := by decide +kernel
theorem dX9_isStretch_3 : decode cX9_isStretch 3 = .ok (.getfield 19, 3) := by decide +kernel
theorem dX9_isStretch_6 : decode cX9_isStretch 6 = .ok (.getfield 282, 3) := by decide +kernel
theorem dX9_isStretch_9 : decode cX9_isStretch 9 = .ok (.iconst 1, 1) := by decide +kernel
theorem dX9_isStretch_10 : decode cX9_isStretch 10 = .ok (.isub, 1) := by decide +kernel
theorem dX9_isStretch_11 : decode cX9_isStretch 11 = .ok (.invokestatic 77, 3) := by decide +kernel
theorem dX9_isStretch_14 : decode cX9_isStretch 14 = .ok (.ireturn, 1) := by decide +kernel
theorem dX9_scriptOf_0 : decode cX9_scriptOf 0 = .ok (.iload_n 1, 1) := by decide +kernel
theorem dX9_scriptOf_1 : decode cX9_scriptOf 1 = .ok (.ifCond .ne 13, 3) := by decide +kernel
theorem dX9_scriptOf_4 : decode cX9_scriptOf 4 = .ok (.aload_n 0, 1) := by decide +kernel
theorem dX9_scriptOf_5 : decode cX9_scriptOf 5 = .ok (.getfield 12, 3) := by decide +kernel
theorem dX9_scriptOf_8 : decode cX9_scriptOf 8 = .ok (.getfield 285, 3) := by decide +kernel
theorem dX9_scriptOf_11 : decode cX9_scriptOf 11 = .ok (.goto 10, 3) := by decide +kernel
theorem dX9_scriptOf_14 : decode cX9_scriptOf 14 = .ok (.aload_n 0, 1) := by decide +kernel
theorem dX9_scriptOf_15 : decode cX9_scriptOf 15 = .ok (.getfield 19, 3) := by decide +kernel
theorem dX9_scriptOf_18 : decode cX9_scriptOf 18 = .ok (.getfield 289, 3) := by decide +kernel
theorem dX9_scriptOf_21 : decode cX9_scriptOf 21 = .ok (.areturn, 1) := by decide +kernel
theorem dX9_reread_0 : decode cX9_reread 0 = .ok (.iload_n 1, 1) := by decide +kernel
theorem dX9_reread_1 : decode cX9_reread 1 = .ok (.ifCond .ne 13, 3) := by decide +kernel
theorem dX9_reread_4 : decode cX9_reread 4 = .ok (.aload_n 0, 1) := by decide +kernel
theorem dX9_reread_5 : decode cX9_reread 5 = .ok (.getfield 12, 3) := by decide +kernel
theorem dX9_reread_8 : decode cX9_reread 8 = .ok (.invokevirtual 351, 3) := by decide +kernel
theorem dX9_reread_11 : decode cX9_reread 11 = .ok (.goto 10, 3) := by decide +kernel
theorem dX9_reread_14 : decode cX9_reread 14 = .ok (.aload_n 0, 1) := by decide +kernel
theorem dX9_reread_15 : decode cX9_reread 15 = .ok (.getfield 19, 3) := by decide +kernel
theorem dX9_reread_18 : decode cX9_reread 18 = .ok (.invokevirtual 353, 3) := by decide +kernel
theorem dX9_reread_21 : decode cX9_reread 21 = .ok (.aload_n 0, 1) := by decide +kernel
theorem dX9_reread_22 : decode cX9_reread 22 = .ok (.iconst 1, 1) := by decide +kernel
theorem dX9_reread_23 : decode cX9_reread 23 = .ok (.putfield 64, 3) := by decide +kernel
theorem dX9_reread_26 : decode cX9_reread 26 = .ok (.return_, 1) := by decide +kernel
theorem dX9_settled_0 : decode cX9_settled 0 = .ok (.aload_n 0, 1) := by decide +kernel
theorem dX9_settled_1 : decode cX9_settled 1 = .ok (.getfield 64, 3) := by decide +kernel
theorem dX9_settled_4 : decode cX9_settled 4 = .ok (.ifCond .eq 49, 3) := by decide +kernel
theorem dX9_settled_7 : decode cX9_settled 7 = .ok (.aload_n 0, 1) := by decide +kernel
theorem dX9_settled_8 : decode cX9_settled 8 = .ok (.getfield 47, 3) := by decide +kernel
theorem dX9_settled_11 : decode cX9_settled 11 = .ok (.aload_n 0, 1) := by decide +kernel
theorem dX9_settled_12 : decode cX9_settled 12 = .ok (.getfield 12, 3) := by decide +kernel
theorem dX9_settled_15 : decode cX9_settled 15 = .ok (.aload_n 0, 1) := by decide +kernel
theorem dX9_settled_16 : decode cX9_settled 16 = .ok (.getfield 26, 3) := by decide +kernel
theorem dX9_settled_19 : decode cX9_settled 19 = .ok (.aload_n 0, 1) := by decide +kernel
theorem dX9_settled_20 : decode cX9_settled 20 = .ok (.getfield 40, 3) := by decide +kernel
theorem dX9_settled_23 : decode cX9_settled 23 = .ok (.invokevirtual 354, 3) := by decide +kernel
theorem dX9_settled_26 : decode cX9_settled 26 = .ok (.aload_n 0, 1) := by decide +kernel
theorem dX9_settled_27 : decode cX9_settled 27 = .ok (.getfield 47, 3) := by decide +kernel
theorem dX9_settled_30 : decode cX9_settled 30 = .ok (.aload_n 0, 1) := by decide +kernel
theorem dX9_settled_31 : decode cX9_settled 31 = .ok (.getfield 19, 3) := by decide +kernel
theorem dX9_settled_34 : decode cX9_settled 34 = .ok (.aload_n 0, 1) := by decide +kernel
theorem dX9_settled_35 : decode cX9_settled 35 = .ok (.getfield 33, 3) := by decide +kernel
theorem dX9_settled_38 : decode cX9_settled 38 = .ok (.invokevirtual 358, 3) := by decide +kernel
theorem dX9_settled_41 : decode cX9_settled 41 = .ok (.aload_n 0, 1) := by decide +kernel
theorem dX9_settled_42 : decode cX9_settled 42 = .ok (.getfield 47, 3) := by decide +kernel
theorem dX9_settled_45 : decode cX9_settled 45 = .ok (.invokevirtual 362, 3) := by decide +kernel
theorem dX9_settled_48 : decode cX9_settled 48 = .ok (.aload_n 0, 1) := by decide +kernel
theorem dX9_settled_49 : decode cX9_settled 49 = .ok (.iconst 0, 1) := by decide +kernel
theorem dX9_settled_50 : decode cX9_settled 50 = .ok (.putfield 64, 3) := by decide +kernel
theorem dX9_settled_53 : decode cX9_settled 53 = .ok (.aload_n 0, 1) := by decide +kernel
theorem dX9_settled_54 : decode cX9_settled 54 = .ok (.getfield 47, 3) := by decide +kernel
theorem dX9_settled_57 : decode cX9_settled 57 = .ok (.areturn, 1) := by decide +kernel
theorem dX9_found_0 : decode cX9_found 0 = .ok (.aload_n 0, 1) := by decide +kernel
theorem dX9_found_1 : decode cX9_found 1 = .ok (.iload_n 1, 1) := by decide +kernel
theorem dX9_found_2 : decode cX9_found 2 = .ok (.putfield 68, 3) := by decide +kernel
theorem dX9_found_5 : decode cX9_found 5 = .ok (.bipush (-10), 2) := by decide +kernel
theorem dX9_found_7 : decode cX9_found 7 = .ok (.iload_n 1, 1) := by decide +kernel
theorem dX9_found_8 : decode cX9_found 8 = .ok (.isub, 1) := by decide +kernel
theorem dX9_found_9 : decode cX9_found 9 = .ok (.ireturn, 1) := by decide +kernel
theorem dX9_cracks_0 : decode cX9_cracks 0 = .ok (.iload_n 0, 1) := by decide +kernel
theorem dX9_cracks_1 : decode cX9_cracks 1 = .ok (.iload_n 1, 1) := by decide +kernel
theorem dX9_cracks_2 : decode cX9_cracks 2 = .ok (.iadd, 1) := by decide +kernel
theorem dX9_cracks_3 : decode cX9_cracks 3 = .ok (.bipush 40, 2) := by decide +kernel
theorem dX9_cracks_5 : decode cX9_cracks 5 = .ok (.if_icmp .le 7, 3) := by decide +kernel
theorem dX9_cracks_8 : decode cX9_cracks 8 = .ok (.iconst 1, 1) := by decide +kernel
theorem dX9_cracks_9 : decode cX9_cracks 9 = .ok (.goto 4, 3) := by decide +kernel
theorem dX9_cracks_12 : decode cX9_cracks 12 = .ok (.iconst 0, 1) := by decide +kernel
theorem dX9_cracks_13 : decode cX9_cracks 13 = .ok (.ireturn, 1) := by decide +kernel
theorem dX9_frostOf_0 : decode cX9_frostOf 0 = .ok (.iconst 0, 1) := by decide +kernel
theorem dX9_frostOf_1 : decode cX9_frostOf 1 = .ok (.bipush 6, 2) := by decide +kernel
theorem dX9_frostOf_3 : decode cX9_frostOf 3 = .ok (.iconst 4, 1) := by decide +kernel
theorem dX9_frostOf_4 : decode cX9_frostOf 4 = .ok (.iload_n 0, 1) := by decide +kernel
theorem dX9_frostOf_5 : decode cX9_frostOf 5 = .ok (.imul, 1) := by decide +kernel
theorem dX9_frostOf_6 : decode cX9_frostOf 6 = .ok (.isub, 1) := by decide +kernel
theorem dX9_frostOf_7 : decode cX9_frostOf 7 = .ok (.iload_n 1, 1) := by decide +kernel
theorem dX9_frostOf_8 : decode cX9_frostOf 8 = .ok (.isub, 1) := by decide +kernel
theorem dX9_frostOf_9 : decode cX9_frostOf 9 = .ok (.invokestatic 226, 3) := by decide +kernel
theorem dX9_frostOf_12 : decode cX9_frostOf 12 = .ok (.istore_n 3, 1) := by decide +kernel
theorem dX9_frostOf_13 : decode cX9_frostOf 13 = .ok (.iload_n 2, 1) := by decide +kernel
theorem dX9_frostOf_14 : decode cX9_frostOf 14 = .ok (.iconst 1, 1) := by decide +kernel
theorem dX9_frostOf_15 : decode cX9_frostOf 15 = .ok (.if_icmp .ne 11, 3) := by decide +kernel
theorem dX9_frostOf_18 : decode cX9_frostOf 18 = .ok (.iload_n 3, 1) := by decide +kernel
theorem dX9_frostOf_19 : decode cX9_frostOf 19 = .ok (.iload_n 3, 1) := by decide +kernel
theorem dX9_frostOf_20 : decode cX9_frostOf 20 = .ok (.iconst 2, 1) := by decide +kernel
theorem dX9_frostOf_21 : decode cX9_frostOf 21 = .ok (.idiv, 1) := by decide +kernel
theorem dX9_frostOf_22 : decode cX9_frostOf 22 = .ok (.isub, 1) := by decide +kernel
theorem dX9_frostOf_23 : decode cX9_frostOf 23 = .ok (.goto 4, 3) := by decide +kernel
theorem dX9_frostOf_26 : decode cX9_frostOf 26 = .ok (.iload_n 3, 1) := by decide +kernel
theorem dX9_frostOf_27 : decode cX9_frostOf 27 = .ok (.ireturn, 1) := by decide +kernel
theorem dX9_sixteenthsTonight_0 : decode cX9_sixteenthsTonight 0 = .ok (.iload_n 1, 1) := by decide +kernel
theorem dX9_sixteenthsTonight_1 : decode cX9_sixteenthsTonight 1 = .ok (.iconst 0, 1) := by decide +kernel
theorem dX9_sixteenthsTonight_2 : decode cX9_sixteenthsTonight 2 = .ok (.iload_n 2, 1) := by decide +kernel
theorem dX9_sixteenthsTonight_3 : decode cX9_sixteenthsTonight 3 = .ok (.iload_n 3, 1) := by decide +kernel
theorem dX9_sixteenthsTonight_4 : decode cX9_sixteenthsTonight 4 = .ok (.invokestatic 229, 3) := by decide +kernel
theorem dX9_sixteenthsTonight_7 : decode cX9_sixteenthsTonight 7 = .ok (.imul, 1) := by decide +kernel
theorem dX9_sixteenthsTonight_8 : decode cX9_sixteenthsTonight 8 = .ok (.bipush 16, 2) := by decide +kernel
theorem dX9_sixteenthsTonight_10 : decode cX9_sixteenthsTonight 10 = .ok (.iload_n 1, 1) := by decide +kernel
theorem dX9_sixteenthsTonight_11 : decode cX9_sixteenthsTonight 11 = .ok (.isub, 1) := by decide +kernel
theorem dX9_sixteenthsTonight_12 : decode cX9_sixteenthsTonight 12 = .ok (.iconst 1, 1) := by decide +kernel
theorem dX9_sixteenthsTonight_13 : decode cX9_sixteenthsTonight 13 = .ok (.iload_n 2, 1) := by decide +kernel
theorem dX9_sixteenthsTonight_14 : decode cX9_sixteenthsTonight 14 = .ok (.iload_n 3, 1) := by decide +kernel
theorem dX9_sixteenthsTonight_15 : decode cX9_sixteenthsTonight 15 = .ok (.invokestatic 229, 3) := by decide +kernel
theorem dX9_sixteenthsTonight_18 : decode cX9_sixteenthsTonight 18 = .ok (.imul, 1) := by decide +kernel
theorem dX9_sixteenthsTonight_19 : decode cX9_sixteenthsTonight 19 = .ok (.iadd, 1) := by decide +kernel
theorem dX9_sixteenthsTonight_20 : decode cX9_sixteenthsTonight 20 = .ok (.istore 5, 2) := by decide +kernel
theorem dX9_sixteenthsTonight_22 : decode cX9_sixteenthsTonight 22 = .ok (.aload_n 0, 1) := by decide +kernel
theorem dX9_sixteenthsTonight_23 : decode cX9_sixteenthsTonight 23 = .ok (.getfield 12, 3) := by decide +kernel
theorem dX9_sixteenthsTonight_26 : decode cX9_sixteenthsTonight 26 = .ok (.getfield 279, 3) := by decide +kernel
theorem dX9_sixteenthsTonight_29 : decode cX9_sixteenthsTonight 29 = .ok (.aload_n 0, 1) := by decide +kernel
theorem dX9_sixteenthsTonight_30 : decode cX9_sixteenthsTonight 30 = .ok (.getfield 26, 3) := by decide +kernel
theorem dX9_sixteenthsTonight_33 : decode cX9_sixteenthsTonight 33 = .ok (.getfield 111, 3) := by decide +kernel
theorem dX9_sixteenthsTonight_36 : decode cX9_sixteenthsTonight 36 = .ok (.iload 4, 2) := by decide +kernel
theorem dX9_sixteenthsTonight_38 : decode cX9_sixteenthsTonight 38 = .ok (.iaload, 1) := by decide +kernel
theorem dX9_sixteenthsTonight_39 : decode cX9_sixteenthsTonight 39 = .ok (.imul, 1) := by decide +kernel
theorem dX9_sixteenthsTonight_40 : decode cX9_sixteenthsTonight 40 = .ok (.iload 5, 2) := by decide +kernel
theorem dX9_sixteenthsTonight_42 : decode cX9_sixteenthsTonight 42 = .ok (.imul, 1) := by decide +kernel
theorem dX9_sixteenthsTonight_43 : decode cX9_sixteenthsTonight 43 = .ok (.ireturn, 1) := by decide +kernel
theorem dJ9_max_7cf53_0 : decode cJ9_max_7cf53 0 = .ok (.iload_n 0, 1) := by decide +kernel
theorem dJ9_max_7cf53_1 : decode cJ9_max_7cf53 1 = .ok (.iload_n 1, 1) := by decide +kernel
theorem dJ9_max_7cf53_2 : decode cJ9_max_7cf53 2 = .ok (.if_icmp .lt 7, 3) := by decide +kernel
theorem dJ9_max_7cf53_5 : decode cJ9_max_7cf53 5 = .ok (.iload_n 0, 1) := by decide +kernel
theorem dJ9_max_7cf53_6 : decode cJ9_max_7cf53 6 = .ok (.goto 4, 3) := by decide +kernel
theorem dJ9_max_7cf53_9 : decode cJ9_max_7cf53 9 = .ok (.iload_n 1, 1) := by decide +kernel
theorem dJ9_max_7cf53_10 : decode cJ9_max_7cf53 10 = .ok (.ireturn, 1) := by decide +kernel
theorem dJ9_min_7cf53_0 : decode cJ9_min_7cf53 0 = .ok (.iload_n 0, 1) := by decide +kernel
theorem dJ9_min_7cf53_1 : decode cJ9_min_7cf53 1 = .ok (.iload_n 1, 1) := by decide +kernel
theorem dJ9_min_7cf53_2 : decode cJ9_min_7cf53 2 = .ok (.if_icmp .gt 7, 3) := by decide +kernel
theorem dJ9_min_7cf53_5 : decode cJ9_min_7cf53 5 = .ok (.iload_n 0, 1) := by decide +kernel
theorem dJ9_min_7cf53_6 : decode cJ9_min_7cf53 6 = .ok (.goto 4, 3) := by decide +kernel
theorem dJ9_min_7cf53_9 : decode cJ9_min_7cf53 9 = .ok (.iload_n 1, 1) := by decide +kernel
theorem dJ9_min_7cf53_10 : decode cJ9_min_7cf53 10 = .ok (.ireturn, 1) := by decide +kernel
theorem dJ7_fill_53178_0 : decode cJ7_fill_53178 0 = .ok (.iconst 0, 1) := by decide +kernel
theorem dJ7_fill_53178_1 : decode cJ7_fill_53178 1 = .ok (.istore_n 2, 1) := by decide +kernel
theorem dJ7_fill_53178_2 : decode cJ7_fill_53178 2 = .ok (.aload_n 0, 1) := by decide +kernel
theorem dJ7_fill_53178_3 : decode cJ7_fill_53178 3 = .ok (.arraylength, 1) := by decide +kernel
theorem dJ7_fill_53178_4 : decode cJ7_fill_53178 4 = .ok (.istore_n 3, 1) := by decide +kernel
theorem dJ7_fill_53178_5 : decode cJ7_fill_53178 5 = .ok (.iload_n 2, 1) := by decide +kernel
theorem dJ7_fill_53178_6 : decode cJ7_fill_53178 6 = .ok (.iload_n 3, 1) := by decide +kernel
theorem dJ7_fill_53178_7 : decode cJ7_fill_53178 7 = .ok (.if_icmp .ge 13, 3) := by decide +kernel
theorem dJ7_fill_53178_10 : decode cJ7_fill_53178 10 = .ok (.aload_n 0, 1) := by decide +kernel
theorem dJ7_fill_53178_11 : decode cJ7_fill_53178 11 = .ok (.iload_n 2, 1) := by decide +kernel
theorem dJ7_fill_53178_12 : decode cJ7_fill_53178 12 = .ok (.iload_n 1, 1) := by decide +kernel
theorem dJ7_fill_53178_13 : decode cJ7_fill_53178 13 = .ok (.iastore, 1) := by decide +kernel
theorem dJ7_fill_53178_14 : decode cJ7_fill_53178 14 = .ok (.iinc 2 1, 3) := by decide +kernel
theorem dJ7_fill_53178_17 : decode cJ7_fill_53178 17 = .ok (.goto (-12), 3) := by decide +kernel
theorem dJ7_fill_53178_20 : decode cJ7_fill_53178 20 = .ok (.return_, 1) := by decide +kernel
