theorem dX10_house_64 : decode cX10_house 64 = .ok (.getfield 19, 3) := by decide +kernel
theorem dX10_house_67 : decode cX10_house 67 = .ok (.getfield 117, 3) := by decide +kernel
theorem dX10_house_70 : decode cX10_house 70 = .ok (.iload_n 1, 1) := by decide +kernel
theorem dX10_house_71 : decode cX10_house 71 = .ok (.iaload, 1) := by decide +kernel
theorem dX10_house_72 : decode cX10_house 72 = .ok (.invokevirtual 105, 3) := by decide +kernel
theorem dX10_house_75 : decode cX10_house 75 = .ok (.ireturn, 1) := by decide +kernel
theorem dX10_house_76 : decode cX10_house 76 = .ok (.aload_n 0, 1) := by decide +kernel
theorem dX10_house_77 : decode cX10_house 77 = .ok (.aload_n 0, 1) := by decide +kernel
theorem dX10_house_78 : decode cX10_house 78 = .ok (.getfield 19, 3) := by decide +kernel
theorem dX10_house_81 : decode cX10_house 81 = .ok (.getfield 120, 3) := by decide +kernel
theorem dX10_house_84 : decode cX10_house 84 = .ok (.iload_n 1, 1) := by decide +kernel
theorem dX10_house_85 : decode cX10_house 85 = .ok (.iaload, 1) := by decide +kernel
theorem dX10_house_86 : decode cX10_house 86 = .ok (.invokevirtual 105, 3) := by decide +kernel
theorem dX10_house_89 : decode cX10_house 89 = .ok (.ireturn, 1) := by decide +kernel
theorem dX10_house_90 : decode cX10_house 90 = .ok (.aload_n 0, 1) := by decide +kernel
theorem dX10_house_91 : decode cX10_house 91 = .ok (.aload_n 0, 1) := by decide +kernel
theorem dX10_house_92 : decode cX10_house 92 = .ok (.getfield 19, 3) := by decide +kernel
theorem dX10_house_95 : decode cX10_house 95 = .ok (.aload_n 0, 1) := by decide +kernel
theorem dX10_house_96 : decode cX10_house 96 = .ok (.getfield 54, 3) := by decide +kernel
theorem dX10_house_99 : decode cX10_house 99 = .ok (.iload_n 1, 1) := by decide +kernel
theorem dX10_house_100 : decode cX10_house 100 = .ok (.aload_n 0, 1) := by decide +kernel
theorem dX10_house_101 : decode cX10_house 101 = .ok (.getfield 19, 3) := by decide +kernel
theorem dX10_house_104 : decode cX10_house 104 = .ok (.getfield 123, 3) := by decide +kernel
theorem dX10_house_107 : decode cX10_house 107 = .ok (.invokevirtual 126, 3) := by decide +kernel
theorem dX10_house_110 : decode cX10_house 110 = .ok (.invokevirtual 105, 3) := by decide +kernel
theorem dX10_house_113 : decode cX10_house 113 = .ok (.ireturn, 1) := by decide +kernel
theorem dX10_house_114 : decode cX10_house 114 = .ok (.aload_n 0, 1) := by decide +kernel
theorem dX10_house_115 : decode cX10_house 115 = .ok (.aload_n 0, 1) := by decide +kernel
theorem dX10_house_116 : decode cX10_house 116 = .ok (.getfield 19, 3) := by decide +kernel
theorem dX10_house_119 : decode cX10_house 119 = .ok (.aload_n 0, 1) := by decide +kernel
theorem dX10_house_120 : decode cX10_house 120 = .ok (.getfield 54, 3) := by decide +kernel
theorem dX10_house_123 : decode cX10_house 123 = .ok (.iload_n 1, 1) := by decide +kernel
theorem dX10_house_124 : decode cX10_house 124 = .ok (.invokevirtual 130, 3) := by decide +kernel
theorem dX10_house_127 : decode cX10_house 127 = .ok (.invokevirtual 105, 3) := by decide +kernel
theorem dX10_house_130 : decode cX10_house 130 = .ok (.ireturn, 1) := by decide +kernel
theorem dX10_house_131 : decode cX10_house 131 = .ok (.aload_n 0, 1) := by decide +kernel
theorem dX10_house_132 : decode cX10_house 132 = .ok (.iconst 1, 1) := by decide +kernel
theorem dX10_house_133 : decode cX10_house 133 = .ok (.invokevirtual 72, 3) := by decide +kernel
theorem dX10_house_136 : decode cX10_house 136 = .ok (.ireturn, 1) := by decide +kernel
theorem dX10_bird_0 : decode cX10_bird 0 = .ok (.aload_n 0, 1) := by decide +kernel
theorem dX10_bird_1 : decode cX10_bird 1 = .ok (.iload_n 1, 1) := by decide +kernel
theorem dX10_bird_2 : decode cX10_bird 2 = .ok (.invokevirtual 134, 3) := by decide +kernel
theorem dX10_bird_5 : decode cX10_bird 5 = .ok (.ifCond .ne 9, 3) := by decide +kernel
theorem dX10_bird_8 : decode cX10_bird 8 = .ok (.aload_n 0, 1) := by decide +kernel
theorem dX10_bird_9 : decode cX10_bird 9 = .ok (.iconst 1, 1) := by decide +kernel
theorem dX10_bird_10 : decode cX10_bird 10 = .ok (.invokevirtual 72, 3) := by decide +kernel
theorem dX10_bird_13 : decode cX10_bird 13 = .ok (.ireturn, 1) := by decide +kernel
theorem dX10_bird_14 : decode cX10_bird 14 = .ok (.iload_n 2, 1) := by decide +kernel
theorem dX10_bird_15 : decode cX10_bird 15 = .ok (.tableswitch 170 0 7 #[45, 59, 73, 87, 101, 115, 129, 146], 45) := by decide +kernel
theorem dX10_bird_60 : decode cX10_bird 60 = .ok (.aload_n 0, 1) := by decide +kernel
theorem dX10_bird_61 : decode cX10_bird 61 = .ok (.aload_n 0, 1) := by decide +kernel
theorem dX10_bird_62 : decode cX10_bird 62 = .ok (.getfield 54, 3) := by decide +kernel
theorem dX10_bird_65 : decode cX10_bird 65 = .ok (.getfield 137, 3) := by decide +kernel
theorem dX10_bird_68 : decode cX10_bird 68 = .ok (.iload_n 1, 1) := by decide +kernel
theorem dX10_bird_69 : decode cX10_bird 69 = .ok (.iaload, 1) := by decide +kernel
theorem dX10_bird_70 : decode cX10_bird 70 = .ok (.invokevirtual 105, 3) := by decide +kernel
theorem dX10_bird_73 : decode cX10_bird 73 = .ok (.ireturn, 1) := by decide +kernel
theorem dX10_bird_74 : decode cX10_bird 74 = .ok (.aload_n 0, 1) := by decide +kernel
theorem dX10_bird_75 : decode cX10_bird 75 = .ok (.aload_n 0, 1) := by decide +kernel
theorem dX10_bird_76 : decode cX10_bird 76 = .ok (.getfield 54, 3) := by decide +kernel
theorem dX10_bird_79 : decode cX10_bird 79 = .ok (.getfield 140, 3) := by decide +kernel
theorem dX10_bird_82 : decode cX10_bird 82 = .ok (.iload_n 1, 1) := by decide +kernel
theorem dX10_bird_83 : decode cX10_bird 83 = .ok (.iaload, 1) := by decide +kernel
theorem dX10_bird_84 : decode cX10_bird 84 = .ok (.invokevirtual 105, 3) := by decide +kernel
theorem dX10_bird_87 : decode cX10_bird 87 = .ok (.ireturn, 1) := by decide +kernel
theorem dX10_bird_88 : decode cX10_bird 88 = .ok (.aload_n 0, 1) := by decide +kernel
theorem dX10_bird_89 : decode cX10_bird 89 = .ok (.aload_n 0, 1) := by decide +kernel
theorem dX10_bird_90 : decode cX10_bird 90 = .ok (.getfield 54, 3) := by decide +kernel
theorem dX10_bird_93 : decode cX10_bird 93 = .ok (.getfield 143, 3) := by decide +kernel
theorem dX10_bird_96 : decode cX10_bird 96 = .ok (.iload_n 1, 1) := by decide +kernel
theorem dX10_bird_97 : decode cX10_bird 97 = .ok (.iaload, 1) := by decide +kernel
theorem dX10_bird_98 : decode cX10_bird 98 = .ok (.invokevirtual 105, 3) := by decide +kernel
theorem dX10_bird_101 : decode cX10_bird 101 = .ok (.ireturn, 1) := by decide +kernel
theorem dX10_bird_102 : decode cX10_bird 102 = .ok (.aload_n 0, 1) := by decide +kernel
theorem dX10_bird_103 : decode cX10_bird 103 = .ok (.aload_n 0, 1) := by decide +kernel
theorem dX10_bird_104 : decode cX10_bird 104 = .ok (.getfield 54, 3) := by decide +kernel
theorem dX10_bird_107 : decode cX10_bird 107 = .ok (.getfield 146, 3) := by decide +kernel
theorem dX10_bird_110 : decode cX10_bird 110 = .ok (.iload_n 1, 1) := by decide +kernel
theorem dX10_bird_111 : decode cX10_bird 111 = .ok (.iaload, 1) := by decide +kernel
theorem dX10_bird_112 : decode cX10_bird 112 = .ok (.invokevirtual 105, 3) := by decide +kernel
theorem dX10_bird_115 : decode cX10_bird 115 = .ok (.ireturn, 1) := by decide +kernel
theorem dX10_bird_116 : decode cX10_bird 116 = .ok (.aload_n 0, 1) := by decide +kernel
theorem dX10_bird_117 : decode cX10_bird 117 = .ok (.aload_n 0, 1) := by decide +kernel
theorem dX10_bird_118 : decode cX10_bird 118 = .ok (.getfield 54, 3) := by decide +kernel
theorem dX10_bird_121 : decode cX10_bird 121 = .ok (.getfield 149, 3) := by decide +kernel
theorem dX10_bird_124 : decode cX10_bird 124 = .ok (.iload_n 1, 1) := by decide +kernel
theorem dX10_bird_125 : decode cX10_bird 125 = .ok (.iaload, 1) := by decide +kernel
theorem dX10_bird_126 : decode cX10_bird 126 = .ok (.invokevirtual 105, 3) := by decide +kernel
theorem dX10_bird_129 : decode cX10_bird 129 = .ok (.ireturn, 1) := by decide +kernel
theorem dX10_bird_130 : decode cX10_bird 130 = .ok (.aload_n 0, 1) := by decide +kernel
theorem dX10_bird_131 : decode cX10_bird 131 = .ok (.aload_n 0, 1) := by decide +kernel
theorem dX10_bird_132 : decode cX10_bird 132 = .ok (.getfield 54, 3) := by decide +kernel
theorem dX10_bird_135 : decode cX10_bird 135 = .ok (.getfield 152, 3) := by decide +kernel
theorem dX10_bird_138 : decode cX10_bird 138 = .ok (.iload_n 1, 1) := by decide +kernel
theorem dX10_bird_139 : decode cX10_bird 139 = .ok (.iaload, 1) := by decide +kernel
theorem dX10_bird_140 : decode cX10_bird 140 = .ok (.invokevirtual 105, 3) := by decide +kernel
theorem dX10_bird_143 : decode cX10_bird 143 = .ok (.ireturn, 1) := by decide +kernel
theorem dX10_bird_144 : decode cX10_bird 144 = .ok (.aload_n 0, 1) := by decide +kernel
theorem dX10_bird_145 : decode cX10_bird 145 = .ok (.aload_n 0, 1) := by decide +kernel
theorem dX10_bird_146 : decode cX10_bird 146 = .ok (.getfield 19, 3) := by decide +kernel
theorem dX10_bird_149 : decode cX10_bird 149 = .ok (.aload_n 0, 1) := by decide +kernel
theorem dX10_bird_150 : decode cX10_bird 150 = .ok (.getfield 54, 3) := by decide +kernel
theorem dX10_bird_153 : decode cX10_bird 153 = .ok (.iload_n 1, 1) := by decide +kernel
theorem dX10_bird_154 : decode cX10_bird 154 = .ok (.invokevirtual 155, 3) := by decide +kernel
theorem dX10_bird_157 : decode cX10_bird 157 = .ok (.invokevirtual 105, 3) := by decide +kernel
theorem dX10_bird_160 : decode cX10_bird 160 = .ok (.ireturn, 1) := by decide +kernel
theorem dX10_bird_161 : decode cX10_bird 161 = .ok (.aload_n 0, 1) := by decide +kernel
theorem dX10_bird_162 : decode cX10_bird 162 = .ok (.aload_n 0, 1) := by decide +kernel
theorem dX10_bird_163 : decode cX10_bird 163 = .ok (.getfield 19, 3) := by decide +kernel
theorem dX10_bird_166 : decode cX10_bird 166 = .ok (.aload_n 0, 1) := by decide +kernel
theorem dX10_bird_167 : decode cX10_bird 167 = .ok (.getfield 54, 3) := by decide +kernel
theorem dX10_bird_170 : decode cX10_bird 170 = .ok (.iload_n 1, 1) := by decide +kernel
theorem dX10_bird_171 : decode cX10_bird 171 = .ok (.aload_n 0, 1) := by decide +kernel
theorem dX10_bird_172 : decode cX10_bird 172 = .ok (.getfield 19, 3) := by decide +kernel
theorem dX10_bird_175 : decode cX10_bird 175 = .ok (.getfield 123, 3) := by decide +kernel
theorem dX10_bird_178 : decode cX10_bird 178 = .ok (.invokevirtual 158, 3) := by decide +kernel
theorem dX10_bird_181 : decode cX10_bird 181 = .ok (.invokevirtual 105, 3) := by decide +kernel
theorem dX10_bird_184 : decode cX10_bird 184 = .ok (.ireturn, 1) := by decide +kernel
theorem dX10_bird_185 : decode cX10_bird 185 = .ok (.aload_n 0, 1) := by decide +kernel
theorem dX10_bird_186 : decode cX10_bird 186 = .ok (.iconst 1, 1) := by decide +kernel
theorem dX10_bird_187 : decode cX10_bird 187 = .ok (.invokevirtual 72, 3) := by decide +kernel
theorem dX10_bird_190 : decode cX10_bird 190 = .ok (.ireturn, 1) := by decide +kernel
theorem dX10_apart_0 : decode cX10_apart 0 = .ok (.aload_n 0, 1) := by decide +kernel
theorem dX10_apart_1 : decode cX10_apart 1 = .ok (.iload_n 1, 1) := by decide +kernel
theorem dX10_apart_2 : decode cX10_apart 2 = .ok (.iload_n 2, 1) := by decide +kernel
theorem dX10_apart_3 : decode cX10_apart 3 = .ok (.invokevirtual 161, 3) := by decide +kernel
theorem dX10_apart_6 : decode cX10_apart 6 = .ok (.ifCond .ne 9, 3) := by decide +kernel
theorem dX10_apart_9 : decode cX10_apart 9 = .ok (.aload_n 0, 1) := by decide +kernel
theorem dX10_apart_10 : decode cX10_apart 10 = .ok (.iconst 1, 1) := by decide +kernel
theorem dX10_apart_11 : decode cX10_apart 11 = .ok (.invokevirtual 72, 3) := by decide +kernel
theorem dX10_apart_14 : decode cX10_apart 14 = .ok (.ireturn, 1) := by decide +kernel
theorem dX10_apart_15 : decode cX10_apart 15 = .ok (.aload_n 0, 1) := by decide +kernel
theorem dX10_apart_16 : decode cX10_apart 16 = .ok (.aload_n 0, 1) := by decide +kernel
theorem dX10_apart_17 : decode cX10_apart 17 = .ok (.getfield 54, 3) := by decide +kernel
theorem dX10_apart_20 : decode cX10_apart 20 = .ok (.iload_n 1, 1) := by decide +kernel
theorem dX10_apart_21 : decode cX10_apart 21 = .ok (.iload_n 2, 1) := by decide +kernel
theorem dX10_apart_22 : decode cX10_apart 22 = .ok (.invokevirtual 165, 3) := by decide +kernel
theorem dX10_apart_25 : decode cX10_apart 25 = .ok (.invokevirtual 105, 3) := by decide +kernel
theorem dX10_apart_28 : decode cX10_apart 28 = .ok (.ireturn, 1) := by decide +kernel
theorem dX10_birds_0 : decode cX10_birds 0 = .ok (.aload_n 0, 1) := by decide +kernel
theorem dX10_birds_1 : decode cX10_birds 1 = .ok (.invokevirtual 169, 3) := by decide +kernel
theorem dX10_birds_4 : decode cX10_birds 4 = .ok (.ifCond .eq 21, 3) := by decide +kernel
theorem dX10_birds_7 : decode cX10_birds 7 = .ok (.aload_n 0, 1) := by decide +kernel
theorem dX10_birds_8 : decode cX10_birds 8 = .ok (.aload_n 0, 1) := by decide +kernel
theorem dX10_birds_9 : decode cX10_birds 9 = .ok (.getfield 19, 3) := by decide +kernel
theorem dX10_birds_12 : decode cX10_birds 12 = .ok (.aload_n 0, 1) := by decide +kernel
theorem dX10_birds_13 : decode cX10_birds 13 = .ok (.getfield 54, 3) := by decide +kernel
theorem dX10_birds_16 : decode cX10_birds 16 = .ok (.invokevirtual 173, 3) := by decide +kernel
theorem dX10_birds_19 : decode cX10_birds 19 = .ok (.invokevirtual 105, 3) := by decide +kernel
theorem dX10_birds_22 : decode cX10_birds 22 = .ok (.goto 8, 3) := by decide +kernel
theorem dX10_birds_25 : decode cX10_birds 25 = .ok (.aload_n 0, 1) := by decide +kernel
theorem dX10_birds_26 : decode cX10_birds 26 = .ok (.iconst 1, 1) := by decide +kernel
theorem dX10_birds_27 : decode cX10_birds 27 = .ok (.invokevirtual 72, 3) := by decide +kernel
theorem dX10_birds_30 : decode cX10_birds 30 = .ok (.ireturn, 1) := by decide +kernel
theorem dX10_fullest_0 : decode cX10_fullest 0 = .ok (.aload_n 0, 1) := by decide +kernel
theorem dX10_fullest_1 : decode cX10_fullest 1 = .ok (.invokevirtual 169, 3) := by decide +kernel
theorem dX10_fullest_4 : decode cX10_fullest 4 = .ok (.ifCond .eq 21, 3) := by decide +kernel
theorem dX10_fullest_7 : decode cX10_fullest 7 = .ok (.aload_n 0, 1) := by decide +kernel
theorem dX10_fullest_8 : decode cX10_fullest 8 = .ok (.aload_n 0, 1) := by decide +kernel
theorem dX10_fullest_9 : decode cX10_fullest 9 = .ok (.getfield 19, 3) := by decide +kernel
theorem dX10_fullest_12 : decode cX10_fullest 12 = .ok (.aload_n 0, 1) := by decide +kernel
theorem dX10_fullest_13 : decode cX10_fullest 13 = .ok (.getfield 54, 3) := by decide +kernel
theorem dX10_fullest_16 : decode cX10_fullest 16 = .ok (.invokevirtual 177, 3) := by decide +kernel
theorem dX10_fullest_19 : decode cX10_fullest 19 = .ok (.invokevirtual 105, 3) := by decide +kernel
theorem dX10_fullest_22 : decode cX10_fullest 22 = .ok (.goto 8, 3) := by decide +kernel
theorem dX10_fullest_25 : decode cX10_fullest 25 = .ok (.aload_n 0, 1) := by decide +kernel
theorem dX10_fullest_26 : decode cX10_fullest 26 = .ok (.iconst 1, 1) := by decide +kernel
theorem dX10_fullest_27 : decode cX10_fullest 27 = .ok (.invokevirtual 72, 3) := by decide +kernel
theorem dX10_fullest_30 : decode cX10_fullest 30 = .ok (.ireturn, 1) := by decide +kernel
theorem dX10_clean_0 : decode cX10_clean 0 = .ok (.aload_n 0, 1) := by decide +kernel
theorem dX10_clean_1 : decode cX10_clean 1 = .ok (.invokevirtual 169, 3) := by decide +kernel
theorem dX10_clean_4 : decode cX10_clean 4 = .ok (.ifCond .eq 21, 3) := by decide +kernel
theorem dX10_clean_7 : decode cX10_clean 7 = .ok (.aload_n 0, 1) := by decide +kernel
theorem dX10_clean_8 : decode cX10_clean 8 = .ok (.aload_n 0, 1) := by decide +kernel
theorem dX10_clean_9 : decode cX10_clean 9 = .ok (.getfield 19, 3) := by decide +kernel
theorem dX10_clean_12 : decode cX10_clean 12 = .ok (.aload_n 0, 1) := by decide +kernel
theorem dX10_clean_13 : decode cX10_clean 13 = .ok (.getfield 54, 3) := by decide +kernel
theorem dX10_clean_16 : decode cX10_clean 16 = .ok (.invokevirtual 180, 3) := by decide +kernel
theorem dX10_clean_19 : decode cX10_clean 19 = .ok (.invokevirtual 105, 3) := by decide +kernel
theorem dX10_clean_22 : decode cX10_clean 22 = .ok (.goto 8, 3) := by decide +kernel
theorem dX10_clean_25 : decode cX10_clean 25 = .ok (.aload_n 0, 1) := by decide +kernel
theorem dX10_clean_26 : decode cX10_clean 26 = .ok (.iconst 1, 1) := by decide +kernel
theorem dX10_clean_27 : decode cX10_clean 27 = .ok (.invokevirtual 72, 3) := by decide +kernel
theorem dX10_clean_30 : decode cX10_clean 30 = .ok (.ireturn, 1) := by decide +kernel
theorem dX10_whereIn_0 : decode cX10_whereIn 0 = .ok (.aload_n 0, 1) := by decide +kernel
theorem dX10_whereIn_1 : decode cX10_whereIn 1 = .ok (.iload_n 1, 1) := by decide +kernel
theorem dX10_whereIn_2 : decode cX10_whereIn 2 = .ok (.invokevirtual 134, 3) := by decide +kernel
theorem dX10_whereIn_5 : decode cX10_whereIn 5 = .ok (.ifCond .ne 9, 3) := by decide +kernel
theorem dX10_whereIn_8 : decode cX10_whereIn 8 = .ok (.aload_n 0, 1) := by decide +kernel
theorem dX10_whereIn_9 : decode cX10_whereIn 9 = .ok (.iconst 1, 1) := by decide +kernel
theorem dX10_whereIn_10 : decode cX10_whereIn 10 = .ok (.invokevirtual 72, 3) := by decide +kernel
theorem dX10_whereIn_13 : decode cX10_whereIn 13 = .ok (.ireturn, 1) := by decide +kernel
theorem dX10_whereIn_14 : decode cX10_whereIn 14 = .ok (.iload_n 2, 1) := by decide +kernel
theorem dX10_whereIn_15 : decode cX10_whereIn 15 = .ok (.iconst 0, 1) := by decide +kernel
theorem dX10_whereIn_16 : decode cX10_whereIn 16 = .ok (.bipush 60, 2) := by decide +kernel
theorem dX10_whereIn_18 : decode cX10_whereIn 18 = .ok (.invokestatic 183, 3) := by decide +kernel
theorem dX10_whereIn_21 : decode cX10_whereIn 21 = .ok (.ifCond .ne 9, 3) := by decide +kernel
theorem dX10_whereIn_24 : decode cX10_whereIn 24 = .ok (.aload_n 0, 1) := by decide +kernel
theorem dX10_whereIn_25 : decode cX10_whereIn 25 = .ok (.iconst 2, 1) := by decide +kernel
theorem dX10_whereIn_26 : decode cX10_whereIn 26 = .ok (.invokevirtual 72, 3) := by decide +kernel
theorem dX10_whereIn_29 : decode cX10_whereIn 29 = .ok (.ireturn, 1) := by decide +kernel
theorem dX10_whereIn_30 : decode cX10_whereIn 30 = .ok (.aload_n 0, 1) := by decide +kernel
theorem dX10_whereIn_31 : decode cX10_whereIn 31 = .ok (.aload_n 0, 1) := by decide +kernel
theorem dX10_whereIn_32 : decode cX10_whereIn 32 = .ok (.getfield 19, 3) := by decide +kernel
theorem dX10_whereIn_35 : decode cX10_whereIn 35 = .ok (.aload_n 0, 1) := by decide +kernel
theorem dX10_whereIn_36 : decode cX10_whereIn 36 = .ok (.getfield 54, 3) := by decide +kernel
theorem dX10_whereIn_39 : decode cX10_whereIn 39 = .ok (.iload_n 1, 1) := by decide +kernel
theorem dX10_whereIn_40 : decode cX10_whereIn 40 = .ok (.aload_n 0, 1) := by decide +kernel
theorem dX10_whereIn_41 : decode cX10_whereIn 41 = .ok (.getfield 19, 3) := by decide +kernel
theorem dX10_whereIn_44 : decode cX10_whereIn 44 = .ok (.getfield 123, 3) := by decide +kernel
theorem dX10_whereIn_47 : decode cX10_whereIn 47 = .ok (.iload_n 2, 1) := by decide +kernel
theorem dX10_whereIn_48 : decode cX10_whereIn 48 = .ok (.iadd, 1) := by decide +kernel
theorem dX10_whereIn_49 : decode cX10_whereIn 49 = .ok (.invokevirtual 158, 3) := by decide +kernel
theorem dX10_whereIn_52 : decode cX10_whereIn 52 = .ok (.invokevirtual 105, 3) := by decide +kernel
theorem dX10_whereIn_55 : decode cX10_whereIn 55 = .ok (.ireturn, 1) := by decide +kernel
theorem dX10_sitIn_0 : decode cX10_sitIn 0 = .ok (.aload_n 0, 1) := by decide +kernel
theorem dX10_sitIn_1 : decode cX10_sitIn 1 = .ok (.iload_n 1, 1) := by decide +kernel
theorem dX10_sitIn_2 : decode cX10_sitIn 2 = .ok (.invokevirtual 111, 3) := by decide +kernel
theorem dX10_sitIn_5 : decode cX10_sitIn 5 = .ok (.ifCond .ne 9, 3) := by decide +kernel
theorem dX10_sitIn_8 : decode cX10_sitIn 8 = .ok (.aload_n 0, 1) := by decide +kernel
theorem dX10_sitIn_9 : decode cX10_sitIn 9 = .ok (.iconst 1, 1) := by decide +kernel
theorem dX10_sitIn_10 : decode cX10_sitIn 10 = .ok (.invokevirtual 72, 3) := by decide +kernel
theorem dX10_sitIn_13 : decode cX10_sitIn 13 = .ok (.ireturn, 1) := by decide +kernel
theorem dX10_sitIn_14 : decode cX10_sitIn 14 = .ok (.iload_n 2, 1) := by decide +kernel
theorem dX10_sitIn_15 : decode cX10_sitIn 15 = .ok (.iconst 0, 1) := by decide +kernel
theorem dX10_sitIn_16 : decode cX10_sitIn 16 = .ok (.bipush 60, 2) := by decide +kernel
theorem dX10_sitIn_18 : decode cX10_sitIn 18 = .ok (.invokestatic 183, 3) := by decide +kernel
theorem dX10_sitIn_21 : decode cX10_sitIn 21 = .ok (.ifCond .ne 9, 3) := by decide +kernel
theorem dX10_sitIn_24 : decode cX10_sitIn 24 = .ok (.aload_n 0, 1) := by decide +kernel
theorem dX10_sitIn_25 : decode cX10_sitIn 25 = .ok (.iconst 2, 1) := by decide +kernel
theorem dX10_sitIn_26 : decode cX10_sitIn 26 = .ok (.invokevirtual 72, 3) := by decide +kernel
theorem dX10_sitIn_29 : decode cX10_sitIn 29 = .ok (.ireturn, 1) := by decide +kernel
theorem dX10_sitIn_30 : decode cX10_sitIn 30 = .ok (.aload_n 0, 1) := by decide +kernel
theorem dX10_sitIn_31 : decode cX10_sitIn 31 = .ok (.aload_n 0, 1) := by decide +kernel
theorem dX10_sitIn_32 : decode cX10_sitIn 32 = .ok (.getfield 19, 3) := by decide +kernel
theorem dX10_sitIn_35 : decode cX10_sitIn 35 = .ok (.aload_n 0, 1) := by decide +kernel
theorem dX10_sitIn_36 : decode cX10_sitIn 36 = .ok (.getfield 54, 3) := by decide +kernel
theorem dX10_sitIn_39 : decode cX10_sitIn 39 = .ok (.iload_n 1, 1) := by decide +kernel
theorem dX10_sitIn_40 : decode cX10_sitIn 40 = .ok (.aload_n 0, 1) := by decide +kernel
theorem dX10_sitIn_41 : decode cX10_sitIn 41 = .ok (.getfield 19, 3) := by decide +kernel
theorem dX10_sitIn_44 : decode cX10_sitIn 44 = .ok (.getfield 123, 3) := by decide +kernel
theorem dX10_sitIn_47 : decode cX10_sitIn 47 = .ok (.iload_n 2, 1) := by decide +kernel
theorem dX10_sitIn_48 : decode cX10_sitIn 48 = .ok (.iadd, 1) := by decide +kernel
theorem dX10_sitIn_49 : decode cX10_sitIn 49 = .ok (.invokevirtual 126, 3) := by decide +kernel
theorem dX10_sitIn_52 : decode cX10_sitIn 52 = .ok (.invokestatic 187, 3) := by decide +kernel
theorem dX10_sitIn_55 : decode cX10_sitIn 55 = .ok (.invokevirtual 105, 3) := by decide +kernel
theorem dX10_sitIn_58 : decode cX10_sitIn 58 = .ok (.ireturn, 1) := by decide +kernel
theorem dX10_whiteIn_0 : decode cX10_whiteIn 0 = .ok (.aload_n 0, 1) := by decide +kernel
theorem dX10_whiteIn_1 : decode cX10_whiteIn 1 = .ok (.iload_n 1, 1) := by decide +kernel
theorem dX10_whiteIn_2 : decode cX10_whiteIn 2 = .ok (.invokevirtual 111, 3) := by decide +kernel
theorem dX10_whiteIn_5 : decode cX10_whiteIn 5 = .ok (.ifCond .ne 9, 3) := by decide +kernel
theorem dX10_whiteIn_8 : decode cX10_whiteIn 8 = .ok (.aload_n 0, 1) := by decide +kernel
theorem dX10_whiteIn_9 : decode cX10_whiteIn 9 = .ok (.iconst 1, 1) := by decide +kernel
theorem dX10_whiteIn_10 : decode cX10_whiteIn 10 = .ok (.invokevirtual 72, 3) := by decide +kernel
theorem dX10_whiteIn_13 : decode cX10_whiteIn 13 = .ok (.ireturn, 1) := by decide +kernel
theorem dX10_whiteIn_14 : decode cX10_whiteIn 14 = .ok (.iload_n 2, 1) := by decide +kernel
theorem dX10_whiteIn_15 : decode cX10_whiteIn 15 = .ok (.iconst 0, 1) := by decide +kernel
theorem dX10_whiteIn_16 : decode cX10_whiteIn 16 = .ok (.bipush 60, 2) := by decide +kernel
theorem dX10_whiteIn_18 : decode cX10_whiteIn 18 = .ok (.invokestatic 183, 3) := by decide +kernel
theorem dX10_whiteIn_21 : decode cX10_whiteIn 21 = .ok (.ifCond .ne 9, 3) := by decide +kernel
theorem dX10_whiteIn_24 : decode cX10_whiteIn 24 = .ok (.aload_n 0, 1) := by decide +kernel
theorem dX10_whiteIn_25 : decode cX10_whiteIn 25 = .ok (.iconst 2, 1) := by decide +kernel
theorem dX10_whiteIn_26 : decode cX10_whiteIn 26 = .ok (.invokevirtual 72, 3) := by decide +kernel
theorem dX10_whiteIn_29 : decode cX10_whiteIn 29 = .ok (.ireturn, 1) := by decide +kernel
theorem dX10_whiteIn_30 : decode cX10_whiteIn 30 = .ok (.aload_n 0, 1) := by decide +kernel
theorem dX10_whiteIn_31 : decode cX10_whiteIn 31 = .ok (.aload_n 0, 1) := by decide +kernel
theorem dX10_whiteIn_32 : decode cX10_whiteIn 32 = .ok (.getfield 19, 3) := by decide +kernel
theorem dX10_whiteIn_35 : decode cX10_whiteIn 35 = .ok (.aload_n 0, 1) := by decide +kernel
theorem dX10_whiteIn_36 : decode cX10_whiteIn 36 = .ok (.getfield 54, 3) := by decide +kernel
theorem dX10_whiteIn_39 : decode cX10_whiteIn 39 = .ok (.iload_n 1, 1) := by decide +kernel
theorem dX10_whiteIn_40 : decode cX10_whiteIn 40 = .ok (.iload_n 2, 1) := by decide +kernel
theorem dX10_whiteIn_41 : decode cX10_whiteIn 41 = .ok (.invokevirtual 192, 3) := by decide +kernel
theorem dX10_whiteIn_44 : decode cX10_whiteIn 44 = .ok (.invokevirtual 105, 3) := by decide +kernel
theorem dX10_whiteIn_47 : decode cX10_whiteIn 47 = .ok (.ireturn, 1) := by decide +kernel
theorem dX10_sitsIn_0 : decode cX10_sitsIn 0 = .ok (.aload_n 0, 1) := by decide +kernel
theorem dX10_sitsIn_1 : decode cX10_sitsIn 1 = .ok (.iload_n 1, 1) := by decide +kernel
theorem dX10_sitsIn_2 : decode cX10_sitsIn 2 = .ok (.invokevirtual 134, 3) := by decide +kernel
theorem dX10_sitsIn_5 : decode cX10_sitsIn 5 = .ok (.ifCond .ne 9, 3) := by decide +kernel
theorem dX10_sitsIn_8 : decode cX10_sitsIn 8 = .ok (.aload_n 0, 1) := by decide +kernel
theorem dX10_sitsIn_9 : decode cX10_sitsIn 9 = .ok (.iconst 1, 1) := by decide +kernel
theorem dX10_sitsIn_10 : decode cX10_sitsIn 10 = .ok (.invokevirtual 72, 3) := by decide +kernel
theorem dX10_sitsIn_13 : decode cX10_sitsIn 13 = .ok (.ireturn, 1) := by decide +kernel
theorem dX10_sitsIn_14 : decode cX10_sitsIn 14 = .ok (.aload_n 0, 1) := by decide +kernel
theorem dX10_sitsIn_15 : decode cX10_sitsIn 15 = .ok (.aload_n 0, 1) := by decide +kernel
theorem dX10_sitsIn_16 : decode cX10_sitsIn 16 = .ok (.getfield 19, 3) := by decide +kernel
theorem dX10_sitsIn_19 : decode cX10_sitsIn 19 = .ok (.aload_n 0, 1) := by decide +kernel
theorem dX10_sitsIn_20 : decode cX10_sitsIn 20 = .ok (.getfield 54, 3) := by decide +kernel
theorem dX10_sitsIn_23 : decode cX10_sitsIn 23 = .ok (.iload_n 1, 1) := by decide +kernel
theorem dX10_sitsIn_24 : decode cX10_sitsIn 24 = .ok (.bipush 60, 2) := by decide +kernel
theorem dX10_sitsIn_26 : decode cX10_sitsIn 26 = .ok (.invokevirtual 195, 3) := by decide +kernel
theorem dX10_sitsIn_29 : decode cX10_sitsIn 29 = .ok (.invokevirtual 105, 3) := by decide +kernel
theorem dX10_sitsIn_32 : decode cX10_sitsIn 32 = .ok (.ireturn, 1) := by decide +kernel
theorem dX10_worstDay_0 : decode cX10_worstDay 0 = .ok (.aload_n 0, 1) := by decide +kernel
theorem dX10_worstDay_1 : decode cX10_worstDay 1 = .ok (.invokevirtual 169, 3) := by decide +kernel
theorem dX10_worstDay_4 : decode cX10_worstDay 4 = .ok (.ifCond .eq 23, 3) := by decide +kernel
theorem dX10_worstDay_7 : decode cX10_worstDay 7 = .ok (.aload_n 0, 1) := by decide +kernel
theorem dX10_worstDay_8 : decode cX10_worstDay 8 = .ok (.aload_n 0, 1) := by decide +kernel
theorem dX10_worstDay_9 : decode cX10_worstDay 9 = .ok (.getfield 19, 3) := by decide +kernel
theorem dX10_worstDay_12 : decode cX10_worstDay 12 = .ok (.aload_n 0, 1) := by decide +kernel
theorem dX10_worstDay_13 : decode cX10_worstDay 13 = .ok (.getfield 54, 3) := by decide +kernel
theorem dX10_worstDay_16 : decode cX10_worstDay 16 = .ok (.bipush 60, 2) := by decide +kernel
theorem dX10_worstDay_18 : decode cX10_worstDay 18 = .ok (.invokevirtual 198, 3) := by decide +kernel
theorem dX10_worstDay_21 : decode cX10_worstDay 21 = .ok (.invokevirtual 105, 3) := by decide +kernel
theorem dX10_worstDay_24 : decode cX10_worstDay 24 = .ok (.goto 8, 3) := by decide +kernel
theorem dX10_worstDay_27 : decode cX10_worstDay 27 = .ok (.aload_n 0, 1) := by decide +kernel
theorem dX10_worstDay_28 : decode cX10_worstDay 28 = .ok (.iconst 1, 1) := by decide +kernel
theorem dX10_worstDay_29 : decode cX10_worstDay 29 = .ok (.invokevirtual 72, 3) := by decide +kernel
theorem dX10_worstDay_32 : decode cX10_worstDay 32 = .ok (.ireturn, 1) := by decide +kernel
theorem dX10_whitest_0 : decode cX10_whitest 0 = .ok (.aload_n 0, 1) := by decide +kernel
theorem dX10_whitest_1 : decode cX10_whitest 1 = .ok (.invokevirtual 169, 3) := by decide +kernel
theorem dX10_whitest_4 : decode cX10_whitest 4 = .ok (.ifCond .ne 9, 3) := by decide +kernel
theorem dX10_whitest_7 : decode cX10_whitest 7 = .ok (.aload_n 0, 1) := by decide +kernel
theorem dX10_whitest_8 : decode cX10_whitest 8 = .ok (.iconst 1, 1) := by decide +kernel
theorem dX10_whitest_9 : decode cX10_whitest 9 = .ok (.invokevirtual 72, 3) := by decide +kernel
theorem dX10_whitest_12 : decode cX10_whitest 12 = .ok (.ireturn, 1) := by decide +kernel
theorem dX10_whitest_13 : decode cX10_whitest 13 = .ok (.iload_n 1, 1) := by decide +kernel
theorem dX10_whitest_14 : decode cX10_whitest 14 = .ok (.iconst 0, 1) := by decide +kernel
theorem dX10_whitest_15 : decode cX10_whitest 15 = .ok (.bipush 60, 2) := by decide +kernel
theorem dX10_whitest_17 : decode cX10_whitest 17 = .ok (.invokestatic 183, 3) := by decide +kernel
theorem dX10_whitest_20 : decode cX10_whitest 20 = .ok (.ifCond .ne 9, 3) := by decide +kernel
theorem dX10_whitest_23 : decode cX10_whitest 23 = .ok (.aload_n 0, 1) := by decide +kernel
theorem dX10_whitest_24 : decode cX10_whitest 24 = .ok (.iconst 2, 1) := by decide +kernel
theorem dX10_whitest_25 : decode cX10_whitest 25 = .ok (.invokevirtual 72, 3) := by decide +kernel
theorem dX10_whitest_28 : decode cX10_whitest 28 = .ok (.ireturn, 1) := by decide +kernel
theorem dX10_whitest_29 : decode cX10_whitest 29 = .ok (.aload_n 0, 1) := by decide +kernel
theorem dX10_whitest_30 : decode cX10_whitest 30 = .ok (.aload_n 0, 1) := by decide +kernel
theorem dX10_whitest_31 : decode cX10_whitest 31 = .ok (.getfield 19, 3) := by decide +kernel
theorem dX10_whitest_34 : decode cX10_whitest 34 = .ok (.aload_n 0, 1) := by decide +kernel
theorem dX10_whitest_35 : decode cX10_whitest 35 = .ok (.getfield 54, 3) := by decide +kernel
theorem dX10_whitest_38 : decode cX10_whitest 38 = .ok (.iload_n 1, 1) := by decide +kernel
theorem dX10_whitest_39 : decode cX10_whitest 39 = .ok (.invokevirtual 201, 3) := by decide +kernel
theorem dX10_whitest_42 : decode cX10_whitest 42 = .ok (.invokevirtual 105, 3) := by decide +kernel
theorem dX10_whitest_45 : decode cX10_whitest 45 = .ok (.ireturn, 1) := by decide +kernel
theorem dX10_allSit_0 : decode cX10_allSit 0 = .ok (.aload_n 0, 1) := by decide +kernel
theorem dX10_allSit_1 : decode cX10_allSit 1 = .ok (.invokevirtual 169, 3) := by decide +kernel
theorem dX10_allSit_4 : decode cX10_allSit 4 = .ok (.ifCond .eq 23, 3) := by decide +kernel
theorem dX10_allSit_7 : decode cX10_allSit 7 = .ok (.aload_n 0, 1) := by decide +kernel
theorem dX10_allSit_8 : decode cX10_allSit 8 = .ok (.aload_n 0, 1) := by decide +kernel
theorem dX10_allSit_9 : decode cX10_allSit 9 = .ok (.getfield 19, 3) := by decide +kernel
theorem dX10_allSit_12 : decode cX10_allSit 12 = .ok (.aload_n 0, 1) := by decide +kernel
theorem dX10_allSit_13 : decode cX10_allSit 13 = .ok (.getfield 54, 3) := by decide +kernel
theorem dX10_allSit_16 : decode cX10_allSit 16 = .ok (.bipush 60, 2) := by decide +kernel
theorem dX10_allSit_18 : decode cX10_allSit 18 = .ok (.invokevirtual 204, 3) := by decide +kernel
theorem dX10_allSit_21 : decode cX10_allSit 21 = .ok (.invokevirtual 105, 3) := by decide +kernel
theorem dX10_allSit_24 : decode cX10_allSit 24 = .ok (.goto 8, 3) := by decide +kernel
theorem dX10_allSit_27 : decode cX10_allSit 27 = .ok (.aload_n 0, 1) := by decide +kernel
theorem dX10_allSit_28 : decode cX10_allSit 28 = .ok (.iconst 1, 1) := by decide +kernel
theorem dX10_allSit_29 : decode cX10_allSit 29 = .ok (.invokevirtual 72, 3) := by decide +kernel
theorem dX10_allSit_32 : decode cX10_allSit 32 = .ok (.ireturn, 1) := by decide +kernel
theorem dX10_mayMeet_0 : decode cX10_mayMeet 0 = .ok (.aload_n 0, 1) := by decide +kernel
theorem dX10_mayMeet_1 : decode cX10_mayMeet 1 = .ok (.iload_n 1, 1) := by decide +kernel
theorem dX10_mayMeet_2 : decode cX10_mayMeet 2 = .ok (.invokevirtual 134, 3) := by decide +kernel
theorem dX10_mayMeet_5 : decode cX10_mayMeet 5 = .ok (.ifCond .eq 26, 3) := by decide +kernel
theorem dX10_mayMeet_8 : decode cX10_mayMeet 8 = .ok (.aload_n 0, 1) := by decide +kernel
theorem dX10_mayMeet_9 : decode cX10_mayMeet 9 = .ok (.aload_n 0, 1) := by decide +kernel
theorem dX10_mayMeet_10 : decode cX10_mayMeet 10 = .ok (.getfield 33, 3) := by decide +kernel
theorem dX10_mayMeet_13 : decode cX10_mayMeet 13 = .ok (.aload_n 0, 1) := by decide +kernel
theorem dX10_mayMeet_14 : decode cX10_mayMeet 14 = .ok (.getfield 54, 3) := by decide +kernel
theorem dX10_mayMeet_17 : decode cX10_mayMeet 17 = .ok (.aload_n 0, 1) := by decide +kernel
theorem dX10_mayMeet_18 : decode cX10_mayMeet 18 = .ok (.getfield 19, 3) := by decide +kernel
theorem dX10_mayMeet_21 : decode cX10_mayMeet 21 = .ok (.iload_n 1, 1) := by decide +kernel
theorem dX10_mayMeet_22 : decode cX10_mayMeet 22 = .ok (.invokevirtual 207, 3) := by decide +kernel
theorem dX10_mayMeet_25 : decode cX10_mayMeet 25 = .ok (.invokevirtual 105, 3) := by decide +kernel
theorem dX10_mayMeet_28 : decode cX10_mayMeet 28 = .ok (.goto 8, 3) := by decide +kernel
theorem dX10_mayMeet_31 : decode cX10_mayMeet 31 = .ok (.aload_n 0, 1) := by decide +kernel
theorem dX10_mayMeet_32 : decode cX10_mayMeet 32 = .ok (.iconst 1, 1) := by decide +kernel
theorem dX10_mayMeet_33 : decode cX10_mayMeet 33 = .ok (.invokevirtual 72, 3) := by decide +kernel
theorem dX10_mayMeet_36 : decode cX10_mayMeet 36 = .ok (.ireturn, 1) := by decide +kernel
theorem dX10_meeting_0 : decode cX10_meeting 0 = .ok (.aload_n 0, 1) := by decide +kernel
theorem dX10_meeting_1 : decode cX10_meeting 1 = .ok (.iload_n 1, 1) := by decide +kernel
theorem dX10_meeting_2 : decode cX10_meeting 2 = .ok (.iload_n 2, 1) := by decide +kernel
theorem dX10_meeting_3 : decode cX10_meeting 3 = .ok (.invokevirtual 211, 3) := by decide +kernel
theorem dX10_meeting_6 : decode cX10_meeting 6 = .ok (.ifCond .ne 9, 3) := by decide +kernel
theorem dX10_meeting_9 : decode cX10_meeting 9 = .ok (.aload_n 0, 1) := by decide +kernel
theorem dX10_meeting_10 : decode cX10_meeting 10 = .ok (.iconst 1, 1) := by decide +kernel
theorem dX10_meeting_11 : decode cX10_meeting 11 = .ok (.invokevirtual 72, 3) := by decide +kernel
theorem dX10_meeting_14 : decode cX10_meeting 14 = .ok (.ireturn, 1) := by decide +kernel
theorem dX10_meeting_15 : decode cX10_meeting 15 = .ok (.aload_n 0, 1) := by decide +kernel
theorem dX10_meeting_16 : decode cX10_meeting 16 = .ok (.aload_n 0, 1) := by decide +kernel
theorem dX10_meeting_17 : decode cX10_meeting 17 = .ok (.getfield 19, 3) := by decide +kernel
theorem dX10_meeting_20 : decode cX10_meeting 20 = .ok (.aload_n 0, 1) := by decide +kernel
theorem dX10_meeting_21 : decode cX10_meeting 21 = .ok (.getfield 54, 3) := by decide +kernel
theorem dX10_meeting_24 : decode cX10_meeting 24 = .ok (.iload_n 1, 1) := by decide +kernel
theorem dX10_meeting_25 : decode cX10_meeting 25 = .ok (.iload_n 2, 1) := by decide +kernel
theorem dX10_meeting_26 : decode cX10_meeting 26 = .ok (.invokevirtual 214, 3) := by decide +kernel
theorem dX10_meeting_29 : decode cX10_meeting 29 = .ok (.ifCond .eq 19, 3) := by decide +kernel
theorem dX10_meeting_32 : decode cX10_meeting 32 = .ok (.aload_n 0, 1) := by decide +kernel
theorem dX10_meeting_33 : decode cX10_meeting 33 = .ok (.getfield 19, 3) := by decide +kernel
theorem dX10_meeting_36 : decode cX10_meeting 36 = .ok (.aload_n 0, 1) := by decide +kernel
theorem dX10_meeting_37 : decode cX10_meeting 37 = .ok (.getfield 54, 3) := by decide +kernel
theorem dX10_meeting_40 : decode cX10_meeting 40 = .ok (.iload_n 1, 1) := by decide +kernel
theorem dX10_meeting_41 : decode cX10_meeting 41 = .ok (.iload_n 2, 1) := by decide +kernel
theorem dX10_meeting_42 : decode cX10_meeting 42 = .ok (.invokevirtual 218, 3) := by decide +kernel
theorem dX10_meeting_45 : decode cX10_meeting 45 = .ok (.goto 5, 3) := by decide +kernel
theorem dX10_meeting_48 : decode cX10_meeting 48 = .ok (.bipush (-2), 2) := by decide +kernel
theorem dX10_meeting_50 : decode cX10_meeting 50 = .ok (.invokevirtual 105, 3) := by decide +kernel
theorem dX10_meeting_53 : decode cX10_meeting 53 = .ok (.ireturn, 1) := by decide +kernel
theorem dX10_owes_0 : decode cX10_owes 0 = .ok (.aload_n 0, 1) := by decide +kernel
theorem dX10_owes_1 : decode cX10_owes 1 = .ok (.iload_n 1, 1) := by decide +kernel
theorem dX10_owes_2 : decode cX10_owes 2 = .ok (.invokevirtual 111, 3) := by decide +kernel
theorem dX10_owes_5 : decode cX10_owes 5 = .ok (.ifCond .eq 22, 3) := by decide +kernel
theorem dX10_owes_8 : decode cX10_owes 8 = .ok (.aload_n 0, 1) := by decide +kernel
theorem dX10_owes_9 : decode cX10_owes 9 = .ok (.aload_n 0, 1) := by decide +kernel
theorem dX10_owes_10 : decode cX10_owes 10 = .ok (.getfield 19, 3) := by decide +kernel
theorem dX10_owes_13 : decode cX10_owes 13 = .ok (.aload_n 0, 1) := by decide +kernel
theorem dX10_owes_14 : decode cX10_owes 14 = .ok (.getfield 54, 3) := by decide +kernel
theorem dX10_owes_17 : decode cX10_owes 17 = .ok (.iload_n 1, 1) := by decide +kernel
theorem dX10_owes_18 : decode cX10_owes 18 = .ok (.invokevirtual 221, 3) := by decide +kernel
theorem dX10_owes_21 : decode cX10_owes 21 = .ok (.invokevirtual 105, 3) := by decide +kernel
theorem dX10_owes_24 : decode cX10_owes 24 = .ok (.goto 8, 3) := by decide +kernel
theorem dX10_owes_27 : decode cX10_owes 27 = .ok (.aload_n 0, 1) := by decide +kernel
theorem dX10_owes_28 : decode cX10_owes 28 = .ok (.iconst 1, 1) := by decide +kernel
theorem dX10_owes_29 : decode cX10_owes 29 = .ok (.invokevirtual 72, 3) := by decide +kernel
theorem dX10_owes_32 : decode cX10_owes 32 = .ok (.ireturn, 1) := by decide +kernel
theorem dX10_poor_0 : decode cX10_poor 0 = .ok (.aload_n 0, 1) := by decide +kernel
theorem dX10_poor_1 : decode cX10_poor 1 = .ok (.invokevirtual 169, 3) := by decide +kernel
theorem dX10_poor_4 : decode cX10_poor 4 = .ok (.ifCond .eq 21, 3) := by decide +kernel
theorem dX10_poor_7 : decode cX10_poor 7 = .ok (.aload_n 0, 1) := by decide +kernel
theorem dX10_poor_8 : decode cX10_poor 8 = .ok (.aload_n 0, 1) := by decide +kernel
theorem dX10_poor_9 : decode cX10_poor 9 = .ok (.getfield 19, 3) := by decide +kernel
theorem dX10_poor_12 : decode cX10_poor 12 = .ok (.aload_n 0, 1) := by decide +kernel
theorem dX10_poor_13 : decode cX10_poor 13 = .ok (.getfield 54, 3) := by decide +kernel
theorem dX10_poor_16 : decode cX10_poor 16 = .ok (.invokevirtual 224, 3) := by decide +kernel
theorem dX10_poor_19 : decode cX10_poor 19 = .ok (.invokevirtual 105, 3) := by decide +kernel
theorem dX10_poor_22 : decode cX10_poor 22 = .ok (.goto 8, 3) := by decide +kernel
theorem dX10_poor_25 : decode cX10_poor 25 = .ok (.aload_n 0, 1) := by decide +kernel
theorem dX10_poor_26 : decode cX10_poor 26 = .ok (.iconst 1, 1) := by decide +kernel
theorem dX10_poor_27 : decode cX10_poor 27 = .ok (.invokevirtual 72, 3) := by decide +kernel
theorem dX10_poor_30 : decode cX10_poor 30 = .ok (.ireturn, 1) := by decide +kernel
theorem dX10_peace_0 : decode cX10_peace 0 = .ok (.aload_n 0, 1) := by decide +kernel
theorem dX10_peace_1 : decode cX10_peace 1 = .ok (.invokevirtual 169, 3) := by decide +kernel
theorem dX10_peace_4 : decode cX10_peace 4 = .ok (.ifCond .eq 25, 3) := by decide +kernel
theorem dX10_peace_7 : decode cX10_peace 7 = .ok (.aload_n 0, 1) := by decide +kernel
theorem dX10_peace_8 : decode cX10_peace 8 = .ok (.aload_n 0, 1) := by decide +kernel
theorem dX10_peace_9 : decode cX10_peace 9 = .ok (.getfield 33, 3) := by decide +kernel
theorem dX10_peace_12 : decode cX10_peace 12 = .ok (.aload_n 0, 1) := by decide +kernel
theorem dX10_peace_13 : decode cX10_peace 13 = .ok (.getfield 54, 3) := by decide +kernel
theorem dX10_peace_16 : decode cX10_peace 16 = .ok (.aload_n 0, 1) := by decide +kernel
theorem dX10_peace_17 : decode cX10_peace 17 = .ok (.getfield 19, 3) := by decide +kernel
theorem dX10_peace_20 : decode cX10_peace 20 = .ok (.invokevirtual 227, 3) := by decide +kernel
theorem dX10_peace_23 : decode cX10_peace 23 = .ok (.invokevirtual 105, 3) := by decide +kernel
theorem dX10_peace_26 : decode cX10_peace 26 = .ok (.goto 8, 3) := by decide +kernel
theorem dX10_peace_29 : decode cX10_peace 29 = .ok (.aload_n 0, 1) := by decide +kernel
theorem dX10_peace_30 : decode cX10_peace 30 = .ok (.iconst 1, 1) := by decide +kernel
theorem dX10_peace_31 : decode cX10_peace 31 = .ok (.invokevirtual 72, 3) := by decide +kernel
theorem dX10_peace_34 : decode cX10_peace 34 = .ok (.ireturn, 1) := by decide +kernel
theorem dX10_mate_0 : decode cX10_mate 0 = .ok (.aload_n 0, 1) := by decide +kernel
theorem dX10_mate_1 : decode cX10_mate 1 = .ok (.iload_n 1, 1) := by decide +kernel
theorem dX10_mate_2 : decode cX10_mate 2 = .ok (.invokevirtual 134, 3) := by decide +kernel
theorem dX10_mate_5 : decode cX10_mate 5 = .ok (.ifCond .eq 26, 3) := by decide +kernel
theorem dX10_mate_8 : decode cX10_mate 8 = .ok (.aload_n 0, 1) := by decide +kernel
theorem dX10_mate_9 : decode cX10_mate 9 = .ok (.aload_n 0, 1) := by decide +kernel
theorem dX10_mate_10 : decode cX10_mate 10 = .ok (.getfield 33, 3) := by decide +kernel
theorem dX10_mate_13 : decode cX10_mate 13 = .ok (.aload_n 0, 1) := by decide +kernel
theorem dX10_mate_14 : decode cX10_mate 14 = .ok (.getfield 54, 3) := by decide +kernel
theorem dX10_mate_17 : decode cX10_mate 17 = .ok (.aload_n 0, 1) := by decide +kernel
theorem dX10_mate_18 : decode cX10_mate 18 = .ok (.getfield 19, 3) := by decide +kernel
theorem dX10_mate_21 : decode cX10_mate 21 = .ok (.iload_n 1, 1) := by decide +kernel
theorem dX10_mate_22 : decode cX10_mate 22 = .ok (.invokevirtual 231, 3) := by decide +kernel
theorem dX10_mate_25 : decode cX10_mate 25 = .ok (.invokevirtual 105, 3) := by decide +kernel
theorem dX10_mate_28 : decode cX10_mate 28 = .ok (.goto 8, 3) := by decide +kernel
theorem dX10_mate_31 : decode cX10_mate 31 = .ok (.aload_n 0, 1) := by decide +kernel
theorem dX10_mate_32 : decode cX10_mate 32 = .ok (.iconst 1, 1) := by decide +kernel
theorem dX10_mate_33 : decode cX10_mate 33 = .ok (.invokevirtual 72, 3) := by decide +kernel
theorem dX10_mate_36 : decode cX10_mate 36 = .ok (.ireturn, 1) := by decide +kernel
theorem dX10_peaces_0 : decode cX10_peaces 0 = .ok (.aload_n 0, 1) := by decide +kernel
theorem dX10_peaces_1 : decode cX10_peaces 1 = .ok (.invokevirtual 169, 3) := by decide +kernel
theorem dX10_peaces_4 : decode cX10_peaces 4 = .ok (.ifCond .eq 25, 3) := by decide +kernel
theorem dX10_peaces_7 : decode cX10_peaces 7 = .ok (.aload_n 0, 1) := by decide +kernel
theorem dX10_peaces_8 : decode cX10_peaces 8 = .ok (.aload_n 0, 1) := by decide +kernel
theorem dX10_peaces_9 : decode cX10_peaces 9 = .ok (.getfield 33, 3) := by decide +kernel
theorem dX10_peaces_12 : decode cX10_peaces 12 = .ok (.aload_n 0, 1) := by decide +kernel
theorem dX10_peaces_13 : decode cX10_peaces 13 = .ok (.getfield 54, 3) := by decide +kernel
theorem dX10_peaces_16 : decode cX10_peaces 16 = .ok (.aload_n 0, 1) := by decide +kernel
theorem dX10_peaces_17 : decode cX10_peaces 17 = .ok (.getfield 19, 3) := by decide +kernel
theorem dX10_peaces_20 : decode cX10_peaces 20 = .ok (.invokevirtual 234, 3) := by decide +kernel
theorem dX10_peaces_23 : decode cX10_peaces 23 = .ok (.invokevirtual 105, 3) := by decide +kernel
theorem dX10_peaces_26 : decode cX10_peaces 26 = .ok (.goto 8, 3) := by decide +kernel
theorem dX10_peaces_29 : decode cX10_peaces 29 = .ok (.aload_n 0, 1) := by decide +kernel
theorem dX10_peaces_30 : decode cX10_peaces 30 = .ok (.iconst 1, 1) := by decide +kernel
theorem dX10_peaces_31 : decode cX10_peaces 31 = .ok (.invokevirtual 72, 3) := by decide +kernel
theorem dX10_peaces_34 : decode cX10_peaces 34 = .ok (.ireturn, 1) := by decide +kernel
theorem dX10_most_0 : decode cX10_most 0 = .ok (.aload_n 0, 1) := by decide +kernel
theorem dX10_most_1 : decode cX10_most 1 = .ok (.invokevirtual 169, 3) := by decide +kernel
theorem dX10_most_4 : decode cX10_most 4 = .ok (.ifCond .ne 9, 3) := by decide +kernel
theorem dX10_most_7 : decode cX10_most 7 = .ok (.aload_n 0, 1) := by decide +kernel
theorem dX10_most_8 : decode cX10_most 8 = .ok (.iconst 1, 1) := by decide +kernel
theorem dX10_most_9 : decode cX10_most 9 = .ok (.invokevirtual 72, 3) := by decide +kernel
theorem dX10_most_12 : decode cX10_most 12 = .ok (.ireturn, 1) := by decide +kernel
theorem dX10_most_13 : decode cX10_most 13 = .ok (.iload_n 1, 1) := by decide +kernel
theorem dX10_most_14 : decode cX10_most 14 = .ok (.iconst 0, 1) := by decide +kernel
theorem dX10_most_15 : decode cX10_most 15 = .ok (.sipush 999, 3) := by decide +kernel
theorem dX10_most_18 : decode cX10_most 18 = .ok (.invokestatic 183, 3) := by decide +kernel
theorem dX10_most_21 : decode cX10_most 21 = .ok (.ifCond .ne 9, 3) := by decide +kernel
theorem dX10_most_24 : decode cX10_most 24 = .ok (.aload_n 0, 1) := by decide +kernel
theorem dX10_most_25 : decode cX10_most 25 = .ok (.iconst 2, 1) := by decide +kernel
theorem dX10_most_26 : decode cX10_most 26 = .ok (.invokevirtual 72, 3) := by decide +kernel
theorem dX10_most_29 : decode cX10_most 29 = .ok (.ireturn, 1) := by decide +kernel
theorem dX10_most_30 : decode cX10_most 30 = .ok (.aload_n 0, 1) := by decide +kernel
theorem dX10_most_31 : decode cX10_most 31 = .ok (.aload_n 0, 1) := by decide +kernel
theorem dX10_most_32 : decode cX10_most 32 = .ok (.getfield 33, 3) := by decide +kernel
theorem dX10_most_35 : decode cX10_most 35 = .ok (.aload_n 0, 1) := by decide +kernel
theorem dX10_most_36 : decode cX10_most 36 = .ok (.getfield 54, 3) := by decide +kernel
theorem dX10_most_39 : decode cX10_most 39 = .ok (.aload_n 0, 1) := by decide +kernel
theorem dX10_most_40 : decode cX10_most 40 = .ok (.getfield 19, 3) := by decide +kernel
theorem dX10_most_43 : decode cX10_most 43 = .ok (.aload_n 0, 1) := by decide +kernel
theorem dX10_most_44 : decode cX10_most 44 = .ok (.getfield 19, 3) := by decide +kernel
theorem dX10_most_47 : decode cX10_most 47 = .ok (.aload_n 0, 1) := by decide +kernel
theorem dX10_most_48 : decode cX10_most 48 = .ok (.getfield 54, 3) := by decide +kernel
theorem dX10_most_51 : decode cX10_most 51 = .ok (.invokevirtual 173, 3) := by decide +kernel
theorem dX10_most_54 : decode cX10_most 54 = .ok (.iload_n 1, 1) := by decide +kernel
theorem dX10_most_55 : decode cX10_most 55 = .ok (.invokevirtual 237, 3) := by decide +kernel
theorem dX10_most_58 : decode cX10_most 58 = .ok (.invokevirtual 105, 3) := by decide +kernel
theorem dX10_most_61 : decode cX10_most 61 = .ok (.ireturn, 1) := by decide +kernel
theorem dX10_coinsFor_0 : decode cX10_coinsFor 0 = .ok (.aload_n 0, 1) := by decide +kernel
theorem dX10_coinsFor_1 : decode cX10_coinsFor 1 = .ok (.invokevirtual 169, 3) := by decide +kernel
theorem dX10_coinsFor_4 : decode cX10_coinsFor 4 = .ok (.ifCond .ne 9, 3) := by decide +kernel
theorem dX10_coinsFor_7 : decode cX10_coinsFor 7 = .ok (.aload_n 0, 1) := by decide +kernel
theorem dX10_coinsFor_8 : decode cX10_coinsFor 8 = .ok (.iconst 1, 1) := by decide +kernel
theorem dX10_coinsFor_9 : decode cX10_coinsFor 9 = .ok (.invokevirtual 72, 3) := by decide +kernel
theorem dX10_coinsFor_12 : decode cX10_coinsFor 12 = .ok (.ireturn, 1) := by decide +kernel
theorem dX10_coinsFor_13 : decode cX10_coinsFor 13 = .ok (.iload_n 1, 1) := by decide +kernel
theorem dX10_coinsFor_14 : decode cX10_coinsFor 14 = .ok (.iconst 0, 1) := by decide +kernel
theorem dX10_coinsFor_15 : decode cX10_coinsFor 15 = .ok (.bipush 7, 2) := by decide +kernel
theorem dX10_coinsFor_17 : decode cX10_coinsFor 17 = .ok (.invokestatic 183, 3) := by decide +kernel
theorem dX10_coinsFor_20 : decode cX10_coinsFor 20 = .ok (.ifCond .ne 9, 3) := by decide +kernel
theorem dX10_coinsFor_23 : decode cX10_coinsFor 23 = .ok (.aload_n 0, 1) := by decide +kernel
theorem dX10_coinsFor_24 : decode cX10_coinsFor 24 = .ok (.iconst 2, 1) := by decide +kernel
theorem dX10_coinsFor_25 : decode cX10_coinsFor 25 = .ok (.invokevirtual 72, 3) := by decide +kernel
theorem dX10_coinsFor_28 : decode cX10_coinsFor 28 = .ok (.ireturn, 1) := by decide +kernel
theorem dX10_coinsFor_29 : decode cX10_coinsFor 29 = .ok (.aload_n 0, 1) := by decide +kernel
theorem dX10_coinsFor_30 : decode cX10_coinsFor 30 = .ok (.aload_n 0, 1) := by decide +kernel
theorem dX10_coinsFor_31 : decode cX10_coinsFor 31 = .ok (.getfield 33, 3) := by decide +kernel
theorem dX10_coinsFor_34 : decode cX10_coinsFor 34 = .ok (.aload_n 0, 1) := by decide +kernel
theorem dX10_coinsFor_35 : decode cX10_coinsFor 35 = .ok (.getfield 54, 3) := by decide +kernel
theorem dX10_coinsFor_38 : decode cX10_coinsFor 38 = .ok (.aload_n 0, 1) := by decide +kernel
theorem dX10_coinsFor_39 : decode cX10_coinsFor 39 = .ok (.getfield 19, 3) := by decide +kernel
theorem dX10_coinsFor_42 : decode cX10_coinsFor 42 = .ok (.iload_n 1, 1) := by decide +kernel
theorem dX10_coinsFor_43 : decode cX10_coinsFor 43 = .ok (.invokevirtual 241, 3) := by decide +kernel
theorem dX10_coinsFor_46 : decode cX10_coinsFor 46 = .ok (.invokevirtual 105, 3) := by decide +kernel
theorem dX10_coinsFor_49 : decode cX10_coinsFor 49 = .ok (.ireturn, 1) := by decide +kernel
theorem dX10_ring_0 : decode cX10_ring 0 = .ok (.aload_n 0, 1) := by decide +kernel
theorem dX10_ring_1 : decode cX10_ring 1 = .ok (.iload_n 1, 1) := by decide +kernel
theorem dX10_ring_2 : decode cX10_ring 2 = .ok (.invokevirtual 111, 3) := by decide +kernel
theorem dX10_ring_5 : decode cX10_ring 5 = .ok (.ifCond .eq 26, 3) := by decide +kernel
theorem dX10_ring_8 : decode cX10_ring 8 = .ok (.aload_n 0, 1) := by decide +kernel
theorem dX10_ring_9 : decode cX10_ring 9 = .ok (.aload_n 0, 1) := by decide +kernel
theorem dX10_ring_10 : decode cX10_ring 10 = .ok (.getfield 40, 3) := by decide +kernel
theorem dX10_ring_13 : decode cX10_ring 13 = .ok (.aload_n 0, 1) := by decide +kernel
theorem dX10_ring_14 : decode cX10_ring 14 = .ok (.getfield 54, 3) := by decide +kernel
theorem dX10_ring_17 : decode cX10_ring 17 = .ok (.aload_n 0, 1) := by decide +kernel
theorem dX10_ring_18 : decode cX10_ring 18 = .ok (.getfield 19, 3) := by decide +kernel
theorem dX10_ring_21 : decode cX10_ring 21 = .ok (.iload_n 1, 1) := by decide +kernel
theorem dX10_ring_22 : decode cX10_ring 22 = .ok (.invokevirtual 244, 3) := by decide +kernel
theorem dX10_ring_25 : decode cX10_ring 25 = .ok (.invokevirtual 105, 3) := by decide +kernel
theorem dX10_ring_28 : decode cX10_ring 28 = .ok (.goto 8, 3) := by decide +kernel
theorem dX10_ring_31 : decode cX10_ring 31 = .ok (.aload_n 0, 1) := by decide +kernel
theorem dX10_ring_32 : decode cX10_ring 32 = .ok (.iconst 1, 1) := by decide +kernel
theorem dX10_ring_33 : decode cX10_ring 33 = .ok (.invokevirtual 72, 3) := by decide +kernel
theorem dX10_ring_36 : decode cX10_ring 36 = .ok (.ireturn, 1) := by decide +kernel
theorem dX10_ringAt_0 : decode cX10_ringAt 0 = .ok (.aload_n 0, 1) := by decide +kernel
theorem dX10_ringAt_1 : decode cX10_ringAt 1 = .ok (.iload_n 1, 1) := by decide +kernel
theorem dX10_ringAt_2 : decode cX10_ringAt 2 = .ok (.invokevirtual 111, 3) := by decide +kernel
theorem dX10_ringAt_5 : decode cX10_ringAt 5 = .ok (.ifCond .ne 9, 3) := by decide +kernel
theorem dX10_ringAt_8 : decode cX10_ringAt 8 = .ok (.aload_n 0, 1) := by decide +kernel
theorem dX10_ringAt_9 : decode cX10_ringAt 9 = .ok (.iconst 1, 1) := by decide +kernel
theorem dX10_ringAt_10 : decode cX10_ringAt 10 = .ok (.invokevirtual 72, 3) := by decide +kernel
theorem dX10_ringAt_13 : decode cX10_ringAt 13 = .ok (.ireturn, 1) := by decide +kernel
theorem dX10_ringAt_14 : decode cX10_ringAt 14 = .ok (.aload_n 0, 1) := by decide +kernel
theorem dX10_ringAt_15 : decode cX10_ringAt 15 = .ok (.getfield 40, 3) := by decide +kernel
theorem dX10_ringAt_18 : decode cX10_ringAt 18 = .ok (.aload_n 0, 1) := by decide +kernel
theorem dX10_ringAt_19 : decode cX10_ringAt 19 = .ok (.getfield 54, 3) := by decide +kernel
theorem dX10_ringAt_22 : decode cX10_ringAt 22 = .ok (.aload_n 0, 1) := by decide +kernel
theorem dX10_ringAt_23 : decode cX10_ringAt 23 = .ok (.getfield 19, 3) := by decide +kernel
theorem dX10_ringAt_26 : decode cX10_ringAt 26 = .ok (.iload_n 1, 1) := by decide +kernel
theorem dX10_ringAt_27 : decode cX10_ringAt 27 = .ok (.iload_n 2, 1) := by decide +kernel
theorem dX10_ringAt_28 : decode cX10_ringAt 28 = .ok (.invokevirtual 247, 3) := by decide +kernel
theorem dX10_ringAt_31 : decode cX10_ringAt 31 = .ok (.istore_n 3, 1) := by decide +kernel
theorem dX10_ringAt_32 : decode cX10_ringAt 32 = .ok (.iload_n 3, 1) := by decide +kernel
theorem dX10_ringAt_33 : decode cX10_ringAt 33 = .ok (.ifCond .ge 11, 3) := by decide +kernel
theorem dX10_ringAt_36 : decode cX10_ringAt 36 = .ok (.aload_n 0, 1) := by decide +kernel
theorem dX10_ringAt_37 : decode cX10_ringAt 37 = .ok (.iconst 1, 1) := by decide +kernel
theorem dX10_ringAt_38 : decode cX10_ringAt 38 = .ok (.invokevirtual 72, 3) := by decide +kernel
theorem dX10_ringAt_41 : decode cX10_ringAt 41 = .ok (.goto 8, 3) := by decide +kernel
theorem dX10_ringAt_44 : decode cX10_ringAt 44 = .ok (.aload_n 0, 1) := by decide +kernel
theorem dX10_ringAt_45 : decode cX10_ringAt 45 = .ok (.iload_n 3, 1) := by decide +kernel
theorem dX10_ringAt_46 : decode cX10_ringAt 46 = .ok (.invokevirtual 105, 3) := by decide +kernel
theorem dX10_ringAt_49 : decode cX10_ringAt 49 = .ok (.ireturn, 1) := by decide +kernel
theorem dX10_payable_0 : decode cX10_payable 0 = .ok (.aload_n 0, 1) := by decide +kernel
theorem dX10_payable_1 : decode cX10_payable 1 = .ok (.iload_n 1, 1) := by decide +kernel
theorem dX10_payable_2 : decode cX10_payable 2 = .ok (.invokevirtual 111, 3) := by decide +kernel
theorem dX10_payable_5 : decode cX10_payable 5 = .ok (.ifCond .ne 9, 3) := by decide +kernel
theorem dX10_payable_8 : decode cX10_payable 8 = .ok (.aload_n 0, 1) := by decide +kernel
theorem dX10_payable_9 : decode cX10_payable 9 = .ok (.iconst 1, 1) := by decide +kernel
theorem dX10_payable_10 : decode cX10_payable 10 = .ok (.invokevirtual 72, 3) := by decide +kernel
theorem dX10_payable_13 : decode cX10_payable 13 = .ok (.ireturn, 1) := by decide +kernel
theorem dX10_payable_14 : decode cX10_payable 14 = .ok (.aload_n 0, 1) := by decide +kernel
theorem dX10_payable_15 : decode cX10_payable 15 = .ok (.aload_n 0, 1) := by decide +kernel
theorem dX10_payable_16 : decode cX10_payable 16 = .ok (.getfield 33, 3) := by decide +kernel
theorem dX10_payable_19 : decode cX10_payable 19 = .ok (.aload_n 0, 1) := by decide +kernel
theorem dX10_payable_20 : decode cX10_payable 20 = .ok (.getfield 54, 3) := by decide +kernel
theorem dX10_payable_23 : decode cX10_payable 23 = .ok (.aload_n 0, 1) := by decide +kernel
theorem dX10_payable_24 : decode cX10_payable 24 = .ok (.getfield 19, 3) := by decide +kernel
theorem dX10_payable_27 : decode cX10_payable 27 = .ok (.aload_n 0, 1) := by decide +kernel
theorem dX10_payable_28 : decode cX10_payable 28 = .ok (.getfield 19, 3) := by decide +kernel
theorem dX10_payable_31 : decode cX10_payable 31 = .ok (.aload_n 0, 1) := by decide +kernel
theorem dX10_payable_32 : decode cX10_payable 32 = .ok (.getfield 54, 3) := by decide +kernel
theorem dX10_payable_35 : decode cX10_payable 35 = .ok (.iload_n 1, 1) := by decide +kernel
theorem dX10_payable_36 : decode cX10_payable 36 = .ok (.invokevirtual 130, 3) := by decide +kernel
theorem dX10_payable_39 : decode cX10_payable 39 = .ok (.aload_n 0, 1) := by decide +kernel
theorem dX10_payable_40 : decode cX10_payable 40 = .ok (.getfield 19, 3) := by decide +kernel
theorem dX10_payable_43 : decode cX10_payable 43 = .ok (.getfield 117, 3) := by decide +kernel
theorem dX10_payable_46 : decode cX10_payable 46 = .ok (.iload_n 1, 1) := by decide +kernel
theorem dX10_payable_47 : decode cX10_payable 47 = .ok (.iaload, 1) := by decide +kernel
theorem dX10_payable_48 : decode cX10_payable 48 = .ok (.invokevirtual 237, 3) := by decide +kernel
theorem dX10_payable_51 : decode cX10_payable 51 = .ok (.invokevirtual 105, 3) := by decide +kernel
theorem dX10_payable_54 : decode cX10_payable 54 = .ok (.ireturn, 1) := by decide +kernel
theorem dX10_bestMeeting_0 : decode cX10_bestMeeting 0 = .ok (.aload_n 0, 1) := by decide +kernel
theorem dX10_bestMeeting_1 : decode cX10_bestMeeting 1 = .ok (.invokevirtual 169, 3) := by decide +kernel
theorem dX10_bestMeeting_4 : decode cX10_bestMeeting 4 = .ok (.ifCond .eq 25, 3) := by decide +kernel
theorem dX10_bestMeeting_7 : decode cX10_bestMeeting 7 = .ok (.aload_n 0, 1) := by decide +kernel
theorem dX10_bestMeeting_8 : decode cX10_bestMeeting 8 = .ok (.aload_n 0, 1) := by decide +kernel
theorem dX10_bestMeeting_9 : decode cX10_bestMeeting 9 = .ok (.getfield 33, 3) := by decide +kernel
theorem dX10_bestMeeting_12 : decode cX10_bestMeeting 12 = .ok (.aload_n 0, 1) := by decide +kernel
theorem dX10_bestMeeting_13 : decode cX10_bestMeeting 13 = .ok (.getfield 54, 3) := by decide +kernel
theorem dX10_bestMeeting_16 : decode cX10_bestMeeting 16 = .ok (.aload_n 0, 1) := by decide +kernel
theorem dX10_bestMeeting_17 : decode cX10_bestMeeting 17 = .ok (.getfield 19, 3) := by decide +kernel
theorem dX10_bestMeeting_20 : decode cX10_bestMeeting 20 = .ok (.invokevirtual 250, 3) := by decide +kernel
theorem dX10_bestMeeting_23 : decode cX10_bestMeeting 23 = .ok (.invokevirtual 105, 3) := by decide +kernel
theorem dX10_bestMeeting_26 : decode cX10_bestMeeting 26 = .ok (.goto 8, 3) := by decide +kernel
theorem dX10_bestMeeting_29 : decode cX10_bestMeeting 29 = .ok (.aload_n 0, 1) := by decide +kernel
theorem dX10_bestMeeting_30 : decode cX10_bestMeeting 30 = .ok (.iconst 1, 1) := by decide +kernel
theorem dX10_bestMeeting_31 : decode cX10_bestMeeting 31 = .ok (.invokevirtual 72, 3) := by decide +kernel
theorem dX10_bestMeeting_34 : decode cX10_bestMeeting 34 = .ok (.ireturn, 1) := by decide +kernel
theorem dX10_feud_0 : decode cX10_feud 0 = .ok (.aload_n 0, 1) := by decide +kernel
theorem dX10_feud_1 : decode cX10_feud 1 = .ok (.iload_n 1, 1) := by decide +kernel
theorem dX10_feud_2 : decode cX10_feud 2 = .ok (.iload_n 2, 1) := by decide +kernel
theorem dX10_feud_3 : decode cX10_feud 3 = .ok (.invokevirtual 161, 3) := by decide +kernel
theorem dX10_feud_6 : decode cX10_feud 6 = .ok (.ifCond .ne 9, 3) := by decide +kernel
theorem dX10_feud_9 : decode cX10_feud 9 = .ok (.aload_n 0, 1) := by decide +kernel
theorem dX10_feud_10 : decode cX10_feud 10 = .ok (.iconst 1, 1) := by decide +kernel
theorem dX10_feud_11 : decode cX10_feud 11 = .ok (.invokevirtual 72, 3) := by decide +kernel
theorem dX10_feud_14 : decode cX10_feud 14 = .ok (.ireturn, 1) := by decide +kernel
theorem dX10_feud_15 : decode cX10_feud 15 = .ok (.aload_n 0, 1) := by decide +kernel
theorem dX10_feud_16 : decode cX10_feud 16 = .ok (.aload_n 0, 1) := by decide +kernel
theorem dX10_feud_17 : decode cX10_feud 17 = .ok (.getfield 19, 3) := by decide +kernel
theorem dX10_feud_20 : decode cX10_feud 20 = .ok (.aload_n 0, 1) := by decide +kernel
theorem dX10_feud_21 : decode cX10_feud 21 = .ok (.getfield 54, 3) := by decide +kernel
theorem dX10_feud_24 : decode cX10_feud 24 = .ok (.iload_n 1, 1) := by decide +kernel
theorem dX10_feud_25 : decode cX10_feud 25 = .ok (.iload_n 2, 1) := by decide +kernel
theorem dX10_feud_26 : decode cX10_feud 26 = .ok (.invokevirtual 253, 3) := by decide +kernel
theorem dX10_feud_29 : decode cX10_feud 29 = .ok (.invokevirtual 105, 3) := by decide +kernel
theorem dX10_feud_32 : decode cX10_feud 32 = .ok (.ireturn, 1) := by decide +kernel
theorem dX10_quiet_0 : decode cX10_quiet 0 = .ok (.aload_n 0, 1) := by decide +kernel
theorem dX10_quiet_1 : decode cX10_quiet 1 = .ok (.iload_n 1, 1) := by decide +kernel
theorem dX10_quiet_2 : decode cX10_quiet 2 = .ok (.invokevirtual 111, 3) := by decide +kernel
theorem dX10_quiet_5 : decode cX10_quiet 5 = .ok (.ifCond .eq 24, 3) := by decide +kernel
theorem dX10_quiet_8 : decode cX10_quiet 8 = .ok (.aload_n 0, 1) := by decide +kernel
theorem dX10_quiet_9 : decode cX10_quiet 9 = .ok (.aload_n 0, 1) := by decide +kernel
theorem dX10_quiet_10 : decode cX10_quiet 10 = .ok (.getfield 19, 3) := by decide +kernel
theorem dX10_quiet_13 : decode cX10_quiet 13 = .ok (.aload_n 0, 1) := by decide +kernel
theorem dX10_quiet_14 : decode cX10_quiet 14 = .ok (.getfield 54, 3) := by decide +kernel
theorem dX10_quiet_17 : decode cX10_quiet 17 = .ok (.iload_n 1, 1) := by decide +kernel
theorem dX10_quiet_18 : decode cX10_quiet 18 = .ok (.bipush 60, 2) := by decide +kernel
theorem dX10_quiet_20 : decode cX10_quiet 20 = .ok (.invokevirtual 256, 3) := by decide +kernel
theorem dX10_quiet_23 : decode cX10_quiet 23 = .ok (.invokevirtual 105, 3) := by decide +kernel
theorem dX10_quiet_26 : decode cX10_quiet 26 = .ok (.goto 8, 3) := by decide +kernel
theorem dX10_quiet_29 : decode cX10_quiet 29 = .ok (.aload_n 0, 1) := by decide +kernel
theorem dX10_quiet_30 : decode cX10_quiet 30 = .ok (.iconst 1, 1) := by decide +kernel
theorem dX10_quiet_31 : decode cX10_quiet 31 = .ok (.invokevirtual 72, 3) := by decide +kernel
theorem dX10_quiet_34 : decode cX10_quiet 34 = .ok (.ireturn, 1) := by decide +kernel
theorem dX10_fits_0 : decode cX10_fits 0 = .ok (.aload_n 0, 1) := by decide +kernel
theorem dX10_fits_1 : decode cX10_fits 1 = .ok (.invokevirtual 169, 3) := by decide +kernel
theorem dX10_fits_4 : decode cX10_fits 4 = .ok (.ifCond .eq 20, 3) := by decide +kernel
theorem dX10_fits_7 : decode cX10_fits 7 = .ok (.aload_n 0, 1) := by decide +kernel
theorem dX10_fits_8 : decode cX10_fits 8 = .ok (.aload_n 0, 1) := by decide +kernel
theorem dX10_fits_9 : decode cX10_fits 9 = .ok (.getfield 54, 3) := by decide +kernel
theorem dX10_fits_12 : decode cX10_fits 12 = .ok (.getfield 259, 3) := by decide +kernel
theorem dX10_fits_15 : decode cX10_fits 15 = .ok (.getfield 263, 3) := by decide +kernel
theorem dX10_fits_18 : decode cX10_fits 18 = .ok (.invokevirtual 105, 3) := by decide +kernel
theorem dX10_fits_21 : decode cX10_fits 21 = .ok (.goto 8, 3) := by decide +kernel
theorem dX10_fits_24 : decode cX10_fits 24 = .ok (.aload_n 0, 1) := by decide +kernel
theorem dX10_fits_25 : decode cX10_fits 25 = .ok (.iconst 1, 1) := by decide +kernel
theorem dX10_fits_26 : decode cX10_fits 26 = .ok (.invokevirtual 72, 3) := by decide +kernel
theorem dX10_fits_29 : decode cX10_fits 29 = .ok (.ireturn, 1) := by decide +kernel
theorem dX10_fitAt_0 : decode cX10_fitAt 0 = .ok (.aload_n 0, 1) := by decide +kernel
theorem dX10_fitAt_1 : decode cX10_fitAt 1 = .ok (.iload_n 2, 1) := by decide +kernel
theorem dX10_fitAt_2 : decode cX10_fitAt 2 = .ok (.invokevirtual 268, 3) := by decide +kernel
theorem dX10_fitAt_5 : decode cX10_fitAt 5 = .ok (.ifCond .eq 21, 3) := by decide +kernel
theorem dX10_fitAt_8 : decode cX10_fitAt 8 = .ok (.iload_n 1, 1) := by decide +kernel
theorem dX10_fitAt_9 : decode cX10_fitAt 9 = .ok (.ifCond .lt 17, 3) := by decide +kernel
theorem dX10_fitAt_12 : decode cX10_fitAt 12 = .ok (.iload_n 1, 1) := by decide +kernel
theorem dX10_fitAt_13 : decode cX10_fitAt 13 = .ok (.aload_n 0, 1) := by decide +kernel
theorem dX10_fitAt_14 : decode cX10_fitAt 14 = .ok (.getfield 54, 3) := by decide +kernel
theorem dX10_fitAt_17 : decode cX10_fitAt 17 = .ok (.getfield 259, 3) := by decide +kernel
theorem dX10_fitAt_20 : decode cX10_fitAt 20 = .ok (.getfield 263, 3) := by decide +kernel
theorem dX10_fitAt_23 : decode cX10_fitAt 23 = .ok (.if_icmp .lt 9, 3) := by decide +kernel
theorem dX10_fitAt_26 : decode cX10_fitAt 26 = .ok (.aload_n 0, 1) := by decide +kernel
theorem dX10_fitAt_27 : decode cX10_fitAt 27 = .ok (.iconst 1, 1) := by decide +kernel
theorem dX10_fitAt_28 : decode cX10_fitAt 28 = .ok (.invokevirtual 72, 3) := by decide +kernel
theorem dX10_fitAt_31 : decode cX10_fitAt 31 = .ok (.ireturn, 1) := by decide +kernel
theorem dX10_fitAt_32 : decode cX10_fitAt 32 = .ok (.aload_n 0, 1) := by decide +kernel
theorem dX10_fitAt_33 : decode cX10_fitAt 33 = .ok (.aload_n 0, 1) := by decide +kernel
theorem dX10_fitAt_34 : decode cX10_fitAt 34 = .ok (.getfield 54, 3) := by decide +kernel
theorem dX10_fitAt_37 : decode cX10_fitAt 37 = .ok (.getfield 259, 3) := by decide +kernel
theorem dX10_fitAt_40 : decode cX10_fitAt 40 = .ok (.aload_n 0, 1) := by decide +kernel
theorem dX10_fitAt_41 : decode cX10_fitAt 41 = .ok (.getfield 54, 3) := by decide +kernel
theorem dX10_fitAt_44 : decode cX10_fitAt 44 = .ok (.getfield 259, 3) := by decide +kernel
theorem dX10_fitAt_47 : decode cX10_fitAt 47 = .ok (.getfield 271, 3) := by decide +kernel
theorem dX10_fitAt_50 : decode cX10_fitAt 50 = .ok (.iload_n 1, 1) := by decide +kernel
theorem dX10_fitAt_51 : decode cX10_fitAt 51 = .ok (.iaload, 1) := by decide +kernel
theorem dX10_fitAt_52 : decode cX10_fitAt 52 = .ok (.iload_n 2, 1) := by decide +kernel
theorem dX10_fitAt_53 : decode cX10_fitAt 53 = .ok (.invokevirtual 274, 3) := by decide +kernel
theorem dX10_fitAt_56 : decode cX10_fitAt 56 = .ok (.invokevirtual 105, 3) := by decide +kernel
theorem dX10_fitAt_59 : decode cX10_fitAt 59 = .ok (.ireturn, 1) := by decide +kernel
theorem dX10_could_0 : decode cX10_could 0 = .ok (.aload_n 0, 1) := by decide +kernel
theorem dX10_could_1 : decode cX10_could 1 = .ok (.iload_n 1, 1) := by decide +kernel
theorem dX10_could_2 : decode cX10_could 2 = .ok (.invokevirtual 268, 3) := by decide +kernel
theorem dX10_could_5 : decode cX10_could 5 = .ok (.ifCond .eq 21, 3) := by decide +kernel
theorem dX10_could_8 : decode cX10_could 8 = .ok (.aload_n 0, 1) := by decide +kernel
theorem dX10_could_9 : decode cX10_could 9 = .ok (.aload_n 0, 1) := by decide +kernel
theorem dX10_could_10 : decode cX10_could 10 = .ok (.getfield 54, 3) := by decide +kernel
theorem dX10_could_13 : decode cX10_could 13 = .ok (.getfield 259, 3) := by decide +kernel
theorem dX10_could_16 : decode cX10_could 16 = .ok (.iload_n 1, 1) := by decide +kernel
theorem dX10_could_17 : decode cX10_could 17 = .ok (.invokevirtual 277, 3) := by decide +kernel
theorem dX10_could_20 : decode cX10_could 20 = .ok (.invokevirtual 105, 3) := by decide +kernel
theorem dX10_could_23 : decode cX10_could 23 = .ok (.goto 8, 3) := by decide +kernel
theorem dX10_could_26 : decode cX10_could 26 = .ok (.aload_n 0, 1) := by decide +kernel
theorem dX10_could_27 : decode cX10_could 27 = .ok (.iconst 1, 1) := by decide +kernel
theorem dX10_could_28 : decode cX10_could 28 = .ok (.invokevirtual 72, 3) := by decide +kernel
theorem dX10_could_31 : decode cX10_could 31 = .ok (.ireturn, 1) := by decide +kernel
theorem dX10_surely_0 : decode cX10_surely 0 = .ok (.aload_n 0, 1) := by decide +kernel
theorem dX10_surely_1 : decode cX10_surely 1 = .ok (.iload_n 1, 1) := by decide +kernel
theorem dX10_surely_2 : decode cX10_surely 2 = .ok (.invokevirtual 268, 3) := by decide +kernel
theorem dX10_surely_5 : decode cX10_surely 5 = .ok (.ifCond .eq 21, 3) := by decide +kernel
theorem dX10_surely_8 : decode cX10_surely 8 = .ok (.aload_n 0, 1) := by decide +kernel
theorem dX10_surely_9 : decode cX10_surely 9 = .ok (.aload_n 0, 1) := by decide +kernel
theorem dX10_surely_10 : decode cX10_surely 10 = .ok (.getfield 54, 3) := by decide +kernel
theorem dX10_surely_13 : decode cX10_surely 13 = .ok (.getfield 259, 3) := by decide +kernel
theorem dX10_surely_16 : decode cX10_surely 16 = .ok (.iload_n 1, 1) := by decide +kernel
theorem dX10_surely_17 : decode cX10_surely 17 = .ok (.invokevirtual 280, 3) := by decide +kernel
theorem dX10_surely_20 : decode cX10_surely 20 = .ok (.invokevirtual 105, 3) := by decide +kernel
theorem dX10_surely_23 : decode cX10_surely 23 = .ok (.goto 8, 3) := by decide +kernel
theorem dX10_surely_26 : decode cX10_surely 26 = .ok (.aload_n 0, 1) := by decide +kernel
theorem dX10_surely_27 : decode cX10_surely 27 = .ok (.iconst 1, 1) := by decide +kernel
theorem dX10_surely_28 : decode cX10_surely 28 = .ok (.invokevirtual 72, 3) := by decide +kernel
theorem dX10_surely_31 : decode cX10_surely 31 = .ok (.ireturn, 1) := by decide +kernel
theorem dX10_look_0 : decode cX10_look 0 = .ok (.aload_n 0, 1) := by decide +kernel
theorem dX10_look_1 : decode cX10_look 1 = .ok (.invokevirtual 169, 3) := by decide +kernel
theorem dX10_look_4 : decode cX10_look 4 = .ok (.ifCond .eq 24, 3) := by decide +kernel
theorem dX10_look_7 : decode cX10_look 7 = .ok (.aload_n 0, 1) := by decide +kernel
theorem dX10_look_8 : decode cX10_look 8 = .ok (.aload_n 0, 1) := by decide +kernel
theorem dX10_look_9 : decode cX10_look 9 = .ok (.getfield 54, 3) := by decide +kernel
theorem dX10_look_12 : decode cX10_look 12 = .ok (.getfield 259, 3) := by decide +kernel
theorem dX10_look_15 : decode cX10_look 15 = .ok (.aload_n 0, 1) := by decide +kernel
theorem dX10_look_16 : decode cX10_look 16 = .ok (.getfield 54, 3) := by decide +kernel
theorem dX10_look_19 : decode cX10_look 19 = .ok (.invokevirtual 283, 3) := by decide +kernel
theorem dX10_look_22 : decode cX10_look 22 = .ok (.invokevirtual 105, 3) := by decide +kernel
theorem dX10_look_25 : decode cX10_look 25 = .ok (.goto 8, 3) := by decide +kernel
theorem dX10_look_28 : decode cX10_look 28 = .ok (.aload_n 0, 1) := by decide +kernel
theorem dX10_look_29 : decode cX10_look 29 = .ok (.iconst 1, 1) := by decide +kernel
theorem dX10_look_30 : decode cX10_look 30 = .ok (.invokevirtual 72, 3) := by decide +kernel
theorem dX10_look_33 : decode cX10_look 33 = .ok (.ireturn, 1) := by decide +kernel
theorem dX10_lookLeaves_0 : decode cX10_lookLeaves 0 = .ok (.aload_n 0, 1) := by decide +kernel
theorem dX10_lookLeaves_1 : decode cX10_lookLeaves 1 = .ok (.invokevirtual 169, 3) := by decide +kernel
theorem dX10_lookLeaves_4 : decode cX10_lookLeaves 4 = .ok (.ifCond .eq 24, 3) := by decide +kernel
theorem dX10_lookLeaves_7 : decode cX10_lookLeaves 7 = .ok (.aload_n 0, 1) := by decide +kernel
theorem dX10_lookLeaves_8 : decode cX10_lookLeaves 8 = .ok (.aload_n 0, 1) := by decide +kernel
theorem dX10_lookLeaves_9 : decode cX10_lookLeaves 9 = .ok (.getfield 54, 3) := by decide +kernel
theorem dX10_lookLeaves_12 : decode cX10_lookLeaves 12 = .ok (.getfield 259, 3) := by decide +kernel
theorem dX10_lookLeaves_15 : decode cX10_lookLeaves 15 = .ok (.aload_n 0, 1) := by decide +kernel
theorem dX10_lookLeaves_16 : decode cX10_lookLeaves 16 = .ok (.getfield 54, 3) := by decide +kernel
theorem dX10_lookLeaves_19 : decode cX10_lookLeaves 19 = .ok (.invokevirtual 286, 3) := by decide +kernel
theorem dX10_lookLeaves_22 : decode cX10_lookLeaves 22 = .ok (.invokevirtual 105, 3) := by decide +kernel
theorem dX10_lookLeaves_25 : decode cX10_lookLeaves 25 = .ok (.goto 8, 3) := by decide +kernel
theorem dX10_lookLeaves_28 : decode cX10_lookLeaves 28 = .ok (.aload_n 0, 1) := by decide +kernel
theorem dX10_lookLeaves_29 : decode cX10_lookLeaves 29 = .ok (.iconst 1, 1) := by decide +kernel
theorem dX10_lookLeaves_30 : decode cX10_lookLeaves 30 = .ok (.invokevirtual 72, 3) := by decide +kernel
theorem dX10_lookLeaves_33 : decode cX10_lookLeaves 33 = .ok (.ireturn, 1) := by decide +kernel
theorem dX10_judge_0 : decode cX10_judge 0 = .ok (.aload_n 0, 1) := by decide +kernel
theorem dX10_judge_1 : decode cX10_judge 1 = .ok (.invokevirtual 169, 3) := by decide +kernel
theorem dX10_judge_4 : decode cX10_judge 4 = .ok (.ifCond .eq 20, 3) := by decide +kernel
theorem dX10_judge_7 : decode cX10_judge 7 = .ok (.aload_n 0, 1) := by decide +kernel
theorem dX10_judge_8 : decode cX10_judge 8 = .ok (.aload_n 0, 1) := by decide +kernel
theorem dX10_judge_9 : decode cX10_judge 9 = .ok (.getfield 54, 3) := by decide +kernel
theorem dX10_judge_12 : decode cX10_judge 12 = .ok (.getfield 259, 3) := by decide +kernel
theorem dX10_judge_15 : decode cX10_judge 15 = .ok (.invokevirtual 289, 3) := by decide +kernel
theorem dX10_judge_18 : decode cX10_judge 18 = .ok (.invokevirtual 105, 3) := by decide +kernel
theorem dX10_judge_21 : decode cX10_judge 21 = .ok (.goto 8, 3) := by decide +kernel
theorem dX10_judge_24 : decode cX10_judge 24 = .ok (.aload_n 0, 1) := by decide +kernel
theorem dX10_judge_25 : decode cX10_judge 25 = .ok (.iconst 1, 1) := by decide +kernel
theorem dX10_judge_26 : decode cX10_judge 26 = .ok (.invokevirtual 72, 3) := by decide +kernel
theorem dX10_judge_29 : decode cX10_judge 29 = .ok (.ireturn, 1) := by decide +kernel
theorem dX10_sends_0 : decode cX10_sends 0 = .ok (.aload_n 0, 1) := by decide +kernel
theorem dX10_sends_1 : decode cX10_sends 1 = .ok (.invokevirtual 169, 3) := by decide +kernel
theorem dX10_sends_4 : decode cX10_sends 4 = .ok (.ifCond .ne 9, 3) := by decide +kernel
theorem dX10_sends_7 : decode cX10_sends 7 = .ok (.aload_n 0, 1) := by decide +kernel
theorem dX10_sends_8 : decode cX10_sends 8 = .ok (.iconst 1, 1) := by decide +kernel
theorem dX10_sends_9 : decode cX10_sends 9 = .ok (.invokevirtual 72, 3) := by decide +kernel
theorem dX10_sends_12 : decode cX10_sends 12 = .ok (.ireturn, 1) := by decide +kernel
theorem dX10_sends_13 : decode cX10_sends 13 = .ok (.iload_n 1, 1) := by decide +kernel
theorem dX10_sends_14 : decode cX10_sends 14 = .ok (.iconst 0, 1) := by decide +kernel
theorem dX10_sends_15 : decode cX10_sends 15 = .ok (.bipush 9, 2) := by decide +kernel
theorem dX10_sends_17 : decode cX10_sends 17 = .ok (.invokestatic 183, 3) := by decide +kernel
theorem dX10_sends_20 : decode cX10_sends 20 = .ok (.ifCond .ne 9, 3) := by decide +kernel
theorem dX10_sends_23 : decode cX10_sends 23 = .ok (.aload_n 0, 1) := by decide +kernel
theorem dX10_sends_24 : decode cX10_sends 24 = .ok (.iconst 2, 1) := by decide +kernel
theorem dX10_sends_25 : decode cX10_sends 25 = .ok (.invokevirtual 72, 3) := by decide +kernel
theorem dX10_sends_28 : decode cX10_sends 28 = .ok (.ireturn, 1) := by decide +kernel
theorem dX10_sends_29 : decode cX10_sends 29 = .ok (.aload_n 0, 1) := by decide +kernel
theorem dX10_sends_30 : decode cX10_sends 30 = .ok (.iload 4, 2) := by decide +kernel
theorem dX10_sends_32 : decode cX10_sends 32 = .ok (.ifCond .eq 12, 3) := by decide +kernel
theorem dX10_sends_35 : decode cX10_sends 35 = .ok (.iload_n 1, 1) := by decide +kernel
theorem dX10_sends_36 : decode cX10_sends 36 = .ok (.iload_n 3, 1) := by decide +kernel
theorem dX10_sends_37 : decode cX10_sends 37 = .ok (.iload_n 2, 1) := by decide +kernel
theorem dX10_sends_38 : decode cX10_sends 38 = .ok (.invokestatic 293, 3) := by decide +kernel
theorem dX10_sends_41 : decode cX10_sends 41 = .ok (.goto 9, 3) := by decide +kernel
theorem dX10_sends_44 : decode cX10_sends 44 = .ok (.iload_n 1, 1) := by decide +kernel
theorem dX10_sends_45 : decode cX10_sends 45 = .ok (.iload_n 2, 1) := by decide +kernel
theorem dX10_sends_46 : decode cX10_sends 46 = .ok (.iload_n 3, 1) := by decide +kernel
theorem dX10_sends_47 : decode cX10_sends 47 = .ok (.invokestatic 293, 3) := by decide +kernel
theorem dX10_sends_50 : decode cX10_sends 50 = .ok (.invokevirtual 105, 3) := by decide +kernel
theorem dX10_sends_53 : decode cX10_sends 53 = .ok (.ireturn, 1) := by decide +kernel
theorem dX10_rests_0 : decode cX10_rests 0 = .ok (.aload_n 0, 1) := by decide +kernel
theorem dX10_rests_1 : decode cX10_rests 1 = .ok (.invokevirtual 169, 3) := by decide +kernel
theorem dX10_rests_4 : decode cX10_rests 4 = .ok (.ifCond .ne 9, 3) := by decide +kernel
theorem dX10_rests_7 : decode cX10_rests 7 = .ok (.aload_n 0, 1) := by decide +kernel
theorem dX10_rests_8 : decode cX10_rests 8 = .ok (.iconst 1, 1) := by decide +kernel
theorem dX10_rests_9 : decode cX10_rests 9 = .ok (.invokevirtual 72, 3) := by decide +kernel
theorem dX10_rests_12 : decode cX10_rests 12 = .ok (.ireturn, 1) := by decide +kernel
theorem dX10_rests_13 : decode cX10_rests 13 = .ok (.iload_n 1, 1) := by decide +kernel
theorem dX10_rests_14 : decode cX10_rests 14 = .ok (.iconst 0, 1) := by decide +kernel
theorem dX10_rests_15 : decode cX10_rests 15 = .ok (.bipush 9, 2) := by decide +kernel
theorem dX10_rests_17 : decode cX10_rests 17 = .ok (.invokestatic 183, 3) := by decide +kernel
theorem dX10_rests_20 : decode cX10_rests 20 = .ok (.ifCond .ne 9, 3) := by decide +kernel
theorem dX10_rests_23 : decode cX10_rests 23 = .ok (.aload_n 0, 1) := by decide +kernel
theorem dX10_rests_24 : decode cX10_rests 24 = .ok (.iconst 2, 1) := by decide +kernel
theorem dX10_rests_25 : decode cX10_rests 25 = .ok (.invokevirtual 72, 3) := by decide +kernel
theorem dX10_rests_28 : decode cX10_rests 28 = .ok (.ireturn, 1) := by decide +kernel
theorem dX10_rests_29 : decode cX10_rests 29 = .ok (.iconst 0, 1) := by decide +kernel
theorem dX10_rests_30 : decode cX10_rests 30 = .ok (.istore_n 2, 1) := by decide +kernel
theorem dX10_rests_31 : decode cX10_rests 31 = .ok (.iconst 0, 1) := by decide +kernel
theorem dX10_rests_32 : decode cX10_rests 32 = .ok (.istore_n 3, 1) := by decide +kernel
theorem dX10_rests_33 : decode cX10_rests 33 = .ok (.iload_n 3, 1) := by decide +kernel
theorem dX10_rests_34 : decode cX10_rests 34 = .ok (.iconst 4, 1) := by decide +kernel
theorem dX10_rests_35 : decode cX10_rests 35 = .ok (.if_icmp .ge 20, 3) := by decide +kernel
theorem dX10_rests_38 : decode cX10_rests 38 = .ok (.iload_n 1, 1) := by decide +kernel
theorem dX10_rests_39 : decode cX10_rests 39 = .ok (.iload_n 3, 1) := by decide +kernel
theorem dX10_rests_40 : decode cX10_rests 40 = .ok (.invokestatic 297, 3) := by decide +kernel
theorem dX10_rests_43 : decode cX10_rests 43 = .ok (.ifCond .eq 6, 3) := by decide +kernel
theorem dX10_rests_46 : decode cX10_rests 46 = .ok (.iinc 2 1, 3) := by decide +kernel
theorem dX10_rests_49 : decode cX10_rests 49 = .ok (.iinc 3 1, 3) := by decide +kernel
theorem dX10_rests_52 : decode cX10_rests 52 = .ok (.goto (-19), 3) := by decide +kernel
theorem dX10_rests_55 : decode cX10_rests 55 = .ok (.aload_n 0, 1) := by decide +kernel
theorem dX10_rests_56 : decode cX10_rests 56 = .ok (.iload_n 2, 1) := by decide +kernel
theorem dX10_rests_57 : decode cX10_rests 57 = .ok (.invokevirtual 105, 3) := by decide +kernel
theorem dX10_rests_60 : decode cX10_rests 60 = .ok (.ireturn, 1) := by decide +kernel
theorem dX10_rest_0 : decode cX10_rest 0 = .ok (.aload_n 0, 1) := by decide +kernel
theorem dX10_rest_1 : decode cX10_rest 1 = .ok (.invokevirtual 169, 3) := by decide +kernel
theorem dX10_rest_4 : decode cX10_rest 4 = .ok (.ifCond .ne 9, 3) := by decide +kernel
theorem dX10_rest_7 : decode cX10_rest 7 = .ok (.aload_n 0, 1) := by decide +kernel
theorem dX10_rest_8 : decode cX10_rest 8 = .ok (.iconst 1, 1) := by decide +kernel
theorem dX10_rest_9 : decode cX10_rest 9 = .ok (.invokevirtual 72, 3) := by decide +kernel
theorem dX10_rest_12 : decode cX10_rest 12 = .ok (.ireturn, 1) := by decide +kernel
theorem dX10_rest_13 : decode cX10_rest 13 = .ok (.iload_n 1, 1) := by decide +kernel
theorem dX10_rest_14 : decode cX10_rest 14 = .ok (.iconst 0, 1) := by decide +kernel
theorem dX10_rest_15 : decode cX10_rest 15 = .ok (.bipush 9, 2) := by decide +kernel
theorem dX10_rest_17 : decode cX10_rest 17 = .ok (.invokestatic 183, 3) := by decide +kernel
theorem dX10_rest_20 : decode cX10_rest 20 = .ok (.ifCond .ne 9, 3) := by decide +kernel
theorem dX10_rest_23 : decode cX10_rest 23 = .ok (.aload_n 0, 1) := by decide +kernel
theorem dX10_rest_24 : decode cX10_rest 24 = .ok (.iconst 2, 1) := by decide +kernel
theorem dX10_rest_25 : decode cX10_rest 25 = .ok (.invokevirtual 72, 3) := by decide +kernel
theorem dX10_rest_28 : decode cX10_rest 28 = .ok (.ireturn, 1) := by decide +kernel
theorem dX10_rest_29 : decode cX10_rest 29 = .ok (.iconst 0, 1) := by decide +kernel
theorem dX10_rest_30 : decode cX10_rest 30 = .ok (.istore_n 2, 1) := by decide +kernel
theorem dX10_rest_31 : decode cX10_rest 31 = .ok (.iload_n 2, 1) := by decide +kernel
theorem dX10_rest_32 : decode cX10_rest 32 = .ok (.iconst 4, 1) := by decide +kernel
theorem dX10_rest_33 : decode cX10_rest 33 = .ok (.if_icmp .ge 48, 3) := by decide +kernel
theorem dX10_rest_36 : decode cX10_rest 36 = .ok (.iload_n 1, 1) := by decide +kernel
theorem dX10_rest_37 : decode cX10_rest 37 = .ok (.iload_n 2, 1) := by decide +kernel
theorem dX10_rest_38 : decode cX10_rest 38 = .ok (.invokestatic 297, 3) := by decide +kernel
theorem dX10_rest_41 : decode cX10_rest 41 = .ok (.ifCond .eq 34, 3) := by decide +kernel
theorem dX10_rest_44 : decode cX10_rest 44 = .ok (.aload_n 0, 1) := by decide +kernel
theorem dX10_rest_45 : decode cX10_rest 45 = .ok (.iload_n 2, 1) := by decide +kernel
theorem dX10_rest_46 : decode cX10_rest 46 = .ok (.invokestatic 300, 3) := by decide +kernel
theorem dX10_rest_49 : decode cX10_rest 49 = .ok (.ifCond .eq 8, 3) := by decide +kernel
theorem dX10_rest_52 : decode cX10_rest 52 = .ok (.bipush 10, 2) := by decide +kernel
theorem dX10_rest_54 : decode cX10_rest 54 = .ok (.goto 4, 3) := by decide +kernel
theorem dX10_rest_57 : decode cX10_rest 57 = .ok (.iconst 0, 1) := by decide +kernel
theorem dX10_rest_58 : decode cX10_rest 58 = .ok (.iload_n 2, 1) := by decide +kernel
theorem dX10_rest_59 : decode cX10_rest 59 = .ok (.invokestatic 303, 3) := by decide +kernel
theorem dX10_rest_62 : decode cX10_rest 62 = .ok (.ifCond .eq 7, 3) := by decide +kernel
theorem dX10_rest_65 : decode cX10_rest 65 = .ok (.iconst 1, 1) := by decide +kernel
theorem dX10_rest_66 : decode cX10_rest 66 = .ok (.goto 4, 3) := by decide +kernel
theorem dX10_rest_69 : decode cX10_rest 69 = .ok (.iconst 0, 1) := by decide +kernel
theorem dX10_rest_70 : decode cX10_rest 70 = .ok (.iadd, 1) := by decide +kernel
theorem dX10_rest_71 : decode cX10_rest 71 = .ok (.invokevirtual 105, 3) := by decide +kernel
theorem dX10_rest_74 : decode cX10_rest 74 = .ok (.ireturn, 1) := by decide +kernel
theorem dX10_rest_75 : decode cX10_rest 75 = .ok (.iinc 2 1, 3) := by decide +kernel
theorem dX10_rest_78 : decode cX10_rest 78 = .ok (.goto (-47), 3) := by decide +kernel
theorem dX10_rest_81 : decode cX10_rest 81 = .ok (.aload_n 0, 1) := by decide +kernel
theorem dX10_rest_82 : decode cX10_rest 82 = .ok (.bipush (-2), 2) := by decide +kernel
theorem dX10_rest_84 : decode cX10_rest 84 = .ok (.invokevirtual 105, 3) := by decide +kernel
theorem dX10_rest_87 : decode cX10_rest 87 = .ok (.ireturn, 1) := by decide +kernel
theorem dX10_safe_0 : decode cX10_safe 0 = .ok (.aload_n 0, 1) := by decide +kernel
theorem dX10_safe_1 : decode cX10_safe 1 = .ok (.iload_n 1, 1) := by decide +kernel
theorem dX10_safe_2 : decode cX10_safe 2 = .ok (.invokevirtual 134, 3) := by decide +kernel
theorem dX10_safe_5 : decode cX10_safe 5 = .ok (.ifCond .ne 10, 3) := by decide +kernel
theorem dX10_safe_8 : decode cX10_safe 8 = .ok (.aload_n 0, 1) := by decide +kernel
theorem dX10_safe_9 : decode cX10_safe 9 = .ok (.iconst 1, 1) := by decide +kernel
theorem dX10_safe_10 : decode cX10_safe 10 = .ok (.invokevirtual 72, 3) := by decide +kernel
theorem dX10_safe_13 : decode cX10_safe 13 = .ok (.i2l, 1) := by decide +kernel
theorem dX10_safe_14 : decode cX10_safe 14 = .ok (.lreturn, 1) := by decide +kernel
theorem dX10_safe_15 : decode cX10_safe 15 = .ok (.iload_n 2, 1) := by decide +kernel
theorem dX10_safe_16 : decode cX10_safe 16 = .ok (.iconst 0, 1) := by decide +kernel
theorem dX10_safe_17 : decode cX10_safe 17 = .ok (.bipush 8, 2) := by decide +kernel
theorem dX10_safe_19 : decode cX10_safe 19 = .ok (.invokestatic 183, 3) := by decide +kernel
theorem dX10_safe_22 : decode cX10_safe 22 = .ok (.ifCond .ne 10, 3) := by decide +kernel
theorem dX10_safe_25 : decode cX10_safe 25 = .ok (.aload_n 0, 1) := by decide +kernel
theorem dX10_safe_26 : decode cX10_safe 26 = .ok (.iconst 2, 1) := by decide +kernel
theorem dX10_safe_27 : decode cX10_safe 27 = .ok (.invokevirtual 72, 3) := by decide +kernel
theorem dX10_safe_30 : decode cX10_safe 30 = .ok (.i2l, 1) := by decide +kernel
theorem dX10_safe_31 : decode cX10_safe 31 = .ok (.lreturn, 1) := by decide +kernel
theorem dX10_safe_32 : decode cX10_safe 32 = .ok (.aload_n 0, 1) := by decide +kernel
theorem dX10_safe_33 : decode cX10_safe 33 = .ok (.getfield 19, 3) := by decide +kernel
theorem dX10_safe_36 : decode cX10_safe 36 = .ok (.aload_n 0, 1) := by decide +kernel
theorem dX10_safe_37 : decode cX10_safe 37 = .ok (.getfield 54, 3) := by decide +kernel
theorem dX10_safe_40 : decode cX10_safe 40 = .ok (.iload_n 1, 1) := by decide +kernel
theorem dX10_safe_41 : decode cX10_safe 41 = .ok (.aload_n 0, 1) := by decide +kernel
theorem dX10_safe_42 : decode cX10_safe 42 = .ok (.getfield 19, 3) := by decide +kernel
theorem dX10_safe_45 : decode cX10_safe 45 = .ok (.getfield 123, 3) := by decide +kernel
theorem dX10_safe_48 : decode cX10_safe 48 = .ok (.invokevirtual 306, 3) := by decide +kernel
theorem dX10_safe_51 : decode cX10_safe 51 = .ok (.ifCond .ne 10, 3) := by decide +kernel
theorem dX10_safe_54 : decode cX10_safe 54 = .ok (.aload_n 0, 1) := by decide +kernel
theorem dX10_safe_55 : decode cX10_safe 55 = .ok (.iconst 5, 1) := by decide +kernel
theorem dX10_safe_56 : decode cX10_safe 56 = .ok (.invokevirtual 72, 3) := by decide +kernel
theorem dX10_safe_59 : decode cX10_safe 59 = .ok (.i2l, 1) := by decide +kernel
theorem dX10_safe_60 : decode cX10_safe 60 = .ok (.lreturn, 1) := by decide +kernel
theorem dX10_safe_61 : decode cX10_safe 61 = .ok (.aload_n 0, 1) := by decide +kernel
theorem dX10_safe_62 : decode cX10_safe 62 = .ok (.aload_n 0, 1) := by decide +kernel
theorem dX10_safe_63 : decode cX10_safe 63 = .ok (.getfield 54, 3) := by decide +kernel
theorem dX10_safe_66 : decode cX10_safe 66 = .ok (.getfield 309, 3) := by decide +kernel
theorem dX10_safe_69 : decode cX10_safe 69 = .ok (.iload_n 2, 1) := by decide +kernel
theorem dX10_safe_70 : decode cX10_safe 70 = .ok (.iload_n 3, 1) := by decide +kernel
theorem dX10_safe_71 : decode cX10_safe 71 = .ok (.invokestatic 312, 3) := by decide +kernel
theorem dX10_safe_74 : decode cX10_safe 74 = .ok (.invokevirtual 318, 3) := by decide +kernel
theorem dX10_safe_77 : decode cX10_safe 77 = .ok (.lreturn, 1) := by decide +kernel
theorem dX10_left_0 : decode cX10_left 0 = .ok (.aload_n 0, 1) := by decide +kernel
theorem dX10_left_1 : decode cX10_left 1 = .ok (.iload_n 1, 1) := by decide +kernel
theorem dX10_left_2 : decode cX10_left 2 = .ok (.invokevirtual 111, 3) := by decide +kernel
theorem dX10_left_5 : decode cX10_left 5 = .ok (.ifCond .ne 10, 3) := by decide +kernel
theorem dX10_left_8 : decode cX10_left 8 = .ok (.aload_n 0, 1) := by decide +kernel
theorem dX10_left_9 : decode cX10_left 9 = .ok (.iconst 1, 1) := by decide +kernel
theorem dX10_left_10 : decode cX10_left 10 = .ok (.invokevirtual 72, 3) := by decide +kernel
theorem dX10_left_13 : decode cX10_left 13 = .ok (.i2l, 1) := by decide +kernel
theorem dX10_left_14 : decode cX10_left 14 = .ok (.lreturn, 1) := by decide +kernel
theorem dX10_left_15 : decode cX10_left 15 = .ok (.iload_n 2, 1) := by decide +kernel
theorem dX10_left_16 : decode cX10_left 16 = .ok (.iconst 0, 1) := by decide +kernel
theorem dX10_left_17 : decode cX10_left 17 = .ok (.bipush 7, 2) := by decide +kernel
theorem dX10_left_19 : decode cX10_left 19 = .ok (.invokestatic 183, 3) := by decide +kernel
theorem dX10_left_22 : decode cX10_left 22 = .ok (.ifCond .ne 10, 3) := by decide +kernel
theorem dX10_left_25 : decode cX10_left 25 = .ok (.aload_n 0, 1) := by decide +kernel
theorem dX10_left_26 : decode cX10_left 26 = .ok (.iconst 2, 1) := by decide +kernel
theorem dX10_left_27 : decode cX10_left 27 = .ok (.invokevirtual 72, 3) := by decide +kernel
theorem dX10_left_30 : decode cX10_left 30 = .ok (.i2l, 1) := by decide +kernel
theorem dX10_left_31 : decode cX10_left 31 = .ok (.lreturn, 1) := by decide +kernel
theorem dX10_left_32 : decode cX10_left 32 = .ok (.aload_n 0, 1) := by decide +kernel
theorem dX10_left_33 : decode cX10_left 33 = .ok (.getfield 19, 3) := by decide +kernel
theorem dX10_left_36 : decode cX10_left 36 = .ok (.aload_n 0, 1) := by decide +kernel
theorem dX10_left_37 : decode cX10_left 37 = .ok (.getfield 54, 3) := by decide +kernel
theorem dX10_left_40 : decode cX10_left 40 = .ok (.iload_n 1, 1) := by decide +kernel
theorem dX10_left_41 : decode cX10_left 41 = .ok (.aload_n 0, 1) := by decide +kernel
theorem dX10_left_42 : decode cX10_left 42 = .ok (.getfield 19, 3) := by decide +kernel
theorem dX10_left_45 : decode cX10_left 45 = .ok (.getfield 123, 3) := by decide +kernel
theorem dX10_left_48 : decode cX10_left 48 = .ok (.invokevirtual 126, 3) := by decide +kernel
theorem dX10_left_51 : decode cX10_left 51 = .ok (.invokestatic 187, 3) := by decide +kernel
theorem dX10_left_54 : decode cX10_left 54 = .ok (.istore 4, 2) := by decide +kernel
theorem dX10_left_56 : decode cX10_left 56 = .ok (.aload_n 0, 1) := by decide +kernel
theorem dX10_left_57 : decode cX10_left 57 = .ok (.aload_n 0, 1) := by decide +kernel
theorem dX10_left_58 : decode cX10_left 58 = .ok (.getfield 54, 3) := by decide +kernel
theorem dX10_left_61 : decode cX10_left 61 = .ok (.getfield 309, 3) := by decide +kernel
theorem dX10_left_64 : decode cX10_left 64 = .ok (.iload 4, 2) := by decide +kernel
theorem dX10_left_66 : decode cX10_left 66 = .ok (.iload_n 2, 1) := by decide +kernel
theorem dX10_left_67 : decode cX10_left 67 = .ok (.iload_n 3, 1) := by decide +kernel
theorem dX10_left_68 : decode cX10_left 68 = .ok (.invokestatic 322, 3) := by decide +kernel
theorem dX10_left_71 : decode cX10_left 71 = .ok (.invokevirtual 318, 3) := by decide +kernel
theorem dX10_left_74 : decode cX10_left 74 = .ok (.lreturn, 1) := by decide +kernel
theorem dX10_stays_0 : decode cX10_stays 0 = .ok (.aload_n 0, 1) := by decide +kernel
theorem dX10_stays_1 : decode cX10_stays 1 = .ok (.invokevirtual 169, 3) := by decide +kernel
theorem dX10_stays_4 : decode cX10_stays 4 = .ok (.ifCond .ne 10, 3) := by decide +kernel
theorem dX10_stays_7 : decode cX10_stays 7 = .ok (.aload_n 0, 1) := by decide +kernel
theorem dX10_stays_8 : decode cX10_stays 8 = .ok (.iconst 1, 1) := by decide +kernel
theorem dX10_stays_9 : decode cX10_stays 9 = .ok (.invokevirtual 72, 3) := by decide +kernel
theorem dX10_stays_12 : decode cX10_stays 12 = .ok (.i2l, 1) := by decide +kernel
theorem dX10_stays_13 : decode cX10_stays 13 = .ok (.lreturn, 1) := by decide +kernel
theorem dX10_stays_14 : decode cX10_stays 14 = .ok (.iload_n 1, 1) := by decide +kernel
theorem dX10_stays_15 : decode cX10_stays 15 = .ok (.iconst 0, 1) := by decide +kernel
theorem dX10_stays_16 : decode cX10_stays 16 = .ok (.bipush 8, 2) := by decide +kernel
theorem dX10_stays_18 : decode cX10_stays 18 = .ok (.invokestatic 183, 3) := by decide +kernel
theorem dX10_stays_21 : decode cX10_stays 21 = .ok (.ifCond .ne 10, 3) := by decide +kernel
theorem dX10_stays_24 : decode cX10_stays 24 = .ok (.aload_n 0, 1) := by decide +kernel
theorem dX10_stays_25 : decode cX10_stays 25 = .ok (.iconst 2, 1) := by decide +kernel
theorem dX10_stays_26 : decode cX10_stays 26 = .ok (.invokevirtual 72, 3) := by decide +kernel
theorem dX10_stays_29 : decode cX10_stays 29 = .ok (.i2l, 1) := by decide +kernel
theorem dX10_stays_30 : decode cX10_stays 30 = .ok (.lreturn, 1) := by decide +kernel
theorem dX10_stays_31 : decode cX10_stays 31 = .ok (.aload_n 0, 1) := by decide +kernel
theorem dX10_stays_32 : decode cX10_stays 32 = .ok (.aload_n 0, 1) := by decide +kernel
theorem dX10_stays_33 : decode cX10_stays 33 = .ok (.getfield 54, 3) := by decide +kernel
theorem dX10_stays_36 : decode cX10_stays 36 = .ok (.getfield 309, 3) := by decide +kernel
theorem dX10_stays_39 : decode cX10_stays 39 = .ok (.iload_n 1, 1) := by decide +kernel
theorem dX10_stays_40 : decode cX10_stays 40 = .ok (.iload_n 2, 1) := by decide +kernel
theorem dX10_stays_41 : decode cX10_stays 41 = .ok (.invokestatic 326, 3) := by decide +kernel
theorem dX10_stays_44 : decode cX10_stays 44 = .ok (.invokevirtual 318, 3) := by decide +kernel
theorem dX10_stays_47 : decode cX10_stays 47 = .ok (.lreturn, 1) := by decide +kernel
theorem dX10_aloft_0 : decode cX10_aloft 0 = .ok (.aload_n 0, 1) := by decide +kernel
theorem dX10_aloft_1 : decode cX10_aloft 1 = .ok (.iload_n 1, 1) := by decide +kernel
theorem dX10_aloft_2 : decode cX10_aloft 2 = .ok (.invokevirtual 134, 3) := by decide +kernel
theorem dX10_aloft_5 : decode cX10_aloft 5 = .ok (.ifCond .ne 9, 3) := by decide +kernel
theorem dX10_aloft_8 : decode cX10_aloft 8 = .ok (.aload_n 0, 1) := by decide +kernel
theorem dX10_aloft_9 : decode cX10_aloft 9 = .ok (.iconst 1, 1) := by decide +kernel
theorem dX10_aloft_10 : decode cX10_aloft 10 = .ok (.invokevirtual 72, 3) := by decide +kernel
theorem dX10_aloft_13 : decode cX10_aloft 13 = .ok (.ireturn, 1) := by decide +kernel
theorem dX10_aloft_14 : decode cX10_aloft 14 = .ok (.iload_n 2, 1) := by decide +kernel
theorem dX10_aloft_15 : decode cX10_aloft 15 = .ok (.iconst 0, 1) := by decide +kernel
theorem dX10_aloft_16 : decode cX10_aloft 16 = .ok (.ldc_w 329, 3) := by decide +kernel
theorem dX10_aloft_19 : decode cX10_aloft 19 = .ok (.invokestatic 183, 3) := by decide +kernel
theorem dX10_aloft_22 : decode cX10_aloft 22 = .ok (.ifCond .ne 9, 3) := by decide +kernel
theorem dX10_aloft_25 : decode cX10_aloft 25 = .ok (.aload_n 0, 1) := by decide +kernel
theorem dX10_aloft_26 : decode cX10_aloft 26 = .ok (.iconst 2, 1) := by decide +kernel
theorem dX10_aloft_27 : decode cX10_aloft 27 = .ok (.invokevirtual 72, 3) := by decide +kernel
theorem dX10_aloft_30 : decode cX10_aloft 30 = .ok (.ireturn, 1) := by decide +kernel
theorem dX10_aloft_31 : decode cX10_aloft 31 = .ok (.aload_n 0, 1) := by decide +kernel
theorem dX10_aloft_32 : decode cX10_aloft 32 = .ok (.getfield 47, 3) := by decide +kernel
theorem dX10_aloft_35 : decode cX10_aloft 35 = .ok (.iload_n 2, 1) := by decide +kernel
theorem dX10_aloft_36 : decode cX10_aloft 36 = .ok (.invokevirtual 330, 3) := by decide +kernel
theorem dX10_aloft_39 : decode cX10_aloft 39 = .ok (.aload_n 0, 1) := by decide +kernel
theorem dX10_aloft_40 : decode cX10_aloft 40 = .ok (.aload_n 0, 1) := by decide +kernel
theorem dX10_aloft_41 : decode cX10_aloft 41 = .ok (.getfield 47, 3) := by decide +kernel
theorem dX10_aloft_44 : decode cX10_aloft 44 = .ok (.aload_n 0, 1) := by decide +kernel
theorem dX10_aloft_45 : decode cX10_aloft 45 = .ok (.getfield 54, 3) := by decide +kernel
theorem dX10_aloft_48 : decode cX10_aloft 48 = .ok (.getfield 149, 3) := by decide +kernel
theorem dX10_aloft_51 : decode cX10_aloft 51 = .ok (.iload_n 1, 1) := by decide +kernel
theorem dX10_aloft_52 : decode cX10_aloft 52 = .ok (.iaload, 1) := by decide +kernel
theorem dX10_aloft_53 : decode cX10_aloft 53 = .ok (.aload_n 0, 1) := by decide +kernel
theorem dX10_aloft_54 : decode cX10_aloft 54 = .ok (.getfield 54, 3) := by decide +kernel
theorem dX10_aloft_57 : decode cX10_aloft 57 = .ok (.getfield 333, 3) := by decide +kernel
theorem dX10_aloft_60 : decode cX10_aloft 60 = .ok (.invokevirtual 336, 3) := by decide +kernel
theorem dX10_aloft_63 : decode cX10_aloft 63 = .ok (.invokevirtual 105, 3) := by decide +kernel
theorem dX10_aloft_66 : decode cX10_aloft 66 = .ok (.ireturn, 1) := by decide +kernel
theorem dX10_last_0 : decode cX10_last 0 = .ok (.aload_n 0, 1) := by decide +kernel
theorem dX10_last_1 : decode cX10_last 1 = .ok (.invokevirtual 169, 3) := by decide +kernel
theorem dX10_last_4 : decode cX10_last 4 = .ok (.ifCond .ne 9, 3) := by decide +kernel
theorem dX10_last_7 : decode cX10_last 7 = .ok (.aload_n 0, 1) := by decide +kernel
theorem dX10_last_8 : decode cX10_last 8 = .ok (.iconst 1, 1) := by decide +kernel
theorem dX10_last_9 : decode cX10_last 9 = .ok (.invokevirtual 72, 3) := by decide +kernel
theorem dX10_last_12 : decode cX10_last 12 = .ok (.ireturn, 1) := by decide +kernel
theorem dX10_last_13 : decode cX10_last 13 = .ok (.iload_n 1, 1) := by decide +kernel
theorem dX10_last_14 : decode cX10_last 14 = .ok (.iconst 0, 1) := by decide +kernel
theorem dX10_last_15 : decode cX10_last 15 = .ok (.ldc_w 329, 3) := by decide +kernel
theorem dX10_last_18 : decode cX10_last 18 = .ok (.invokestatic 183, 3) := by decide +kernel
theorem dX10_last_21 : decode cX10_last 21 = .ok (.ifCond .ne 9, 3) := by decide +kernel
theorem dX10_last_24 : decode cX10_last 24 = .ok (.aload_n 0, 1) := by decide +kernel
theorem dX10_last_25 : decode cX10_last 25 = .ok (.iconst 2, 1) := by decide +kernel
theorem dX10_last_26 : decode cX10_last 26 = .ok (.invokevirtual 72, 3) := by decide +kernel
theorem dX10_last_29 : decode cX10_last 29 = .ok (.ireturn, 1) := by decide +kernel
theorem dX10_last_30 : decode cX10_last 30 = .ok (.aload_n 0, 1) := by decide +kernel
theorem dX10_last_31 : decode cX10_last 31 = .ok (.getfield 47, 3) := by decide +kernel
theorem dX10_last_34 : decode cX10_last 34 = .ok (.iload_n 1, 1) := by decide +kernel
theorem dX10_last_35 : decode cX10_last 35 = .ok (.invokevirtual 330, 3) := by decide +kernel
theorem dX10_last_38 : decode cX10_last 38 = .ok (.aload_n 0, 1) := by decide +kernel
theorem dX10_last_39 : decode cX10_last 39 = .ok (.aload_n 0, 1) := by decide +kernel
theorem dX10_last_40 : decode cX10_last 40 = .ok (.getfield 47, 3) := by decide +kernel
theorem dX10_last_43 : decode cX10_last 43 = .ok (.aload_n 0, 1) := by decide +kernel
theorem dX10_last_44 : decode cX10_last 44 = .ok (.getfield 54, 3) := by decide +kernel
theorem dX10_last_47 : decode cX10_last 47 = .ok (.aload_n 0, 1) := by decide +kernel
theorem dX10_last_48 : decode cX10_last 48 = .ok (.getfield 19, 3) := by decide +kernel
theorem dX10_last_51 : decode cX10_last 51 = .ok (.aload_n 0, 1) := by decide +kernel
theorem dX10_last_52 : decode cX10_last 52 = .ok (.getfield 54, 3) := by decide +kernel
theorem dX10_last_55 : decode cX10_last 55 = .ok (.invokevirtual 173, 3) := by decide +kernel
theorem dX10_last_58 : decode cX10_last 58 = .ok (.invokevirtual 339, 3) := by decide +kernel
theorem dX10_last_61 : decode cX10_last 61 = .ok (.invokevirtual 105, 3) := by decide +kernel
theorem dX10_last_64 : decode cX10_last 64 = .ok (.ireturn, 1) := by decide +kernel
theorem dX10_day_0 : decode cX10_day 0 = .ok (.aload_n 0, 1) := by decide +kernel
theorem dX10_day_1 : decode cX10_day 1 = .ok (.invokevirtual 169, 3) := by decide +kernel
theorem dX10_day_4 : decode cX10_day 4 = .ok (.ifCond .ne 9, 3) := by decide +kernel
theorem dX10_day_7 : decode cX10_day 7 = .ok (.aload_n 0, 1) := by decide +kernel
theorem dX10_day_8 : decode cX10_day 8 = .ok (.iconst 1, 1) := by decide +kernel
theorem dX10_day_9 : decode cX10_day 9 = .ok (.invokevirtual 72, 3) := by decide +kernel
theorem dX10_day_12 : decode cX10_day 12 = .ok (.ireturn, 1) := by decide +kernel
theorem dX10_day_13 : decode cX10_day 13 = .ok (.aload_n 0, 1) := by decide +kernel
theorem dX10_day_14 : decode cX10_day 14 = .ok (.getfield 19, 3) := by decide +kernel
theorem dX10_day_17 : decode cX10_day 17 = .ok (.getfield 123, 3) := by decide +kernel
theorem dX10_day_20 : decode cX10_day 20 = .ok (.sipush 999, 3) := by decide +kernel
theorem dX10_day_23 : decode cX10_day 23 = .ok (.if_icmp .lt 9, 3) := by decide +kernel
theorem dX10_day_26 : decode cX10_day 26 = .ok (.aload_n 0, 1) := by decide +kernel
theorem dX10_day_27 : decode cX10_day 27 = .ok (.iconst 3, 1) := by decide +kernel
theorem dX10_day_28 : decode cX10_day 28 = .ok (.invokevirtual 72, 3) := by decide +kernel
theorem dX10_day_31 : decode cX10_day 31 = .ok (.ireturn, 1) := by decide +kernel
theorem dX10_day_32 : decode cX10_day 32 = .ok (.aload_n 0, 1) := by decide +kernel
theorem dX10_day_33 : decode cX10_day 33 = .ok (.getfield 26, 3) := by decide +kernel
theorem dX10_day_36 : decode cX10_day 36 = .ok (.aload_n 0, 1) := by decide +kernel
theorem dX10_day_37 : decode cX10_day 37 = .ok (.getfield 19, 3) := by decide +kernel
theorem dX10_day_40 : decode cX10_day 40 = .ok (.invokevirtual 342, 3) := by decide +kernel
theorem dX10_day_43 : decode cX10_day 43 = .ok (.aload_n 0, 1) := by decide +kernel
theorem dX10_day_44 : decode cX10_day 44 = .ok (.aload_n 0, 1) := by decide +kernel
theorem dX10_day_45 : decode cX10_day 45 = .ok (.getfield 19, 3) := by decide +kernel
theorem dX10_day_48 : decode cX10_day 48 = .ok (.aload_n 0, 1) := by decide +kernel
theorem dX10_day_49 : decode cX10_day 49 = .ok (.getfield 54, 3) := by decide +kernel
theorem dX10_day_52 : decode cX10_day 52 = .ok (.invokevirtual 346, 3) := by decide +kernel
theorem dX10_day_55 : decode cX10_day 55 = .ok (.invokevirtual 105, 3) := by decide +kernel
theorem dX10_day_58 : decode cX10_day 58 = .ok (.ireturn, 1) := by decide +kernel
theorem dX10_pay_0 : decode cX10_pay 0 = .ok (.aload_n 0, 1) := by decide +kernel
theorem dX10_pay_1 : decode cX10_pay 1 = .ok (.iload_n 1, 1) := by decide +kernel
theorem dX10_pay_2 : decode cX10_pay 2 = .ok (.invokevirtual 134, 3) := by decide +kernel
theorem dX10_pay_5 : decode cX10_pay 5 = .ok (.ifCond .ne 9, 3) := by decide +kernel
theorem dX10_pay_8 : decode cX10_pay 8 = .ok (.aload_n 0, 1) := by decide +kernel
theorem dX10_pay_9 : decode cX10_pay 9 = .ok (.iconst 1, 1) := by decide +kernel
theorem dX10_pay_10 : decode cX10_pay 10 = .ok (.invokevirtual 72, 3) := by decide +kernel
theorem dX10_pay_13 : decode cX10_pay 13 = .ok (.ireturn, 1) := by decide +kernel
theorem dX10_pay_14 : decode cX10_pay 14 = .ok (.iload_n 2, 1) := by decide +kernel
theorem dX10_pay_15 : decode cX10_pay 15 = .ok (.iconst 1, 1) := by decide +kernel
theorem dX10_pay_16 : decode cX10_pay 16 = .ok (.sipush 999, 3) := by decide +kernel
theorem dX10_pay_19 : decode cX10_pay 19 = .ok (.invokestatic 183, 3) := by decide +kernel
theorem dX10_pay_22 : decode cX10_pay 22 = .ok (.ifCond .ne 9, 3) := by decide +kernel
theorem dX10_pay_25 : decode cX10_pay 25 = .ok (.aload_n 0, 1) := by decide +kernel
theorem dX10_pay_26 : decode cX10_pay 26 = .ok (.iconst 2, 1) := by decide +kernel
theorem dX10_pay_27 : decode cX10_pay 27 = .ok (.invokevirtual 72, 3) := by decide +kernel
theorem dX10_pay_30 : decode cX10_pay 30 = .ok (.ireturn, 1) := by decide +kernel
theorem dX10_pay_31 : decode cX10_pay 31 = .ok (.aload_n 0, 1) := by decide +kernel
theorem dX10_pay_32 : decode cX10_pay 32 = .ok (.getfield 19, 3) := by decide +kernel
theorem dX10_pay_35 : decode cX10_pay 35 = .ok (.aload_n 0, 1) := by decide +kernel
theorem dX10_pay_36 : decode cX10_pay 36 = .ok (.getfield 54, 3) := by decide +kernel
theorem dX10_pay_39 : decode cX10_pay 39 = .ok (.iload_n 1, 1) := by decide +kernel
theorem dX10_pay_40 : decode cX10_pay 40 = .ok (.aload_n 0, 1) := by decide +kernel
theorem dX10_pay_41 : decode cX10_pay 41 = .ok (.getfield 19, 3) := by decide +kernel
theorem dX10_pay_44 : decode cX10_pay 44 = .ok (.getfield 123, 3) := by decide +kernel
theorem dX10_pay_47 : decode cX10_pay 47 = .ok (.invokevirtual 306, 3) := by decide +kernel
theorem dX10_pay_50 : decode cX10_pay 50 = .ok (.ifCond .eq 19, 3) := by decide +kernel
theorem dX10_pay_53 : decode cX10_pay 53 = .ok (.aload_n 0, 1) := by decide +kernel
theorem dX10_pay_54 : decode cX10_pay 54 = .ok (.getfield 19, 3) := by decide +kernel
theorem dX10_pay_57 : decode cX10_pay 57 = .ok (.aload_n 0, 1) := by decide +kernel
theorem dX10_pay_58 : decode cX10_pay 58 = .ok (.getfield 54, 3) := by decide +kernel
theorem dX10_pay_61 : decode cX10_pay 61 = .ok (.iload_n 1, 1) := by decide +kernel
theorem dX10_pay_62 : decode cX10_pay 62 = .ok (.invokevirtual 155, 3) := by decide +kernel
theorem dX10_pay_65 : decode cX10_pay 65 = .ok (.iload_n 2, 1) := by decide +kernel
theorem dX10_pay_66 : decode cX10_pay 66 = .ok (.if_icmp .ge 9, 3) := by decide +kernel
theorem dX10_pay_69 : decode cX10_pay 69 = .ok (.aload_n 0, 1) := by decide +kernel
theorem dX10_pay_70 : decode cX10_pay 70 = .ok (.iconst 5, 1) := by decide +kernel
theorem dX10_pay_71 : decode cX10_pay 71 = .ok (.invokevirtual 72, 3) := by decide +kernel
theorem dX10_pay_74 : decode cX10_pay 74 = .ok (.ireturn, 1) := by decide +kernel
theorem dX10_pay_75 : decode cX10_pay 75 = .ok (.aload_n 0, 1) := by decide +kernel
theorem dX10_pay_76 : decode cX10_pay 76 = .ok (.getfield 19, 3) := by decide +kernel
theorem dX10_pay_79 : decode cX10_pay 79 = .ok (.getfield 117, 3) := by decide +kernel
theorem dX10_pay_82 : decode cX10_pay 82 = .ok (.aload_n 0, 1) := by decide +kernel
theorem dX10_pay_83 : decode cX10_pay 83 = .ok (.getfield 54, 3) := by decide +kernel
theorem dX10_pay_86 : decode cX10_pay 86 = .ok (.getfield 143, 3) := by decide +kernel
theorem dX10_pay_89 : decode cX10_pay 89 = .ok (.iload_n 1, 1) := by decide +kernel
theorem dX10_pay_90 : decode cX10_pay 90 = .ok (.iaload, 1) := by decide +kernel
theorem dX10_pay_91 : decode cX10_pay 91 = .ok (.iaload, 1) := by decide +kernel
theorem dX10_pay_92 : decode cX10_pay 92 = .ok (.iload_n 2, 1) := by decide +kernel
theorem dX10_pay_93 : decode cX10_pay 93 = .ok (.if_icmp .ge 10, 3) := by decide +kernel
theorem dX10_pay_96 : decode cX10_pay 96 = .ok (.aload_n 0, 1) := by decide +kernel
theorem dX10_pay_97 : decode cX10_pay 97 = .ok (.bipush 6, 2) := by decide +kernel
theorem dX10_pay_99 : decode cX10_pay 99 = .ok (.invokevirtual 72, 3) := by decide +kernel
theorem dX10_pay_102 : decode cX10_pay 102 = .ok (.ireturn, 1) := by decide +kernel
theorem dX10_pay_103 : decode cX10_pay 103 = .ok (.aload_n 0, 1) := by decide +kernel
theorem dX10_pay_104 : decode cX10_pay 104 = .ok (.getfield 26, 3) := by decide +kernel
theorem dX10_pay_107 : decode cX10_pay 107 = .ok (.aload_n 0, 1) := by decide +kernel
theorem dX10_pay_108 : decode cX10_pay 108 = .ok (.getfield 19, 3) := by decide +kernel
theorem dX10_pay_111 : decode cX10_pay 111 = .ok (.invokevirtual 342, 3) := by decide +kernel
theorem dX10_pay_114 : decode cX10_pay 114 = .ok (.aload_n 0, 1) := by decide +kernel
theorem dX10_pay_115 : decode cX10_pay 115 = .ok (.getfield 19, 3) := by decide +kernel
theorem dX10_pay_118 : decode cX10_pay 118 = .ok (.aload_n 0, 1) := by decide +kernel
theorem dX10_pay_119 : decode cX10_pay 119 = .ok (.getfield 54, 3) := by decide +kernel
theorem dX10_pay_122 : decode cX10_pay 122 = .ok (.iload_n 1, 1) := by decide +kernel
theorem dX10_pay_123 : decode cX10_pay 123 = .ok (.iload_n 2, 1) := by decide +kernel
theorem dX10_pay_124 : decode cX10_pay 124 = .ok (.invokevirtual 349, 3) := by decide +kernel
theorem dX10_pay_127 : decode cX10_pay 127 = .ok (.aload_n 0, 1) := by decide +kernel
theorem dX10_pay_128 : decode cX10_pay 128 = .ok (.aload_n 0, 1) := by decide +kernel
theorem dX10_pay_129 : decode cX10_pay 129 = .ok (.getfield 19, 3) := by decide +kernel
theorem dX10_pay_132 : decode cX10_pay 132 = .ok (.aload_n 0, 1) := by decide +kernel
theorem dX10_pay_133 : decode cX10_pay 133 = .ok (.getfield 54, 3) := by decide +kernel
theorem dX10_pay_136 : decode cX10_pay 136 = .ok (.iload_n 1, 1) := by decide +kernel
theorem dX10_pay_137 : decode cX10_pay 137 = .ok (.invokevirtual 155, 3) := by decide +kernel
theorem dX10_pay_140 : decode cX10_pay 140 = .ok (.invokevirtual 105, 3) := by decide +kernel
theorem dX10_pay_143 : decode cX10_pay 143 = .ok (.ireturn, 1) := by decide +kernel
theorem dX10_meet_0 : decode cX10_meet 0 = .ok (.aload_n 0, 1) := by decide +kernel
theorem dX10_meet_1 : decode cX10_meet 1 = .ok (.iload_n 1, 1) := by decide +kernel
theorem dX10_meet_2 : decode cX10_meet 2 = .ok (.iload_n 2, 1) := by decide +kernel
theorem dX10_meet_3 : decode cX10_meet 3 = .ok (.invokevirtual 211, 3) := by decide +kernel
theorem dX10_meet_6 : decode cX10_meet 6 = .ok (.ifCond .ne 9, 3) := by decide +kernel
theorem dX10_meet_9 : decode cX10_meet 9 = .ok (.aload_n 0, 1) := by decide +kernel
theorem dX10_meet_10 : decode cX10_meet 10 = .ok (.iconst 1, 1) := by decide +kernel
theorem dX10_meet_11 : decode cX10_meet 11 = .ok (.invokevirtual 72, 3) := by decide +kernel
theorem dX10_meet_14 : decode cX10_meet 14 = .ok (.ireturn, 1) := by decide +kernel
theorem dX10_meet_15 : decode cX10_meet 15 = .ok (.aload_n 0, 1) := by decide +kernel
theorem dX10_meet_16 : decode cX10_meet 16 = .ok (.getfield 19, 3) := by decide +kernel
theorem dX10_meet_19 : decode cX10_meet 19 = .ok (.aload_n 0, 1) := by decide +kernel
theorem dX10_meet_20 : decode cX10_meet 20 = .ok (.getfield 54, 3) := by decide +kernel
theorem dX10_meet_23 : decode cX10_meet 23 = .ok (.iload_n 1, 1) := by decide +kernel
theorem dX10_meet_24 : decode cX10_meet 24 = .ok (.iload_n 2, 1) := by decide +kernel
theorem dX10_meet_25 : decode cX10_meet 25 = .ok (.invokevirtual 214, 3) := by decide +kernel
theorem dX10_meet_28 : decode cX10_meet 28 = .ok (.ifCond .ne 9, 3) := by decide +kernel
theorem dX10_meet_31 : decode cX10_meet 31 = .ok (.aload_n 0, 1) := by decide +kernel
theorem dX10_meet_32 : decode cX10_meet 32 = .ok (.iconst 5, 1) := by decide +kernel
theorem dX10_meet_33 : decode cX10_meet 33 = .ok (.invokevirtual 72, 3) := by decide +kernel
theorem dX10_meet_36 : decode cX10_meet 36 = .ok (.ireturn, 1) := by decide +kernel
theorem dX10_meet_37 : decode cX10_meet 37 = .ok (.aload_n 0, 1) := by decide +kernel
theorem dX10_meet_38 : decode cX10_meet 38 = .ok (.getfield 19, 3) := by decide +kernel
theorem dX10_meet_41 : decode cX10_meet 41 = .ok (.aload_n 0, 1) := by decide +kernel
theorem dX10_meet_42 : decode cX10_meet 42 = .ok (.getfield 54, 3) := by decide +kernel
theorem dX10_meet_45 : decode cX10_meet 45 = .ok (.iload_n 1, 1) := by decide +kernel
theorem dX10_meet_46 : decode cX10_meet 46 = .ok (.iload_n 2, 1) := by decide +kernel
theorem dX10_meet_47 : decode cX10_meet 47 = .ok (.invokevirtual 218, 3) := by decide +kernel
theorem dX10_meet_50 : decode cX10_meet 50 = .ok (.istore_n 3, 1) := by decide +kernel
theorem dX10_meet_51 : decode cX10_meet 51 = .ok (.aload_n 0, 1) := by decide +kernel
theorem dX10_meet_52 : decode cX10_meet 52 = .ok (.getfield 19, 3) := by decide +kernel
theorem dX10_meet_55 : decode cX10_meet 55 = .ok (.getfield 117, 3) := by decide +kernel
theorem dX10_meet_58 : decode cX10_meet 58 = .ok (.aload_n 0, 1) := by decide +kernel
theorem dX10_meet_59 : decode cX10_meet 59 = .ok (.getfield 19, 3) := by decide +kernel
theorem dX10_meet_62 : decode cX10_meet 62 = .ok (.aload_n 0, 1) := by decide +kernel
theorem dX10_meet_63 : decode cX10_meet 63 = .ok (.getfield 54, 3) := by decide +kernel
theorem dX10_meet_66 : decode cX10_meet 66 = .ok (.iload_n 1, 1) := by decide +kernel
theorem dX10_meet_67 : decode cX10_meet 67 = .ok (.iload_n 2, 1) := by decide +kernel
theorem dX10_meet_68 : decode cX10_meet 68 = .ok (.invokevirtual 353, 3) := by decide +kernel
theorem dX10_meet_71 : decode cX10_meet 71 = .ok (.iaload, 1) := by decide +kernel
theorem dX10_meet_72 : decode cX10_meet 72 = .ok (.iload_n 3, 1) := by decide +kernel
theorem dX10_meet_73 : decode cX10_meet 73 = .ok (.if_icmp .ge 10, 3) := by decide +kernel
theorem dX10_meet_76 : decode cX10_meet 76 = .ok (.aload_n 0, 1) := by decide +kernel
theorem dX10_meet_77 : decode cX10_meet 77 = .ok (.bipush 6, 2) := by decide +kernel
theorem dX10_meet_79 : decode cX10_meet 79 = .ok (.invokevirtual 72, 3) := by decide +kernel
theorem dX10_meet_82 : decode cX10_meet 82 = .ok (.ireturn, 1) := by decide +kernel
theorem dX10_meet_83 : decode cX10_meet 83 = .ok (.aload_n 0, 1) := by decide +kernel
theorem dX10_meet_84 : decode cX10_meet 84 = .ok (.getfield 26, 3) := by decide +kernel
theorem dX10_meet_87 : decode cX10_meet 87 = .ok (.aload_n 0, 1) := by decide +kernel
theorem dX10_meet_88 : decode cX10_meet 88 = .ok (.getfield 19, 3) := by decide +kernel
theorem dX10_meet_91 : decode cX10_meet 91 = .ok (.invokevirtual 342, 3) := by decide +kernel
theorem dX10_meet_94 : decode cX10_meet 94 = .ok (.aload_n 0, 1) := by decide +kernel
theorem dX10_meet_95 : decode cX10_meet 95 = .ok (.getfield 19, 3) := by decide +kernel
theorem dX10_meet_98 : decode cX10_meet 98 = .ok (.aload_n 0, 1) := by decide +kernel
theorem dX10_meet_99 : decode cX10_meet 99 = .ok (.getfield 54, 3) := by decide +kernel
theorem dX10_meet_102 : decode cX10_meet 102 = .ok (.iload_n 1, 1) := by decide +kernel
theorem dX10_meet_103 : decode cX10_meet 103 = .ok (.iload_n 2, 1) := by decide +kernel
theorem dX10_meet_104 : decode cX10_meet 104 = .ok (.invokevirtual 356, 3) := by decide +kernel
theorem dX10_meet_107 : decode cX10_meet 107 = .ok (.aload_n 0, 1) := by decide +kernel
theorem dX10_meet_108 : decode cX10_meet 108 = .ok (.iload_n 3, 1) := by decide +kernel
theorem dX10_meet_109 : decode cX10_meet 109 = .ok (.invokevirtual 105, 3) := by decide +kernel
theorem dX10_meet_112 : decode cX10_meet 112 = .ok (.ireturn, 1) := by decide +kernel
theorem dX10_undo_0 : decode cX10_undo 0 = .ok (.aload_n 0, 1) := by decide +kernel
theorem dX10_undo_1 : decode cX10_undo 1 = .ok (.getfield 26, 3) := by decide +kernel
theorem dX10_undo_4 : decode cX10_undo 4 = .ok (.aload_n 0, 1) := by decide +kernel
theorem dX10_undo_5 : decode cX10_undo 5 = .ok (.getfield 19, 3) := by decide +kernel
theorem dX10_undo_8 : decode cX10_undo 8 = .ok (.invokevirtual 359, 3) := by decide +kernel
theorem dX10_undo_11 : decode cX10_undo 11 = .ok (.ifCond .ne 11, 3) := by decide +kernel
theorem dX10_undo_14 : decode cX10_undo 14 = .ok (.aload_n 0, 1) := by decide +kernel
theorem dX10_undo_15 : decode cX10_undo 15 = .ok (.bipush 6, 2) := by decide +kernel
theorem dX10_undo_17 : decode cX10_undo 17 = .ok (.putfield 108, 3) := by decide +kernel
theorem dX10_undo_20 : decode cX10_undo 20 = .ok (.iconst 0, 1) := by decide +kernel
theorem dX10_undo_21 : decode cX10_undo 21 = .ok (.ireturn, 1) := by decide +kernel
theorem dX10_undo_22 : decode cX10_undo 22 = .ok (.aload_n 0, 1) := by decide +kernel
theorem dX10_undo_23 : decode cX10_undo 23 = .ok (.iconst 0, 1) := by decide +kernel
theorem dX10_undo_24 : decode cX10_undo 24 = .ok (.putfield 108, 3) := by decide +kernel
theorem dX10_undo_27 : decode cX10_undo 27 = .ok (.iconst 1, 1) := by decide +kernel
theorem dX10_undo_28 : decode cX10_undo 28 = .ok (.ireturn, 1) := by decide +kernel
theorem dX10_image_0 : decode cX10_image 0 = .ok (.aload_n 0, 1) := by decide +kernel
theorem dX10_image_1 : decode cX10_image 1 = .ok (.invokevirtual 169, 3) := by decide +kernel
theorem dX10_image_4 : decode cX10_image 4 = .ok (.ifCond .ne 9, 3) := by decide +kernel
theorem dX10_image_7 : decode cX10_image 7 = .ok (.aload_n 0, 1) := by decide +kernel
theorem dX10_image_8 : decode cX10_image 8 = .ok (.iconst 1, 1) := by decide +kernel
theorem dX10_image_9 : decode cX10_image 9 = .ok (.invokevirtual 72, 3) := by decide +kernel
theorem dX10_image_12 : decode cX10_image 12 = .ok (.ireturn, 1) := by decide +kernel
theorem dX10_image_13 : decode cX10_image 13 = .ok (.aload_n 0, 1) := by decide +kernel
theorem dX10_image_14 : decode cX10_image 14 = .ok (.getfield 26, 3) := by decide +kernel
theorem dX10_image_17 : decode cX10_image 17 = .ok (.aload_n 0, 1) := by decide +kernel
theorem dX10_image_18 : decode cX10_image 18 = .ok (.getfield 19, 3) := by decide +kernel
theorem dX10_image_21 : decode cX10_image 21 = .ok (.invokevirtual 363, 3) := by decide +kernel
theorem dX10_image_24 : decode cX10_image 24 = .ok (.istore_n 1, 1) := by decide +kernel
theorem dX10_image_25 : decode cX10_image 25 = .ok (.iload_n 1, 1) := by decide +kernel
theorem dX10_image_26 : decode cX10_image 26 = .ok (.ifCond .ge 11, 3) := by decide +kernel
theorem dX10_image_29 : decode cX10_image 29 = .ok (.aload_n 0, 1) := by decide +kernel
theorem dX10_image_30 : decode cX10_image 30 = .ok (.iconst 3, 1) := by decide +kernel
theorem dX10_image_31 : decode cX10_image 31 = .ok (.invokevirtual 72, 3) := by decide +kernel
theorem dX10_image_34 : decode cX10_image 34 = .ok (.goto 8, 3) := by decide +kernel
theorem dX10_image_37 : decode cX10_image 37 = .ok (.aload_n 0, 1) := by decide +kernel
theorem dX10_image_38 : decode cX10_image 38 = .ok (.iload_n 1, 1) := by decide +kernel
theorem dX10_image_39 : decode cX10_image 39 = .ok (.invokevirtual 105, 3) := by decide +kernel
theorem dX10_image_42 : decode cX10_image 42 = .ok (.ireturn, 1) := by decide +kernel
theorem dX10_back_0 : decode cX10_back 0 = .ok (.aload_n 0, 1) := by decide +kernel
theorem dX10_back_1 : decode cX10_back 1 = .ok (.getfield 26, 3) := by decide +kernel
theorem dX10_back_4 : decode cX10_back 4 = .ok (.aload_n 0, 1) := by decide +kernel
theorem dX10_back_5 : decode cX10_back 5 = .ok (.getfield 19, 3) := by decide +kernel
theorem dX10_back_8 : decode cX10_back 8 = .ok (.iload_n 1, 1) := by decide +kernel
theorem dX10_back_9 : decode cX10_back 9 = .ok (.invokevirtual 367, 3) := by decide +kernel
theorem dX10_back_12 : decode cX10_back 12 = .ok (.ifCond .ne 10, 3) := by decide +kernel
theorem dX10_back_15 : decode cX10_back 15 = .ok (.aload_n 0, 1) := by decide +kernel
theorem dX10_back_16 : decode cX10_back 16 = .ok (.iconst 1, 1) := by decide +kernel
theorem dX10_back_17 : decode cX10_back 17 = .ok (.putfield 108, 3) := by decide +kernel
theorem dX10_back_20 : decode cX10_back 20 = .ok (.iconst 0, 1) := by decide +kernel
theorem dX10_back_21 : decode cX10_back 21 = .ok (.ireturn, 1) := by decide +kernel
theorem dX10_back_22 : decode cX10_back 22 = .ok (.aload_n 0, 1) := by decide +kernel
theorem dX10_back_23 : decode cX10_back 23 = .ok (.iconst 0, 1) := by decide +kernel
theorem dX10_back_24 : decode cX10_back 24 = .ok (.putfield 108, 3) := by decide +kernel
theorem dX10_back_27 : decode cX10_back 27 = .ok (.iconst 1, 1) := by decide +kernel
theorem dX10_back_28 : decode cX10_back 28 = .ok (.ireturn, 1) := by decide +kernel
theorem dX10_led_0 : decode cX10_led 0 = .ok (.iconst 0, 1) := by decide +kernel
theorem dX10_led_1 : decode cX10_led 1 = .ok (.istore_n 2, 1) := by decide +kernel
theorem dX10_led_2 : decode cX10_led 2 = .ok (.iconst 0, 1) := by decide +kernel
theorem dX10_led_3 : decode cX10_led 3 = .ok (.istore_n 3, 1) := by decide +kernel
theorem dX10_led_4 : decode cX10_led 4 = .ok (.iload_n 3, 1) := by decide +kernel
theorem dX10_led_5 : decode cX10_led 5 = .ok (.aload_n 0, 1) := by decide +kernel
theorem dX10_led_6 : decode cX10_led 6 = .ok (.getfield 54, 3) := by decide +kernel
theorem dX10_led_9 : decode cX10_led 9 = .ok (.getfield 371, 3) := by decide +kernel
theorem dX10_led_12 : decode cX10_led 12 = .ok (.if_icmp .ge 30, 3) := by decide +kernel
theorem dX10_led_15 : decode cX10_led 15 = .ok (.aload_n 0, 1) := by decide +kernel
theorem dX10_led_16 : decode cX10_led 16 = .ok (.getfield 19, 3) := by decide +kernel
theorem dX10_led_19 : decode cX10_led 19 = .ok (.iload_n 3, 1) := by decide +kernel
theorem dX10_led_20 : decode cX10_led 20 = .ok (.invokevirtual 374, 3) := by decide +kernel
theorem dX10_led_23 : decode cX10_led 23 = .ok (.ifCond .eq 13, 3) := by decide +kernel
theorem dX10_led_26 : decode cX10_led 26 = .ok (.iload_n 2, 1) := by decide +kernel
theorem dX10_led_27 : decode cX10_led 27 = .ok (.iload_n 1, 1) := by decide +kernel
theorem dX10_led_28 : decode cX10_led 28 = .ok (.if_icmp .ne 5, 3) := by decide +kernel
theorem dX10_led_31 : decode cX10_led 31 = .ok (.iload_n 3, 1) := by decide +kernel
theorem dX10_led_32 : decode cX10_led 32 = .ok (.ireturn, 1) := by decide +kernel
theorem dX10_led_33 : decode cX10_led 33 = .ok (.iinc 2 1, 3) := by decide +kernel
theorem dX10_led_36 : decode cX10_led 36 = .ok (.iinc 3 1, 3) := by decide +kernel
theorem dX10_led_39 : decode cX10_led 39 = .ok (.goto (-35), 3) := by decide +kernel
theorem dX10_led_42 : decode cX10_led 42 = .ok (.new 377, 3) := by decide +kernel
theorem dX10_led_45 : decode cX10_led 45 = .ok (.dup, 1) := by decide +kernel
theorem dX10_led_46 : decode cX10_led 46 = .ok (.ldc_w 379, 3) := by decide +kernel
theorem dX10_led_49 : decode cX10_led 49 = .ok (.invokespecial 381, 3) := by decide +kernel
theorem dX10_led_52 : decode cX10_led 52 = .ok (.athrow, 1) := by decide +kernel
theorem dX10_size_0 : decode cX10_size 0 = .ok (.iload_n 1, 1) := by decide +kernel
theorem dX10_size_1 : decode cX10_size 1 = .ok (.tableswitch 168 0 11 #[63, 71, 79, 87, 95, 103, 114, 125, 133, 141, 149, 157], 63) := by decide +kernel
theorem dX10_size_64 : decode cX10_size 64 = .ok (.aload_n 0, 1) := by decide +kernel
theorem dX10_size_65 : decode cX10_size 65 = .ok (.getfield 54, 3) := by decide +kernel
theorem dX10_size_68 : decode cX10_size 68 = .ok (.getfield 384, 3) := by decide +kernel
theorem dX10_size_71 : decode cX10_size 71 = .ok (.ireturn, 1) := by decide +kernel
theorem dX10_size_72 : decode cX10_size 72 = .ok (.aload_n 0, 1) := by decide +kernel
theorem dX10_size_73 : decode cX10_size 73 = .ok (.getfield 54, 3) := by decide +kernel
theorem dX10_size_76 : decode cX10_size 76 = .ok (.getfield 309, 3) := by decide +kernel
theorem dX10_size_79 : decode cX10_size 79 = .ok (.ireturn, 1) := by decide +kernel
theorem dX10_size_80 : decode cX10_size 80 = .ok (.aload_n 0, 1) := by decide +kernel
theorem dX10_size_81 : decode cX10_size 81 = .ok (.getfield 54, 3) := by decide +kernel
theorem dX10_size_84 : decode cX10_size 84 = .ok (.getfield 333, 3) := by decide +kernel
theorem dX10_size_87 : decode cX10_size 87 = .ok (.ireturn, 1) := by decide +kernel
theorem dX10_size_88 : decode cX10_size 88 = .ok (.aload_n 0, 1) := by decide +kernel
theorem dX10_size_89 : decode cX10_size 89 = .ok (.getfield 54, 3) := by decide +kernel
theorem dX10_size_92 : decode cX10_size 92 = .ok (.getfield 102, 3) := by decide +kernel
theorem dX10_size_95 : decode cX10_size 95 = .ok (.ireturn, 1) := by decide +kernel
theorem dX10_size_96 : decode cX10_size 96 = .ok (.aload_n 0, 1) := by decide +kernel
theorem dX10_size_97 : decode cX10_size 97 = .ok (.getfield 54, 3) := by decide +kernel
theorem dX10_size_100 : decode cX10_size 100 = .ok (.getfield 371, 3) := by decide +kernel
theorem dX10_size_103 : decode cX10_size 103 = .ok (.ireturn, 1) := by decide +kernel
theorem dX10_size_104 : decode cX10_size 104 = .ok (.aload_n 0, 1) := by decide +kernel
theorem dX10_size_105 : decode cX10_size 105 = .ok (.getfield 54, 3) := by decide +kernel
theorem dX10_size_108 : decode cX10_size 108 = .ok (.getfield 259, 3) := by decide +kernel
theorem dX10_size_111 : decode cX10_size 111 = .ok (.getfield 387, 3) := by decide +kernel
theorem dX10_size_114 : decode cX10_size 114 = .ok (.ireturn, 1) := by decide +kernel
theorem dX10_size_115 : decode cX10_size 115 = .ok (.aload_n 0, 1) := by decide +kernel
theorem dX10_size_116 : decode cX10_size 116 = .ok (.getfield 54, 3) := by decide +kernel
theorem dX10_size_119 : decode cX10_size 119 = .ok (.getfield 259, 3) := by decide +kernel
theorem dX10_size_122 : decode cX10_size 122 = .ok (.getfield 390, 3) := by decide +kernel
theorem dX10_size_125 : decode cX10_size 125 = .ok (.ireturn, 1) := by decide +kernel
theorem dX10_size_126 : decode cX10_size 126 = .ok (.aload_n 0, 1) := by decide +kernel
theorem dX10_size_127 : decode cX10_size 127 = .ok (.getfield 19, 3) := by decide +kernel
theorem dX10_size_130 : decode cX10_size 130 = .ok (.getfield 123, 3) := by decide +kernel
theorem dX10_size_133 : decode cX10_size 133 = .ok (.ireturn, 1) := by decide +kernel
theorem dX10_size_134 : decode cX10_size 134 = .ok (.aload_n 0, 1) := by decide +kernel
theorem dX10_size_135 : decode cX10_size 135 = .ok (.getfield 19, 3) := by decide +kernel
theorem dX10_size_138 : decode cX10_size 138 = .ok (.getfield 393, 3) := by decide +kernel
theorem dX10_size_141 : decode cX10_size 141 = .ok (.ireturn, 1) := by decide +kernel
theorem dX10_size_142 : decode cX10_size 142 = .ok (.aload_n 0, 1) := by decide +kernel
theorem dX10_size_143 : decode cX10_size 143 = .ok (.getfield 26, 3) := by decide +kernel
theorem dX10_size_146 : decode cX10_size 146 = .ok (.getfield 396, 3) := by decide +kernel
theorem dX10_size_149 : decode cX10_size 149 = .ok (.ireturn, 1) := by decide +kernel
theorem dX10_size_150 : decode cX10_size 150 = .ok (.aload_n 0, 1) := by decide +kernel
theorem dX10_size_151 : decode cX10_size 151 = .ok (.getfield 26, 3) := by decide +kernel
theorem dX10_size_154 : decode cX10_size 154 = .ok (.getfield 399, 3) := by decide +kernel
theorem dX10_size_157 : decode cX10_size 157 = .ok (.ireturn, 1) := by decide +kernel
theorem dX10_size_158 : decode cX10_size 158 = .ok (.aload_n 0, 1) := by decide +kernel
theorem dX10_size_159 : decode cX10_size 159 = .ok (.getfield 10, 3) := by decide +kernel
theorem dX10_size_162 : decode cX10_size 162 = .ok (.getfield 58, 3) := by decide +kernel
theorem dX10_size_165 : decode cX10_size 165 = .ok (.getfield 62, 3) := by decide +kernel
theorem dX10_size_168 : decode cX10_size 168 = .ok (.ireturn, 1) := by decide +kernel
theorem dX10_size_169 : decode cX10_size 169 = .ok (.iconst (-1), 1) := by decide +kernel
theorem dX10_size_170 : decode cX10_size 170 = .ok (.ireturn, 1) := by decide +kernel
theorem dX10_trouble_0 : decode cX10_trouble 0 = .ok (.aload_n 0, 1) := by decide +kernel
theorem dX10_trouble_1 : decode cX10_trouble 1 = .ok (.getfield 108, 3) := by decide +kernel
theorem dX10_trouble_4 : decode cX10_trouble 4 = .ok (.ireturn, 1) := by decide +kernel
theorem dX10_refuse_0 : decode cX10_refuse 0 = .ok (.aload_n 0, 1) := by decide +kernel
theorem dX10_refuse_1 : decode cX10_refuse 1 = .ok (.iload_n 1, 1) := by decide +kernel
theorem dX10_refuse_2 : decode cX10_refuse 2 = .ok (.putfield 108, 3) := by decide +kernel
theorem dX10_refuse_5 : decode cX10_refuse 5 = .ok (.iconst (-1), 1) := by decide +kernel
theorem dX10_refuse_6 : decode cX10_refuse 6 = .ok (.ireturn, 1) := by decide +kernel
theorem dX10_grant_0 : decode cX10_grant 0 = .ok (.aload_n 0, 1) := by decide +kernel
theorem dX10_grant_1 : decode cX10_grant 1 = .ok (.iconst 0, 1) := by decide +kernel
theorem dX10_grant_2 : decode cX10_grant 2 = .ok (.putfield 108, 3) := by decide +kernel
theorem dX10_grant_5 : decode cX10_grant 5 = .ok (.iload_n 1, 1) := by decide +kernel
theorem dX10_grant_6 : decode cX10_grant 6 = .ok (.ireturn, 1) := by decide +kernel
theorem dX10_grantLong_0 : decode cX10_grantLong 0 = .ok (.aload_n 0, 1) := by decide +kernel
theorem dX10_grantLong_1 : decode cX10_grantLong 1 = .ok (.iconst 0, 1) := by decide +kernel
theorem dX10_grantLong_2 : decode cX10_grantLong 2 = .ok (.putfield 108, 3) := by decide +kernel
theorem dX10_grantLong_5 : decode cX10_grantLong 5 = .ok (.lload_n 1, 1) := by decide +kernel
theorem dX10_grantLong_6 : decode cX10_grantLong 6 = .ok (.lreturn, 1) := by decide +kernel
theorem dX10_isWithin_0 : decode cX10_isWithin 0 = .ok (.iload_n 0, 1) := by decide +kernel
theorem dX10_isWithin_1 : decode cX10_isWithin 1 = .ok (.iload_n 1, 1) := by decide +kernel
theorem dX10_isWithin_2 : decode cX10_isWithin 2 = .ok (.if_icmp .lt 12, 3) := by decide +kernel
theorem dX10_isWithin_5 : decode cX10_isWithin 5 = .ok (.iload_n 0, 1) := by decide +kernel
theorem dX10_isWithin_6 : decode cX10_isWithin 6 = .ok (.iload_n 2, 1) := by decide +kernel
theorem dX10_isWithin_7 : decode cX10_isWithin 7 = .ok (.if_icmp .gt 7, 3) := by decide +kernel
theorem dX10_isWithin_10 : decode cX10_isWithin 10 = .ok (.iconst 1, 1) := by decide +kernel
theorem dX10_isWithin_11 : decode cX10_isWithin 11 = .ok (.goto 4, 3) := by decide +kernel
theorem dX10_isWithin_14 : decode cX10_isWithin 14 = .ok (.iconst 0, 1) := by decide +kernel
theorem dX10_isWithin_15 : decode cX10_isWithin 15 = .ok (.ireturn, 1) := by decide +kernel
theorem dX10_hasTown_0 : decode cX10_hasTown 0 = .ok (.aload_n 0, 1) := by decide +kernel
theorem dX10_hasTown_1 : decode cX10_hasTown 1 = .ok (.getfield 54, 3) := by decide +kernel
theorem dX10_hasTown_4 : decode cX10_hasTown 4 = .ok (.getfield 102, 3) := by decide +kernel
theorem dX10_hasTown_7 : decode cX10_hasTown 7 = .ok (.ifCond .le 7, 3) := by decide +kernel
theorem dX10_hasTown_10 : decode cX10_hasTown 10 = .ok (.iconst 1, 1) := by decide +kernel
theorem dX10_hasTown_11 : decode cX10_hasTown 11 = .ok (.goto 4, 3) := by decide +kernel
theorem dX10_hasTown_14 : decode cX10_hasTown 14 = .ok (.iconst 0, 1) := by decide +kernel
theorem dX10_hasTown_15 : decode cX10_hasTown 15 = .ok (.ireturn, 1) := by decide +kernel
theorem dX10_isHouse_0 : decode cX10_isHouse 0 = .ok (.iload_n 1, 1) := by decide +kernel
theorem dX10_isHouse_1 : decode cX10_isHouse 1 = .ok (.ifCond .lt 18, 3) := by decide +kernel
theorem dX10_isHouse_4 : decode cX10_isHouse 4 = .ok (.iload_n 1, 1) := by decide +kernel
theorem dX10_isHouse_5 : decode cX10_isHouse 5 = .ok (.aload_n 0, 1) := by decide +kernel
theorem dX10_isHouse_6 : decode cX10_isHouse 6 = .ok (.getfield 54, 3) := by decide +kernel
theorem dX10_isHouse_9 : decode cX10_isHouse 9 = .ok (.getfield 102, 3) := by decide +kernel
theorem dX10_isHouse_12 : decode cX10_isHouse 12 = .ok (.if_icmp .ge 7, 3) := by decide +kernel
theorem dX10_isHouse_15 : decode cX10_isHouse 15 = .ok (.iconst 1, 1) := by decide +kernel
theorem dX10_isHouse_16 : decode cX10_isHouse 16 = .ok (.goto 4, 3) := by decide +kernel
theorem dX10_isHouse_19 : decode cX10_isHouse 19 = .ok (.iconst 0, 1) := by decide +kernel
theorem dX10_isHouse_20 : decode cX10_isHouse 20 = .ok (.ireturn, 1) := by decide +kernel
theorem dX10_areTwoHouses_0 : decode cX10_areTwoHouses 0 = .ok (.aload_n 0, 1) := by decide +kernel
theorem dX10_areTwoHouses_1 : decode cX10_areTwoHouses 1 = .ok (.iload_n 1, 1) := by decide +kernel
theorem dX10_areTwoHouses_2 : decode cX10_areTwoHouses 2 = .ok (.invokevirtual 111, 3) := by decide +kernel
theorem dX10_areTwoHouses_5 : decode cX10_areTwoHouses 5 = .ok (.ifCond .eq 20, 3) := by decide +kernel
theorem dX10_areTwoHouses_8 : decode cX10_areTwoHouses 8 = .ok (.aload_n 0, 1) := by decide +kernel
theorem dX10_areTwoHouses_9 : decode cX10_areTwoHouses 9 = .ok (.iload_n 2, 1) := by decide +kernel
theorem dX10_areTwoHouses_10 : decode cX10_areTwoHouses 10 = .ok (.invokevirtual 111, 3) := by decide +kernel
theorem dX10_areTwoHouses_13 : decode cX10_areTwoHouses 13 = .ok (.ifCond .eq 12, 3) := by decide +kernel
theorem dX10_areTwoHouses_16 : decode cX10_areTwoHouses 16 = .ok (.iload_n 1, 1) := by decide +kernel
theorem dX10_areTwoHouses_17 : decode cX10_areTwoHouses 17 = .ok (.iload_n 2, 1) := by decide +kernel
theorem dX10_areTwoHouses_18 : decode cX10_areTwoHouses 18 = .ok (.if_icmp .eq 7, 3) := by decide +kernel
theorem dX10_areTwoHouses_21 : decode cX10_areTwoHouses 21 = .ok (.iconst 1, 1) := by decide +kernel
theorem dX10_areTwoHouses_22 : decode cX10_areTwoHouses 22 = .ok (.goto 4, 3) := by decide +kernel
theorem dX10_areTwoHouses_25 : decode cX10_areTwoHouses 25 = .ok (.iconst 0, 1) := by decide +kernel
theorem dX10_areTwoHouses_26 : decode cX10_areTwoHouses 26 = .ok (.ireturn, 1) := by decide +kernel
theorem dX10_isBird_0 : decode cX10_isBird 0 = .ok (.iload_n 1, 1) := by decide +kernel
theorem dX10_isBird_1 : decode cX10_isBird 1 = .ok (.ifCond .lt 18, 3) := by decide +kernel
theorem dX10_isBird_4 : decode cX10_isBird 4 = .ok (.iload_n 1, 1) := by decide +kernel
theorem dX10_isBird_5 : decode cX10_isBird 5 = .ok (.aload_n 0, 1) := by decide +kernel
theorem dX10_isBird_6 : decode cX10_isBird 6 = .ok (.getfield 54, 3) := by decide +kernel
theorem dX10_isBird_9 : decode cX10_isBird 9 = .ok (.getfield 371, 3) := by decide +kernel
theorem dX10_isBird_12 : decode cX10_isBird 12 = .ok (.if_icmp .ge 7, 3) := by decide +kernel
theorem dX10_isBird_15 : decode cX10_isBird 15 = .ok (.iconst 1, 1) := by decide +kernel
theorem dX10_isBird_16 : decode cX10_isBird 16 = .ok (.goto 4, 3) := by decide +kernel
theorem dX10_isBird_19 : decode cX10_isBird 19 = .ok (.iconst 0, 1) := by decide +kernel
theorem dX10_isBird_20 : decode cX10_isBird 20 = .ok (.ireturn, 1) := by decide +kernel
theorem dX10_areTwoBirds_0 : decode cX10_areTwoBirds 0 = .ok (.aload_n 0, 1) := by decide +kernel
theorem dX10_areTwoBirds_1 : decode cX10_areTwoBirds 1 = .ok (.iload_n 1, 1) := by decide +kernel
theorem dX10_areTwoBirds_2 : decode cX10_areTwoBirds 2 = .ok (.invokevirtual 134, 3) := by decide +kernel
theorem dX10_areTwoBirds_5 : decode cX10_areTwoBirds 5 = .ok (.ifCond .eq 20, 3) := by decide +kernel
theorem dX10_areTwoBirds_8 : decode cX10_areTwoBirds 8 = .ok (.aload_n 0, 1) := by decide +kernel
theorem dX10_areTwoBirds_9 : decode cX10_areTwoBirds 9 = .ok (.iload_n 2, 1) := by decide +kernel
theorem dX10_areTwoBirds_10 : decode cX10_areTwoBirds 10 = .ok (.invokevirtual 134, 3) := by decide +kernel
theorem dX10_areTwoBirds_13 : decode cX10_areTwoBirds 13 = .ok (.ifCond .eq 12, 3) := by decide +kernel
theorem dX10_areTwoBirds_16 : decode cX10_areTwoBirds 16 = .ok (.iload_n 1, 1) := by decide +kernel
theorem dX10_areTwoBirds_17 : decode cX10_areTwoBirds 17 = .ok (.iload_n 2, 1) := by decide +kernel
theorem dX10_areTwoBirds_18 : decode cX10_areTwoBirds 18 = .ok (.if_icmp .eq 7, 3) := by decide +kernel
theorem dX10_areTwoBirds_21 : decode cX10_areTwoBirds 21 = .ok (.iconst 1, 1) := by decide +kernel
theorem dX10_areTwoBirds_22 : decode cX10_areTwoBirds 22 = .ok (.goto 4, 3) := by decide +kernel
theorem dX10_areTwoBirds_25 : decode cX10_areTwoBirds 25 = .ok (.iconst 0, 1) := by decide +kernel
theorem dX10_areTwoBirds_26 : decode cX10_areTwoBirds 26 = .ok (.ireturn, 1) := by decide +kernel
theorem dX10_isStray_0 : decode cX10_isStray 0 = .ok (.iload_n 1, 1) := by decide +kernel
theorem dX10_isStray_1 : decode cX10_isStray 1 = .ok (.ifCond .lt 21, 3) := by decide +kernel
theorem dX10_isStray_4 : decode cX10_isStray 4 = .ok (.iload_n 1, 1) := by decide +kernel
theorem dX10_isStray_5 : decode cX10_isStray 5 = .ok (.aload_n 0, 1) := by decide +kernel
theorem dX10_isStray_6 : decode cX10_isStray 6 = .ok (.getfield 54, 3) := by decide +kernel
theorem dX10_isStray_9 : decode cX10_isStray 9 = .ok (.getfield 259, 3) := by decide +kernel
theorem dX10_isStray_12 : decode cX10_isStray 12 = .ok (.getfield 387, 3) := by decide +kernel
theorem dX10_isStray_15 : decode cX10_isStray 15 = .ok (.if_icmp .ge 7, 3) := by decide +kernel
theorem dX10_isStray_18 : decode cX10_isStray 18 = .ok (.iconst 1, 1) := by decide +kernel
theorem dX10_isStray_19 : decode cX10_isStray 19 = .ok (.goto 4, 3) := by decide +kernel
theorem dX10_isStray_22 : decode cX10_isStray 22 = .ok (.iconst 0, 1) := by decide +kernel
theorem dX10_isStray_23 : decode cX10_isStray 23 = .ok (.ireturn, 1) := by decide +kernel
theorem dX10_oneSends_0 : decode cX10_oneSends 0 = .ok (.iload_n 0, 1) := by decide +kernel
theorem dX10_oneSends_1 : decode cX10_oneSends 1 = .ok (.iconst 2, 1) := by decide +kernel
theorem dX10_oneSends_2 : decode cX10_oneSends 2 = .ok (.iand, 1) := by decide +kernel
theorem dX10_oneSends_3 : decode cX10_oneSends 3 = .ok (.ifCond .eq 7, 3) := by decide +kernel
theorem dX10_oneSends_6 : decode cX10_oneSends 6 = .ok (.iconst 1, 1) := by decide +kernel
theorem dX10_oneSends_7 : decode cX10_oneSends 7 = .ok (.goto 4, 3) := by decide +kernel
theorem dX10_oneSends_10 : decode cX10_oneSends 10 = .ok (.iconst 0, 1) := by decide +kernel
theorem dX10_oneSends_11 : decode cX10_oneSends 11 = .ok (.ireturn, 1) := by decide +kernel
theorem dX10_otherSends_0 : decode cX10_otherSends 0 = .ok (.iload_n 0, 1) := by decide +kernel
theorem dX10_otherSends_1 : decode cX10_otherSends 1 = .ok (.iconst 1, 1) := by decide +kernel
theorem dX10_otherSends_2 : decode cX10_otherSends 2 = .ok (.iand, 1) := by decide +kernel
theorem dX10_otherSends_3 : decode cX10_otherSends 3 = .ok (.ifCond .eq 7, 3) := by decide +kernel
theorem dX10_otherSends_6 : decode cX10_otherSends 6 = .ok (.iconst 1, 1) := by decide +kernel
theorem dX10_otherSends_7 : decode cX10_otherSends 7 = .ok (.goto 4, 3) := by decide +kernel
theorem dX10_otherSends_10 : decode cX10_otherSends 10 = .ok (.iconst 0, 1) := by decide +kernel
theorem dX10_otherSends_11 : decode cX10_otherSends 11 = .ok (.ireturn, 1) := by decide +kernel
theorem dX10_gain_0 : decode cX10_gain 0 = .ok (.iload_n 1, 1) := by decide +kernel
theorem dX10_gain_1 : decode cX10_gain 1 = .ok (.ifCond .eq 13, 3) := by decide +kernel
theorem dX10_gain_4 : decode cX10_gain 4 = .ok (.iload_n 2, 1) := by decide +kernel
theorem dX10_gain_5 : decode cX10_gain 5 = .ok (.ifCond .eq 7, 3) := by decide +kernel
theorem dX10_gain_8 : decode cX10_gain 8 = .ok (.iconst 1, 1) := by decide +kernel
theorem dX10_gain_9 : decode cX10_gain 9 = .ok (.goto 4, 3) := by decide +kernel
theorem dX10_gain_12 : decode cX10_gain 12 = .ok (.iload_n 0, 1) := by decide +kernel
theorem dX10_gain_13 : decode cX10_gain 13 = .ok (.ireturn, 1) := by decide +kernel
theorem dX10_gain_14 : decode cX10_gain 14 = .ok (.iload_n 2, 1) := by decide +kernel
theorem dX10_gain_15 : decode cX10_gain 15 = .ok (.ifCond .eq 7, 3) := by decide +kernel
theorem dX10_gain_18 : decode cX10_gain 18 = .ok (.iconst 0, 1) := by decide +kernel
theorem dX10_gain_19 : decode cX10_gain 19 = .ok (.goto 4, 3) := by decide +kernel
theorem dX10_gain_22 : decode cX10_gain 22 = .ok (.iconst 3, 1) := by decide +kernel
theorem dX10_gain_23 : decode cX10_gain 23 = .ok (.ireturn, 1) := by decide +kernel
theorem dX10_isRest_0 : decode cX10_isRest 0 = .ok (.iload_n 1, 1) := by decide +kernel
theorem dX10_isRest_1 : decode cX10_isRest 1 = .ok (.invokestatic 300, 3) := by decide +kernel
theorem dX10_isRest_4 : decode cX10_isRest 4 = .ok (.istore_n 2, 1) := by decide +kernel
theorem dX10_isRest_5 : decode cX10_isRest 5 = .ok (.iload_n 1, 1) := by decide +kernel
theorem dX10_isRest_6 : decode cX10_isRest 6 = .ok (.invokestatic 303, 3) := by decide +kernel
theorem dX10_isRest_9 : decode cX10_isRest 9 = .ok (.istore_n 3, 1) := by decide +kernel
theorem dX10_isRest_10 : decode cX10_isRest 10 = .ok (.iload_n 0, 1) := by decide +kernel
theorem dX10_isRest_11 : decode cX10_isRest 11 = .ok (.iload_n 2, 1) := by decide +kernel
theorem dX10_isRest_12 : decode cX10_isRest 12 = .ok (.ifCond .ne 7, 3) := by decide +kernel
theorem dX10_isRest_15 : decode cX10_isRest 15 = .ok (.iconst 1, 1) := by decide +kernel
theorem dX10_isRest_16 : decode cX10_isRest 16 = .ok (.goto 4, 3) := by decide +kernel
theorem dX10_isRest_19 : decode cX10_isRest 19 = .ok (.iconst 0, 1) := by decide +kernel
theorem dX10_isRest_20 : decode cX10_isRest 20 = .ok (.iload_n 3, 1) := by decide +kernel
theorem dX10_isRest_21 : decode cX10_isRest 21 = .ok (.invokestatic 293, 3) := by decide +kernel
theorem dX10_isRest_24 : decode cX10_isRest 24 = .ok (.iload_n 0, 1) := by decide +kernel
theorem dX10_isRest_25 : decode cX10_isRest 25 = .ok (.iload_n 2, 1) := by decide +kernel
theorem dX10_isRest_26 : decode cX10_isRest 26 = .ok (.iload_n 3, 1) := by decide +kernel
theorem dX10_isRest_27 : decode cX10_isRest 27 = .ok (.invokestatic 293, 3) := by decide +kernel
theorem dX10_isRest_30 : decode cX10_isRest 30 = .ok (.if_icmp .gt 30, 3) := by decide +kernel
theorem dX10_isRest_33 : decode cX10_isRest 33 = .ok (.iload_n 0, 1) := by decide +kernel
theorem dX10_isRest_34 : decode cX10_isRest 34 = .ok (.iload_n 3, 1) := by decide +kernel
theorem dX10_isRest_35 : decode cX10_isRest 35 = .ok (.ifCond .ne 7, 3) := by decide +kernel
theorem dX10_isRest_38 : decode cX10_isRest 38 = .ok (.iconst 1, 1) := by decide +kernel
theorem dX10_isRest_39 : decode cX10_isRest 39 = .ok (.goto 4, 3) := by decide +kernel
theorem dX10_isRest_42 : decode cX10_isRest 42 = .ok (.iconst 0, 1) := by decide +kernel
theorem dX10_isRest_43 : decode cX10_isRest 43 = .ok (.iload_n 2, 1) := by decide +kernel
theorem dX10_isRest_44 : decode cX10_isRest 44 = .ok (.invokestatic 293, 3) := by decide +kernel
theorem dX10_isRest_47 : decode cX10_isRest 47 = .ok (.iload_n 0, 1) := by decide +kernel
theorem dX10_isRest_48 : decode cX10_isRest 48 = .ok (.iload_n 3, 1) := by decide +kernel
theorem dX10_isRest_49 : decode cX10_isRest 49 = .ok (.iload_n 2, 1) := by decide +kernel
theorem dX10_isRest_50 : decode cX10_isRest 50 = .ok (.invokestatic 293, 3) := by decide +kernel
theorem dX10_isRest_53 : decode cX10_isRest 53 = .ok (.if_icmp .gt 7, 3) := by decide +kernel
theorem dX10_isRest_56 : decode cX10_isRest 56 = .ok (.iconst 1, 1) := by decide +kernel
theorem dX10_isRest_57 : decode cX10_isRest 57 = .ok (.goto 4, 3) := by decide +kernel
theorem dX10_isRest_60 : decode cX10_isRest 60 = .ok (.iconst 0, 1) := by decide +kernel
theorem dX10_isRest_61 : decode cX10_isRest 61 = .ok (.ireturn, 1) := by decide +kernel
theorem dX11_init_0 : decode cX11_init 0 = .ok (.aload_n 0, 1) := by decide +kernel
theorem dX11_init_1 : decode cX11_init 1 = .ok (.invokespecial 1, 3) := by decide +kernel
theorem dX11_init_4 : decode cX11_init 4 = .ok (.aload_n 0, 1) := by decide +kernel
theorem dX11_init_5 : decode cX11_init 5 = .ok (.sipush 900, 3) := by decide +kernel
theorem dX11_init_8 : decode cX11_init 8 = .ok (.newarray .int, 2) := by decide +kernel
theorem dX11_init_10 : decode cX11_init 10 = .ok (.putfield 7, 3) := by decide +kernel
theorem dX11_init_13 : decode cX11_init 13 = .ok (.aload_n 0, 1) := by decide +kernel
theorem dX11_init_14 : decode cX11_init 14 = .ok (.iconst (-1), 1) := by decide +kernel
theorem dX11_init_15 : decode cX11_init 15 = .ok (.putfield 13, 3) := by decide +kernel
theorem dX11_init_18 : decode cX11_init 18 = .ok (.aload_n 0, 1) := by decide +kernel
theorem dX11_init_19 : decode cX11_init 19 = .ok (.bipush 8, 2) := by decide +kernel
theorem dX11_init_21 : decode cX11_init 21 = .ok (.newarray .int, 2) := by decide +kernel
theorem dX11_init_23 : decode cX11_init 23 = .ok (.putfield 17, 3) := by decide +kernel
theorem dX11_init_26 : decode cX11_init 26 = .ok (.aload_n 0, 1) := by decide +kernel
theorem dX11_init_27 : decode cX11_init 27 = .ok (.sipush 219, 3) := by decide +kernel
theorem dX11_init_30 : decode cX11_init 30 = .ok (.newarray .int, 2) := by decide +kernel
theorem dX11_init_32 : decode cX11_init 32 = .ok (.putfield 20, 3) := by decide +kernel
theorem dX11_init_35 : decode cX11_init 35 = .ok (.aload_n 0, 1) := by decide +kernel
theorem dX11_init_36 : decode cX11_init 36 = .ok (.sipush 219, 3) := by decide +kernel
theorem dX11_init_39 : decode cX11_init 39 = .ok (.newarray .int, 2) := by decide +kernel
theorem dX11_init_41 : decode cX11_init 41 = .ok (.putfield 23, 3) := by decide +kernel
theorem dX11_init_44 : decode cX11_init 44 = .ok (.aload_n 0, 1) := by decide +kernel
theorem dX11_init_45 : decode cX11_init 45 = .ok (.bipush 22, 2) := by decide +kernel
theorem dX11_init_47 : decode cX11_init 47 = .ok (.newarray .int, 2) := by decide +kernel
theorem dX11_init_49 : decode cX11_init 49 = .ok (.putfield 26, 3) := by decide +kernel
theorem dX11_init_52 : decode cX11_init 52 = .ok (.aload_n 0, 1) := by decide +kernel
theorem dX11_init_53 : decode cX11_init 53 = .ok (.sipush 352, 3) := by decide +kernel
theorem dX11_init_56 : decode cX11_init 56 = .ok (.newarray .int, 2) := by decide +kernel
theorem dX11_init_58 : decode cX11_init 58 = .ok (.putfield 29, 3) := by decide +kernel
theorem dX11_init_61 : decode cX11_init 61 = .ok (.aload_n 0, 1) := by decide +kernel
theorem dX11_init_62 : decode cX11_init 62 = .ok (.bipush 66, 2) := by decide +kernel
theorem dX11_init_64 : decode cX11_init 64 = .ok (.newarray .int, 2) := by decide +kernel
theorem dX11_init_66 : decode cX11_init 66 = .ok (.putfield 32, 3) := by decide +kernel
theorem dX11_init_69 : decode cX11_init 69 = .ok (.aload_n 0, 1) := by decide +kernel
theorem dX11_init_70 : decode cX11_init 70 = .ok (.bipush 7, 2) := by decide +kernel
theorem dX11_init_72 : decode cX11_init 72 = .ok (.newarray .int, 2) := by decide +kernel
theorem dX11_init_74 : decode cX11_init 74 = .ok (.putfield 35, 3) := by decide +kernel
theorem dX11_init_77 : decode cX11_init 77 = .ok (.aload_n 0, 1) := by decide +kernel
theorem dX11_init_78 : decode cX11_init 78 = .ok (.bipush 7, 2) := by decide +kernel
theorem dX11_init_80 : decode cX11_init 80 = .ok (.newarray .int, 2) := by decide +kernel
theorem dX11_init_82 : decode cX11_init 82 = .ok (.putfield 38, 3) := by decide +kernel
theorem dX11_init_85 : decode cX11_init 85 = .ok (.aload_n 0, 1) := by decide +kernel
theorem dX11_init_86 : decode cX11_init 86 = .ok (.iconst 3, 1) := by decide +kernel
theorem dX11_init_87 : decode cX11_init 87 = .ok (.newarray .int, 2) := by decide +kernel
theorem dX11_init_89 : decode cX11_init 89 = .ok (.putfield 41, 3) := by decide +kernel
theorem dX11_init_92 : decode cX11_init 92 = .ok (.aload_n 0, 1) := by decide +kernel
theorem dX11_init_93 : decode cX11_init 93 = .ok (.iconst 3, 1) := by decide +kernel
theorem dX11_init_94 : decode cX11_init 94 = .ok (.newarray .int, 2) := by decide +kernel
theorem dX11_init_96 : decode cX11_init 96 = .ok (.putfield 44, 3) := by decide +kernel
theorem dX11_init_99 : decode cX11_init 99 = .ok (.aload_n 0, 1) := by decide +kernel
theorem dX11_init_100 : decode cX11_init 100 = .ok (.bipush 18, 2) := by decide +kernel
theorem dX11_init_102 : decode cX11_init 102 = .ok (.newarray .int, 2) := by decide +kernel
theorem dX11_init_104 : decode cX11_init 104 = .ok (.putfield 47, 3) := by decide +kernel
theorem dX11_init_107 : decode cX11_init 107 = .ok (.aload_n 0, 1) := by decide +kernel
theorem dX11_init_108 : decode cX11_init 108 = .ok (.sipush 984, 3) := by decide +kernel
theorem dX11_init_111 : decode cX11_init 111 = .ok (.newarray .int, 2) := by decide +kernel
theorem dX11_init_113 : decode cX11_init 113 = .ok (.putfield 50, 3) := by decide +kernel
theorem dX11_init_116 : decode cX11_init 116 = .ok (.return_, 1) := by decide +kernel
theorem dX11_thrown_0 : decode cX11_thrown 0 = .ok (.aload_n 0, 1) := by decide +kernel
theorem dX11_thrown_1 : decode cX11_thrown 1 = .ok (.getfield 53, 3) := by decide +kernel
theorem dX11_thrown_4 : decode cX11_thrown 4 = .ok (.ireturn, 1) := by decide +kernel
theorem dX11_good_0 : decode cX11_good 0 = .ok (.aload_n 0, 1) := by decide +kernel
theorem dX11_good_1 : decode cX11_good 1 = .ok (.iconst 0, 1) := by decide +kernel
theorem dX11_good_2 : decode cX11_good 2 = .ok (.putfield 53, 3) := by decide +kernel
theorem dX11_good_5 : decode cX11_good 5 = .ok (.aload_n 0, 1) := by decide +kernel
theorem dX11_good_6 : decode cX11_good 6 = .ok (.iconst 0, 1) := by decide +kernel
theorem dX11_good_7 : decode cX11_good 7 = .ok (.putfield 56, 3) := by decide +kernel
theorem dX11_good_10 : decode cX11_good 10 = .ok (.return_, 1) := by decide +kernel
theorem dX11_no_0 : decode cX11_no 0 = .ok (.aload_n 0, 1) := by decide +kernel
theorem dX11_no_1 : decode cX11_no 1 = .ok (.iload_n 1, 1) := by decide +kernel
theorem dX11_no_2 : decode cX11_no 2 = .ok (.putfield 56, 3) := by decide +kernel
theorem dX11_no_5 : decode cX11_no 5 = .ok (.iconst (-1), 1) := by decide +kernel
theorem dX11_no_6 : decode cX11_no 6 = .ok (.ireturn, 1) := by decide +kernel
theorem dX11_isNot_0 : decode cX11_isNot 0 = .ok (.aload_n 0, 1) := by decide +kernel
theorem dX11_isNot_1 : decode cX11_isNot 1 = .ok (.iload_n 1, 1) := by decide +kernel
theorem dX11_isNot_2 : decode cX11_isNot 2 = .ok (.putfield 56, 3) := by decide +kernel
theorem dX11_isNot_5 : decode cX11_isNot 5 = .ok (.iconst 0, 1) := by decide +kernel
theorem dX11_isNot_6 : decode cX11_isNot 6 = .ok (.ireturn, 1) := by decide +kernel
theorem dX11_in_0 : decode cX11_in 0 = .ok (.iload_n 0, 1) := by decide +kernel
theorem dX11_in_1 : decode cX11_in 1 = .ok (.iload_n 1, 1) := by decide +kernel
theorem dX11_in_2 : decode cX11_in 2 = .ok (.if_icmp .lt 12, 3) := by decide +kernel
theorem dX11_in_5 : decode cX11_in 5 = .ok (.iload_n 0, 1) := by decide +kernel
theorem dX11_in_6 : decode cX11_in 6 = .ok (.iload_n 2, 1) := by decide +kernel
theorem dX11_in_7 : decode cX11_in 7 = .ok (.if_icmp .gt 7, 3) := by decide +kernel
theorem dX11_in_10 : decode cX11_in 10 = .ok (.iconst 1, 1) := by decide +kernel
theorem dX11_in_11 : decode cX11_in 11 = .ok (.goto 4, 3) := by decide +kernel
theorem dX11_in_14 : decode cX11_in 14 = .ok (.iconst 0, 1) := by decide +kernel
theorem dX11_in_15 : decode cX11_in 15 = .ok (.ireturn, 1) := by decide +kernel
theorem dX11_hasBit_0 : decode cX11_hasBit 0 = .ok (.iload_n 0, 1) := by decide +kernel
theorem dX11_hasBit_1 : decode cX11_hasBit 1 = .ok (.iload_n 1, 1) := by decide +kernel
theorem dX11_hasBit_2 : decode cX11_hasBit 2 = .ok (.ishr, 1) := by decide +kernel
theorem dX11_hasBit_3 : decode cX11_hasBit 3 = .ok (.iconst 1, 1) := by decide +kernel
theorem dX11_hasBit_4 : decode cX11_hasBit 4 = .ok (.iand, 1) := by decide +kernel
theorem dX11_hasBit_5 : decode cX11_hasBit 5 = .ok (.iconst 1, 1) := by decide +kernel
theorem dX11_hasBit_6 : decode cX11_hasBit 6 = .ok (.if_icmp .ne 7, 3) := by decide +kernel
theorem dX11_hasBit_9 : decode cX11_hasBit 9 = .ok (.iconst 1, 1) := by decide +kernel
theorem dX11_hasBit_10 : decode cX11_hasBit 10 = .ok (.goto 4, 3) := by decide +kernel
theorem dX11_hasBit_13 : decode cX11_hasBit 13 = .ok (.iconst 0, 1) := by decide +kernel
theorem dX11_hasBit_14 : decode cX11_hasBit 14 = .ok (.ireturn, 1) := by decide +kernel
theorem dX11_ones_0 : decode cX11_ones 0 = .ok (.iconst 0, 1) := by decide +kernel
theorem dX11_ones_1 : decode cX11_ones 1 = .ok (.istore_n 1, 1) := by decide +kernel
theorem dX11_ones_2 : decode cX11_ones 2 = .ok (.iconst 0, 1) := by decide +kernel
theorem dX11_ones_3 : decode cX11_ones 3 = .ok (.istore_n 2, 1) := by decide +kernel
theorem dX11_ones_4 : decode cX11_ones 4 = .ok (.iload_n 2, 1) := by decide +kernel
theorem dX11_ones_5 : decode cX11_ones 5 = .ok (.bipush 8, 2) := by decide +kernel
theorem dX11_ones_7 : decode cX11_ones 7 = .ok (.if_icmp .ge 17, 3) := by decide +kernel
theorem dX11_ones_10 : decode cX11_ones 10 = .ok (.iload_n 1, 1) := by decide +kernel
theorem dX11_ones_11 : decode cX11_ones 11 = .ok (.iload_n 0, 1) := by decide +kernel
theorem dX11_ones_12 : decode cX11_ones 12 = .ok (.iload_n 2, 1) := by decide +kernel
theorem dX11_ones_13 : decode cX11_ones 13 = .ok (.ishr, 1) := by decide +kernel
theorem dX11_ones_14 : decode cX11_ones 14 = .ok (.iconst 1, 1) := by decide +kernel
theorem dX11_ones_15 : decode cX11_ones 15 = .ok (.iand, 1) := by decide +kernel
theorem dX11_ones_16 : decode cX11_ones 16 = .ok (.iadd, 1) := by decide +kernel
theorem dX11_ones_17 : decode cX11_ones 17 = .ok (.istore_n 1, 1) := by decide +kernel
theorem dX11_ones_18 : decode cX11_ones 18 = .ok (.iinc 2 1, 3) := by decide +kernel
theorem dX11_ones_21 : decode cX11_ones 21 = .ok (.goto (-17), 3) := by decide +kernel
theorem dX11_ones_24 : decode cX11_ones 24 = .ok (.iload_n 1, 1) := by decide +kernel
theorem dX11_ones_25 : decode cX11_ones 25 = .ok (.ireturn, 1) := by decide +kernel
theorem dX11_off_0 : decode cX11_off 0 = .ok (.iload_n 0, 1) := by decide +kernel
theorem dX11_off_1 : decode cX11_off 1 = .ok (.iload_n 1, 1) := by decide +kernel
theorem dX11_off_2 : decode cX11_off 2 = .ok (.if_icmp .le 9, 3) := by decide +kernel
theorem dX11_off_5 : decode cX11_off 5 = .ok (.iload_n 0, 1) := by decide +kernel
theorem dX11_off_6 : decode cX11_off 6 = .ok (.iload_n 1, 1) := by decide +kernel
theorem dX11_off_7 : decode cX11_off 7 = .ok (.isub, 1) := by decide +kernel
theorem dX11_off_8 : decode cX11_off 8 = .ok (.goto 6, 3) := by decide +kernel
theorem dX11_off_11 : decode cX11_off 11 = .ok (.iload_n 1, 1) := by decide +kernel
theorem dX11_off_12 : decode cX11_off 12 = .ok (.iload_n 0, 1) := by decide +kernel
theorem dX11_off_13 : decode cX11_off 13 = .ok (.isub, 1) := by decide +kernel
theorem dX11_off_14 : decode cX11_off 14 = .ok (.ireturn, 1) := by decide +kernel
theorem dX11_copy_0 : decode cX11_copy 0 = .ok (.iconst 0, 1) := by decide +kernel
theorem dX11_copy_1 : decode cX11_copy 1 = .ok (.istore 5, 2) := by decide +kernel
theorem dX11_copy_3 : decode cX11_copy 3 = .ok (.iload 5, 2) := by decide +kernel
theorem dX11_copy_5 : decode cX11_copy 5 = .ok (.iload 4, 2) := by decide +kernel
theorem dX11_copy_7 : decode cX11_copy 7 = .ok (.if_icmp .ge 21, 3) := by decide +kernel
theorem dX11_copy_10 : decode cX11_copy 10 = .ok (.aload_n 2, 1) := by decide +kernel
theorem dX11_copy_11 : decode cX11_copy 11 = .ok (.iload_n 3, 1) := by decide +kernel
theorem dX11_copy_12 : decode cX11_copy 12 = .ok (.iload 5, 2) := by decide +kernel
theorem dX11_copy_14 : decode cX11_copy 14 = .ok (.iadd, 1) := by decide +kernel
theorem dX11_copy_15 : decode cX11_copy 15 = .ok (.aload_n 0, 1) := by decide +kernel
theorem dX11_copy_16 : decode cX11_copy 16 = .ok (.iload_n 1, 1) := by decide +kernel
theorem dX11_copy_17 : decode cX11_copy 17 = .ok (.iload 5, 2) := by decide +kernel
theorem dX11_copy_19 : decode cX11_copy 19 = .ok (.iadd, 1) := by decide +kernel
theorem dX11_copy_20 : decode cX11_copy 20 = .ok (.iaload, 1) := by decide +kernel
theorem dX11_copy_21 : decode cX11_copy 21 = .ok (.iastore, 1) := by decide +kernel
theorem dX11_copy_22 : decode cX11_copy 22 = .ok (.iinc 5 1, 3) := by decide +kernel
theorem dX11_copy_25 : decode cX11_copy 25 = .ok (.goto (-22), 3) := by decide +kernel
theorem dX11_copy_28 : decode cX11_copy 28 = .ok (.return_, 1) := by decide +kernel
theorem dX11_lowest_0 : decode cX11_lowest 0 = .ok (.lload_n 2, 1) := by decide +kernel
theorem dX11_lowest_1 : decode cX11_lowest 1 = .ok (.lstore 5, 2) := by decide +kernel
theorem dX11_lowest_3 : decode cX11_lowest 3 = .ok (.lload_n 0, 1) := by decide +kernel
theorem dX11_lowest_4 : decode cX11_lowest 4 = .ok (.lstore 7, 2) := by decide +kernel
theorem dX11_lowest_6 : decode cX11_lowest 6 = .ok (.lload 7, 2) := by decide +kernel
theorem dX11_lowest_8 : decode cX11_lowest 8 = .ok (.lconst 0, 1) := by decide +kernel
theorem dX11_lowest_9 : decode cX11_lowest 9 = .ok (.lcmp, 1) := by decide +kernel
theorem dX11_lowest_10 : decode cX11_lowest 10 = .ok (.ifCond .eq 21, 3) := by decide +kernel
theorem dX11_lowest_13 : decode cX11_lowest 13 = .ok (.lload 5, 2) := by decide +kernel
theorem dX11_lowest_15 : decode cX11_lowest 15 = .ok (.lload 7, 2) := by decide +kernel
theorem dX11_lowest_17 : decode cX11_lowest 17 = .ok (.lrem, 1) := by decide +kernel
theorem dX11_lowest_18 : decode cX11_lowest 18 = .ok (.lstore 9, 2) := by decide +kernel
theorem dX11_lowest_20 : decode cX11_lowest 20 = .ok (.lload 7, 2) := by decide +kernel
theorem dX11_lowest_22 : decode cX11_lowest 22 = .ok (.lstore 5, 2) := by decide +kernel
theorem dX11_lowest_24 : decode cX11_lowest 24 = .ok (.lload 9, 2) := by decide +kernel
theorem dX11_lowest_26 : decode cX11_lowest 26 = .ok (.lstore 7, 2) := by decide +kernel
theorem dX11_lowest_28 : decode cX11_lowest 28 = .ok (.goto (-22), 3) := by decide +kernel
theorem dX11_lowest_31 : decode cX11_lowest 31 = .ok (.iload 4, 2) := by decide +kernel
theorem dX11_lowest_33 : decode cX11_lowest 33 = .ok (.ifCond .eq 7, 3) := by decide +kernel
theorem dX11_lowest_36 : decode cX11_lowest 36 = .ok (.lload_n 2, 1) := by decide +kernel
theorem dX11_lowest_37 : decode cX11_lowest 37 = .ok (.goto 4, 3) := by decide +kernel
theorem dX11_lowest_40 : decode cX11_lowest 40 = .ok (.lload_n 0, 1) := by decide +kernel
theorem dX11_lowest_41 : decode cX11_lowest 41 = .ok (.lload 5, 2) := by decide +kernel
theorem dX11_lowest_43 : decode cX11_lowest 43 = .ok (.ldiv, 1) := by decide +kernel
theorem dX11_lowest_44 : decode cX11_lowest 44 = .ok (.lreturn, 1) := by decide +kernel
theorem dX11_power_0 : decode cX11_power 0 = .ok (.lconst 1, 1) := by decide +kernel
theorem dX11_power_1 : decode cX11_power 1 = .ok (.lstore_n 3, 1) := by decide +kernel
theorem dX11_power_2 : decode cX11_power 2 = .ok (.iconst 0, 1) := by decide +kernel
theorem dX11_power_3 : decode cX11_power 3 = .ok (.istore 5, 2) := by decide +kernel
theorem dX11_power_5 : decode cX11_power 5 = .ok (.iload 5, 2) := by decide +kernel
theorem dX11_power_7 : decode cX11_power 7 = .ok (.iload_n 2, 1) := by decide +kernel
theorem dX11_power_8 : decode cX11_power 8 = .ok (.if_icmp .ge 13, 3) := by decide +kernel
theorem dX11_power_11 : decode cX11_power 11 = .ok (.lload_n 3, 1) := by decide +kernel
theorem dX11_power_12 : decode cX11_power 12 = .ok (.lload_n 0, 1) := by decide +kernel
theorem dX11_power_13 : decode cX11_power 13 = .ok (.lmul, 1) := by decide +kernel
theorem dX11_power_14 : decode cX11_power 14 = .ok (.lstore_n 3, 1) := by decide +kernel
theorem dX11_power_15 : decode cX11_power 15 = .ok (.iinc 5 1, 3) := by decide +kernel
theorem dX11_power_18 : decode cX11_power 18 = .ok (.goto (-13), 3) := by decide +kernel
theorem dX11_power_21 : decode cX11_power 21 = .ok (.lload_n 3, 1) := by decide +kernel
theorem dX11_power_22 : decode cX11_power 22 = .ok (.lreturn, 1) := by decide +kernel
theorem dX11_feed_0 : decode cX11_feed 0 = .ok (.aload_n 0, 1) := by decide +kernel
theorem dX11_feed_1 : decode cX11_feed 1 = .ok (.iconst 0, 1) := by decide +kernel
theorem dX11_feed_2 : decode cX11_feed 2 = .ok (.putfield 53, 3) := by decide +kernel
theorem dX11_feed_5 : decode cX11_feed 5 = .ok (.aload_n 0, 1) := by decide +kernel
theorem dX11_feed_6 : decode cX11_feed 6 = .ok (.getfield 59, 3) := by decide +kernel
theorem dX11_feed_9 : decode cX11_feed 9 = .ok (.bipush 20, 2) := by decide +kernel
theorem dX11_feed_11 : decode cX11_feed 11 = .ok (.iadd, 1) := by decide +kernel
theorem dX11_feed_12 : decode cX11_feed 12 = .ok (.sipush 900, 3) := by decide +kernel
theorem dX11_feed_15 : decode cX11_feed 15 = .ok (.if_icmp .le 5, 3) := by decide +kernel
theorem dX11_feed_18 : decode cX11_feed 18 = .ok (.iconst (-1), 1) := by decide +kernel
theorem dX11_feed_19 : decode cX11_feed 19 = .ok (.ireturn, 1) := by decide +kernel
theorem dX11_feed_20 : decode cX11_feed 20 = .ok (.iconst 0, 1) := by decide +kernel
theorem dX11_feed_21 : decode cX11_feed 21 = .ok (.istore 6, 2) := by decide +kernel
theorem dX11_feed_23 : decode cX11_feed 23 = .ok (.iload 6, 2) := by decide +kernel
theorem dX11_feed_25 : decode cX11_feed 25 = .ok (.bipush 20, 2) := by decide +kernel
theorem dX11_feed_27 : decode cX11_feed 27 = .ok (.if_icmp .ge 93, 3) := by decide +kernel
theorem dX11_feed_30 : decode cX11_feed 30 = .ok (.iload 6, 2) := by decide +kernel
theorem dX11_feed_32 : decode cX11_feed 32 = .ok (.iconst 4, 1) := by decide +kernel
theorem dX11_feed_33 : decode cX11_feed 33 = .ok (.if_icmp .ge 7, 3) := by decide +kernel
theorem dX11_feed_36 : decode cX11_feed 36 = .ok (.iload_n 1, 1) := by decide +kernel
theorem dX11_feed_37 : decode cX11_feed 37 = .ok (.goto 39, 3) := by decide +kernel
theorem dX11_feed_40 : decode cX11_feed 40 = .ok (.iload 6, 2) := by decide +kernel
theorem dX11_feed_42 : decode cX11_feed 42 = .ok (.bipush 8, 2) := by decide +kernel
theorem dX11_feed_44 : decode cX11_feed 44 = .ok (.if_icmp .ge 7, 3) := by decide +kernel
theorem dX11_feed_47 : decode cX11_feed 47 = .ok (.iload_n 2, 1) := by decide +kernel
theorem dX11_feed_48 : decode cX11_feed 48 = .ok (.goto 28, 3) := by decide +kernel
theorem dX11_feed_51 : decode cX11_feed 51 = .ok (.iload 6, 2) := by decide +kernel
theorem dX11_feed_53 : decode cX11_feed 53 = .ok (.bipush 12, 2) := by decide +kernel
theorem dX11_feed_55 : decode cX11_feed 55 = .ok (.if_icmp .ge 7, 3) := by decide +kernel
theorem dX11_feed_58 : decode cX11_feed 58 = .ok (.iload_n 3, 1) := by decide +kernel
theorem dX11_feed_59 : decode cX11_feed 59 = .ok (.goto 17, 3) := by decide +kernel
theorem dX11_feed_62 : decode cX11_feed 62 = .ok (.iload 6, 2) := by decide +kernel
theorem dX11_feed_64 : decode cX11_feed 64 = .ok (.bipush 16, 2) := by decide +kernel
theorem dX11_feed_66 : decode cX11_feed 66 = .ok (.if_icmp .ge 8, 3) := by decide +kernel
theorem dX11_feed_69 : decode cX11_feed 69 = .ok (.iload 4, 2) := by decide +kernel
theorem dX11_feed_71 : decode cX11_feed 71 = .ok (.goto 5, 3) := by decide +kernel
theorem dX11_feed_74 : decode cX11_feed 74 = .ok (.iload 5, 2) := by decide +kernel
theorem dX11_feed_76 : decode cX11_feed 76 = .ok (.istore 7, 2) := by decide +kernel
theorem dX11_feed_78 : decode cX11_feed 78 = .ok (.aload_n 0, 1) := by decide +kernel
theorem dX11_feed_79 : decode cX11_feed 79 = .ok (.getfield 7, 3) := by decide +kernel
theorem dX11_feed_82 : decode cX11_feed 82 = .ok (.aload_n 0, 1) := by decide +kernel
theorem dX11_feed_83 : decode cX11_feed 83 = .ok (.getfield 59, 3) := by decide +kernel
theorem dX11_feed_86 : decode cX11_feed 86 = .ok (.iload 7, 2) := by decide +kernel
theorem dX11_feed_88 : decode cX11_feed 88 = .ok (.bipush 24, 2) := by decide +kernel
theorem dX11_feed_90 : decode cX11_feed 90 = .ok (.bipush 8, 2) := by decide +kernel
theorem dX11_feed_92 : decode cX11_feed 92 = .ok (.iload 6, 2) := by decide +kernel
theorem dX11_feed_94 : decode cX11_feed 94 = .ok (.iconst 4, 1) := by decide +kernel
theorem dX11_feed_95 : decode cX11_feed 95 = .ok (.irem, 1) := by decide +kernel
theorem dX11_feed_96 : decode cX11_feed 96 = .ok (.imul, 1) := by decide +kernel
theorem dX11_feed_97 : decode cX11_feed 97 = .ok (.isub, 1) := by decide +kernel
theorem dX11_feed_98 : decode cX11_feed 98 = .ok (.ishr, 1) := by decide +kernel
theorem dX11_feed_99 : decode cX11_feed 99 = .ok (.sipush 255, 3) := by decide +kernel
theorem dX11_feed_102 : decode cX11_feed 102 = .ok (.iand, 1) := by decide +kernel
theorem dX11_feed_103 : decode cX11_feed 103 = .ok (.iastore, 1) := by decide +kernel
theorem dX11_feed_104 : decode cX11_feed 104 = .ok (.aload_n 0, 1) := by decide +kernel
theorem dX11_feed_105 : decode cX11_feed 105 = .ok (.dup, 1) := by decide +kernel
theorem dX11_feed_106 : decode cX11_feed 106 = .ok (.getfield 59, 3) := by decide +kernel
theorem dX11_feed_109 : decode cX11_feed 109 = .ok (.iconst 1, 1) := by decide +kernel
theorem dX11_feed_110 : decode cX11_feed 110 = .ok (.iadd, 1) := by decide +kernel
theorem dX11_feed_111 : decode cX11_feed 111 = .ok (.putfield 59, 3) := by decide +kernel
theorem dX11_feed_114 : decode cX11_feed 114 = .ok (.iinc 6 1, 3) := by decide +kernel
theorem dX11_feed_117 : decode cX11_feed 117 = .ok (.goto (-94), 3) := by decide +kernel
theorem dX11_feed_120 : decode cX11_feed 120 = .ok (.aload_n 0, 1) := by decide +kernel
theorem dX11_feed_121 : decode cX11_feed 121 = .ok (.getfield 59, 3) := by decide +kernel
theorem dX11_feed_124 : decode cX11_feed 124 = .ok (.ireturn, 1) := by decide +kernel
theorem dX11_see_0 : decode cX11_see 0 = .ok (.iload_n 1, 1) := by decide +kernel
theorem dX11_see_1 : decode cX11_see 1 = .ok (.aload_n 0, 1) := by decide +kernel
theorem dX11_see_2 : decode cX11_see 2 = .ok (.getfield 62, 3) := by decide +kernel
theorem dX11_see_5 : decode cX11_see 5 = .ok (.if_icmp .ge 12, 3) := by decide +kernel
theorem dX11_see_8 : decode cX11_see 8 = .ok (.aload_n 0, 1) := by decide +kernel
theorem dX11_see_9 : decode cX11_see 9 = .ok (.getfield 7, 3) := by decide +kernel
theorem dX11_see_12 : decode cX11_see 12 = .ok (.iload_n 1, 1) := by decide +kernel
theorem dX11_see_13 : decode cX11_see 13 = .ok (.iaload, 1) := by decide +kernel
theorem dX11_see_14 : decode cX11_see 14 = .ok (.goto 4, 3) := by decide +kernel
theorem dX11_see_17 : decode cX11_see 17 = .ok (.iconst (-1), 1) := by decide +kernel
theorem dX11_see_18 : decode cX11_see 18 = .ok (.ireturn, 1) := by decide +kernel
theorem dX11_isSmall_0 : decode cX11_isSmall 0 = .ok (.iload_n 0, 1) := by decide +kernel
theorem dX11_isSmall_1 : decode cX11_isSmall 1 = .ok (.bipush 97, 2) := by decide +kernel
theorem dX11_isSmall_3 : decode cX11_isSmall 3 = .ok (.if_icmp .lt 13, 3) := by decide +kernel
theorem dX11_isSmall_6 : decode cX11_isSmall 6 = .ok (.iload_n 0, 1) := by decide +kernel
theorem dX11_isSmall_7 : decode cX11_isSmall 7 = .ok (.bipush 122, 2) := by decide +kernel
theorem dX11_isSmall_9 : decode cX11_isSmall 9 = .ok (.if_icmp .gt 7, 3) := by decide +kernel
theorem dX11_isSmall_12 : decode cX11_isSmall 12 = .ok (.iconst 1, 1) := by decide +kernel
theorem dX11_isSmall_13 : decode cX11_isSmall 13 = .ok (.goto 4, 3) := by decide +kernel
theorem dX11_isSmall_16 : decode cX11_isSmall 16 = .ok (.iconst 0, 1) := by decide +kernel
theorem dX11_isSmall_17 : decode cX11_isSmall 17 = .ok (.ireturn, 1) := by decide +kernel
theorem dX11_isDigit_0 : decode cX11_isDigit 0 = .ok (.iload_n 0, 1) := by decide +kernel
theorem dX11_isDigit_1 : decode cX11_isDigit 1 = .ok (.bipush 48, 2) := by decide +kernel
theorem dX11_isDigit_3 : decode cX11_isDigit 3 = .ok (.if_icmp .lt 13, 3) := by decide +kernel
theorem dX11_isDigit_6 : decode cX11_isDigit 6 = .ok (.iload_n 0, 1) := by decide +kernel
theorem dX11_isDigit_7 : decode cX11_isDigit 7 = .ok (.bipush 57, 2) := by decide +kernel
theorem dX11_isDigit_9 : decode cX11_isDigit 9 = .ok (.if_icmp .gt 7, 3) := by decide +kernel
theorem dX11_isDigit_12 : decode cX11_isDigit 12 = .ok (.iconst 1, 1) := by decide +kernel
theorem dX11_isDigit_13 : decode cX11_isDigit 13 = .ok (.goto 4, 3) := by decide +kernel
theorem dX11_isDigit_16 : decode cX11_isDigit 16 = .ok (.iconst 0, 1) := by decide +kernel
theorem dX11_isDigit_17 : decode cX11_isDigit 17 = .ok (.ireturn, 1) := by decide +kernel
theorem dX11_next_0 : decode cX11_next 0 = .ok (.aload_n 0, 1) := by decide +kernel
theorem dX11_next_1 : decode cX11_next 1 = .ok (.getfield 65, 3) := by decide +kernel
theorem dX11_next_4 : decode cX11_next 4 = .ok (.istore_n 1, 1) := by decide +kernel
theorem dX11_next_5 : decode cX11_next 5 = .ok (.aload_n 0, 1) := by decide +kernel
theorem dX11_next_6 : decode cX11_next 6 = .ok (.iload_n 1, 1) := by decide +kernel
theorem dX11_next_7 : decode cX11_next 7 = .ok (.invokevirtual 68, 3) := by decide +kernel
theorem dX11_next_10 : decode cX11_next 10 = .ok (.bipush 32, 2) := by decide +kernel
theorem dX11_next_12 : decode cX11_next 12 = .ok (.if_icmp .ne 9, 3) := by decide +kernel
theorem dX11_next_15 : decode cX11_next 15 = .ok (.iinc 1 1, 3) := by decide +kernel
theorem dX11_next_18 : decode cX11_next 18 = .ok (.goto (-13), 3) := by decide +kernel
theorem dX11_next_21 : decode cX11_next 21 = .ok (.aload_n 0, 1) := by decide +kernel
theorem dX11_next_22 : decode cX11_next 22 = .ok (.iload_n 1, 1) := by decide +kernel
theorem dX11_next_23 : decode cX11_next 23 = .ok (.putfield 72, 3) := by decide +kernel
theorem dX11_next_26 : decode cX11_next 26 = .ok (.aload_n 0, 1) := by decide +kernel
theorem dX11_next_27 : decode cX11_next 27 = .ok (.iload_n 1, 1) := by decide +kernel
theorem dX11_next_28 : decode cX11_next 28 = .ok (.invokevirtual 68, 3) := by decide +kernel
theorem dX11_next_31 : decode cX11_next 31 = .ok (.istore_n 2, 1) := by decide +kernel
theorem dX11_next_32 : decode cX11_next 32 = .ok (.aload_n 0, 1) := by decide +kernel
theorem dX11_next_33 : decode cX11_next 33 = .ok (.iconst 0, 1) := by decide +kernel
theorem dX11_next_34 : decode cX11_next 34 = .ok (.putfield 75, 3) := by decide +kernel
theorem dX11_next_37 : decode cX11_next 37 = .ok (.aload_n 0, 1) := by decide +kernel
theorem dX11_next_38 : decode cX11_next 38 = .ok (.iconst 0, 1) := by decide +kernel
theorem dX11_next_39 : decode cX11_next 39 = .ok (.putfield 78, 3) := by decide +kernel
theorem dX11_next_42 : decode cX11_next 42 = .ok (.iload_n 2, 1) := by decide +kernel
theorem dX11_next_43 : decode cX11_next 43 = .ok (.iconst (-1), 1) := by decide +kernel
theorem dX11_next_44 : decode cX11_next 44 = .ok (.if_icmp .ne 16, 3) := by decide +kernel
theorem dX11_next_47 : decode cX11_next 47 = .ok (.aload_n 0, 1) := by decide +kernel
theorem dX11_next_48 : decode cX11_next 48 = .ok (.iconst 0, 1) := by decide +kernel
theorem dX11_next_49 : decode cX11_next 49 = .ok (.putfield 81, 3) := by decide +kernel
theorem dX11_next_52 : decode cX11_next 52 = .ok (.aload_n 0, 1) := by decide +kernel
theorem dX11_next_53 : decode cX11_next 53 = .ok (.iload_n 1, 1) := by decide +kernel
theorem dX11_next_54 : decode cX11_next 54 = .ok (.putfield 65, 3) := by decide +kernel
theorem dX11_next_57 : decode cX11_next 57 = .ok (.goto 184, 3) := by decide +kernel
theorem dX11_next_60 : decode cX11_next 60 = .ok (.iload_n 2, 1) := by decide +kernel
theorem dX11_next_61 : decode cX11_next 61 = .ok (.invokestatic 84, 3) := by decide +kernel
theorem dX11_next_64 : decode cX11_next 64 = .ok (.ifCond .eq 79, 3) := by decide +kernel
theorem dX11_next_67 : decode cX11_next 67 = .ok (.aload_n 0, 1) := by decide +kernel
theorem dX11_next_68 : decode cX11_next 68 = .ok (.iload_n 1, 1) := by decide +kernel
theorem dX11_next_69 : decode cX11_next 69 = .ok (.invokevirtual 68, 3) := by decide +kernel
theorem dX11_next_72 : decode cX11_next 72 = .ok (.invokestatic 84, 3) := by decide +kernel
theorem dX11_next_75 : decode cX11_next 75 = .ok (.ifCond .eq 42, 3) := by decide +kernel
theorem dX11_next_78 : decode cX11_next 78 = .ok (.aload_n 0, 1) := by decide +kernel
theorem dX11_next_79 : decode cX11_next 79 = .ok (.getfield 75, 3) := by decide +kernel
theorem dX11_next_82 : decode cX11_next 82 = .ok (.bipush 8, 2) := by decide +kernel
theorem dX11_next_84 : decode cX11_next 84 = .ok (.if_icmp .ge 17, 3) := by decide +kernel
theorem dX11_next_87 : decode cX11_next 87 = .ok (.aload_n 0, 1) := by decide +kernel
theorem dX11_next_88 : decode cX11_next 88 = .ok (.getfield 17, 3) := by decide +kernel
theorem dX11_next_91 : decode cX11_next 91 = .ok (.aload_n 0, 1) := by decide +kernel
theorem dX11_next_92 : decode cX11_next 92 = .ok (.getfield 75, 3) := by decide +kernel
theorem dX11_next_95 : decode cX11_next 95 = .ok (.aload_n 0, 1) := by decide +kernel
theorem dX11_next_96 : decode cX11_next 96 = .ok (.iload_n 1, 1) := by decide +kernel
theorem dX11_next_97 : decode cX11_next 97 = .ok (.invokevirtual 68, 3) := by decide +kernel
theorem dX11_next_100 : decode cX11_next 100 = .ok (.iastore, 1) := by decide +kernel
theorem dX11_next_101 : decode cX11_next 101 = .ok (.aload_n 0, 1) := by decide +kernel
theorem dX11_next_102 : decode cX11_next 102 = .ok (.dup, 1) := by decide +kernel
theorem dX11_next_103 : decode cX11_next 103 = .ok (.getfield 75, 3) := by decide +kernel
theorem dX11_next_106 : decode cX11_next 106 = .ok (.iconst 1, 1) := by decide +kernel
theorem dX11_next_107 : decode cX11_next 107 = .ok (.iadd, 1) := by decide +kernel
theorem dX11_next_108 : decode cX11_next 108 = .ok (.putfield 75, 3) := by decide +kernel
theorem dX11_next_111 : decode cX11_next 111 = .ok (.iinc 1 1, 3) := by decide +kernel
theorem dX11_next_114 : decode cX11_next 114 = .ok (.goto (-47), 3) := by decide +kernel
theorem dX11_next_117 : decode cX11_next 117 = .ok (.aload_n 0, 1) := by decide +kernel
theorem dX11_next_118 : decode cX11_next 118 = .ok (.iload_n 1, 1) := by decide +kernel
theorem dX11_next_119 : decode cX11_next 119 = .ok (.putfield 65, 3) := by decide +kernel
theorem dX11_next_122 : decode cX11_next 122 = .ok (.aload_n 0, 1) := by decide +kernel
theorem dX11_next_123 : decode cX11_next 123 = .ok (.aload_n 0, 1) := by decide +kernel
theorem dX11_next_124 : decode cX11_next 124 = .ok (.getfield 75, 3) := by decide +kernel
theorem dX11_next_127 : decode cX11_next 127 = .ok (.bipush 8, 2) := by decide +kernel
theorem dX11_next_129 : decode cX11_next 129 = .ok (.if_icmp .le 7, 3) := by decide +kernel
theorem dX11_next_132 : decode cX11_next 132 = .ok (.iconst 1, 1) := by decide +kernel
theorem dX11_next_133 : decode cX11_next 133 = .ok (.goto 4, 3) := by decide +kernel
theorem dX11_next_136 : decode cX11_next 136 = .ok (.iconst 2, 1) := by decide +kernel
theorem dX11_next_137 : decode cX11_next 137 = .ok (.putfield 81, 3) := by decide +kernel
theorem dX11_next_140 : decode cX11_next 140 = .ok (.goto 101, 3) := by decide +kernel
theorem dX11_next_143 : decode cX11_next 143 = .ok (.iload_n 2, 1) := by decide +kernel
theorem dX11_next_144 : decode cX11_next 144 = .ok (.invokestatic 88, 3) := by decide +kernel
theorem dX11_next_147 : decode cX11_next 147 = .ok (.ifCond .eq 72, 3) := by decide +kernel
theorem dX11_next_150 : decode cX11_next 150 = .ok (.iconst 0, 1) := by decide +kernel
theorem dX11_next_151 : decode cX11_next 151 = .ok (.istore_n 3, 1) := by decide +kernel
theorem dX11_next_152 : decode cX11_next 152 = .ok (.aload_n 0, 1) := by decide +kernel
theorem dX11_next_153 : decode cX11_next 153 = .ok (.iload_n 1, 1) := by decide +kernel
theorem dX11_next_154 : decode cX11_next 154 = .ok (.invokevirtual 68, 3) := by decide +kernel
theorem dX11_next_157 : decode cX11_next 157 = .ok (.invokestatic 88, 3) := by decide +kernel
theorem dX11_next_160 : decode cX11_next 160 = .ok (.ifCond .eq 37, 3) := by decide +kernel
theorem dX11_next_163 : decode cX11_next 163 = .ok (.iload_n 3, 1) := by decide +kernel
theorem dX11_next_164 : decode cX11_next 164 = .ok (.iconst 3, 1) := by decide +kernel
theorem dX11_next_165 : decode cX11_next 165 = .ok (.if_icmp .ge 23, 3) := by decide +kernel
theorem dX11_next_168 : decode cX11_next 168 = .ok (.aload_n 0, 1) := by decide +kernel
theorem dX11_next_169 : decode cX11_next 169 = .ok (.bipush 10, 2) := by decide +kernel
theorem dX11_next_171 : decode cX11_next 171 = .ok (.aload_n 0, 1) := by decide +kernel
theorem dX11_next_172 : decode cX11_next 172 = .ok (.getfield 78, 3) := by decide +kernel
theorem dX11_next_175 : decode cX11_next 175 = .ok (.imul, 1) := by decide +kernel
theorem dX11_next_176 : decode cX11_next 176 = .ok (.aload_n 0, 1) := by decide +kernel
theorem dX11_next_177 : decode cX11_next 177 = .ok (.iload_n 1, 1) := by decide +kernel
theorem dX11_next_178 : decode cX11_next 178 = .ok (.invokevirtual 68, 3) := by decide +kernel
theorem dX11_next_181 : decode cX11_next 181 = .ok (.iadd, 1) := by decide +kernel
theorem dX11_next_182 : decode cX11_next 182 = .ok (.bipush 48, 2) := by decide +kernel
theorem dX11_next_184 : decode cX11_next 184 = .ok (.isub, 1) := by decide +kernel
theorem dX11_next_185 : decode cX11_next 185 = .ok (.putfield 78, 3) := by decide +kernel
theorem dX11_next_188 : decode cX11_next 188 = .ok (.iinc 3 1, 3) := by decide +kernel
theorem dX11_next_191 : decode cX11_next 191 = .ok (.iinc 1 1, 3) := by decide +kernel
theorem dX11_next_194 : decode cX11_next 194 = .ok (.goto (-42), 3) := by decide +kernel
theorem dX11_next_197 : decode cX11_next 197 = .ok (.aload_n 0, 1) := by decide +kernel
theorem dX11_next_198 : decode cX11_next 198 = .ok (.iload_n 1, 1) := by decide +kernel
theorem dX11_next_199 : decode cX11_next 199 = .ok (.putfield 65, 3) := by decide +kernel
theorem dX11_next_202 : decode cX11_next 202 = .ok (.aload_n 0, 1) := by decide +kernel
theorem dX11_next_203 : decode cX11_next 203 = .ok (.iload_n 3, 1) := by decide +kernel
theorem dX11_next_204 : decode cX11_next 204 = .ok (.iconst 3, 1) := by decide +kernel
theorem dX11_next_205 : decode cX11_next 205 = .ok (.if_icmp .le 7, 3) := by decide +kernel
theorem dX11_next_208 : decode cX11_next 208 = .ok (.iconst 1, 1) := by decide +kernel
theorem dX11_next_209 : decode cX11_next 209 = .ok (.goto 4, 3) := by decide +kernel
theorem dX11_next_212 : decode cX11_next 212 = .ok (.iconst 3, 1) := by decide +kernel
theorem dX11_next_213 : decode cX11_next 213 = .ok (.putfield 81, 3) := by decide +kernel
theorem dX11_next_216 : decode cX11_next 216 = .ok (.goto 25, 3) := by decide +kernel
theorem dX11_next_219 : decode cX11_next 219 = .ok (.aload_n 0, 1) := by decide +kernel
theorem dX11_next_220 : decode cX11_next 220 = .ok (.iload_n 1, 1) := by decide +kernel
theorem dX11_next_221 : decode cX11_next 221 = .ok (.iconst 1, 1) := by decide +kernel
theorem dX11_next_222 : decode cX11_next 222 = .ok (.iadd, 1) := by decide +kernel
theorem dX11_next_223 : decode cX11_next 223 = .ok (.putfield 65, 3) := by decide +kernel
theorem dX11_next_226 : decode cX11_next 226 = .ok (.aload_n 0, 1) := by decide +kernel
theorem dX11_next_227 : decode cX11_next 227 = .ok (.iload_n 2, 1) := by decide +kernel
theorem dX11_next_228 : decode cX11_next 228 = .ok (.bipush 59, 2) := by decide +kernel
theorem dX11_next_230 : decode cX11_next 230 = .ok (.if_icmp .ne 7, 3) := by decide +kernel
theorem dX11_next_233 : decode cX11_next 233 = .ok (.iload_n 2, 1) := by decide +kernel
theorem dX11_next_234 : decode cX11_next 234 = .ok (.goto 4, 3) := by decide +kernel
theorem dX11_next_237 : decode cX11_next 237 = .ok (.iconst 1, 1) := by decide +kernel
theorem dX11_next_238 : decode cX11_next 238 = .ok (.putfield 81, 3) := by decide +kernel
theorem dX11_next_241 : decode cX11_next 241 = .ok (.return_, 1) := by decide +kernel
theorem dX11_wrong_0 : decode cX11_wrong 0 = .ok (.aload_n 0, 1) := by decide +kernel
theorem dX11_wrong_1 : decode cX11_wrong 1 = .ok (.getfield 91, 3) := by decide +kernel
theorem dX11_wrong_4 : decode cX11_wrong 4 = .ok (.ifCond .eq 4, 3) := by decide +kernel
theorem dX11_wrong_7 : decode cX11_wrong 7 = .ok (.return_, 1) := by decide +kernel
theorem dX11_wrong_8 : decode cX11_wrong 8 = .ok (.aload_n 0, 1) := by decide +kernel
theorem dX11_wrong_9 : decode cX11_wrong 9 = .ok (.iconst 1, 1) := by decide +kernel
theorem dX11_wrong_10 : decode cX11_wrong 10 = .ok (.putfield 91, 3) := by decide +kernel
theorem dX11_wrong_13 : decode cX11_wrong 13 = .ok (.aload_n 0, 1) := by decide +kernel
theorem dX11_wrong_14 : decode cX11_wrong 14 = .ok (.iload_n 1, 1) := by decide +kernel
theorem dX11_wrong_15 : decode cX11_wrong 15 = .ok (.putfield 95, 3) := by decide +kernel
theorem dX11_wrong_18 : decode cX11_wrong 18 = .ok (.aload_n 0, 1) := by decide +kernel
theorem dX11_wrong_19 : decode cX11_wrong 19 = .ok (.iload_n 2, 1) := by decide +kernel
theorem dX11_wrong_20 : decode cX11_wrong 20 = .ok (.putfield 13, 3) := by decide +kernel
theorem dX11_wrong_23 : decode cX11_wrong 23 = .ok (.return_, 1) := by decide +kernel
theorem dX11_isWord_0 : decode cX11_isWord 0 = .ok (.aload_n 0, 1) := by decide +kernel
theorem dX11_isWord_1 : decode cX11_isWord 1 = .ok (.getfield 91, 3) := by decide +kernel
theorem dX11_isWord_4 : decode cX11_isWord 4 = .ok (.ifCond .ne 22, 3) := by decide +kernel
theorem dX11_isWord_7 : decode cX11_isWord 7 = .ok (.aload_n 0, 1) := by decide +kernel
theorem dX11_isWord_8 : decode cX11_isWord 8 = .ok (.getfield 81, 3) := by decide +kernel
theorem dX11_isWord_11 : decode cX11_isWord 11 = .ok (.iconst 2, 1) := by decide +kernel
theorem dX11_isWord_12 : decode cX11_isWord 12 = .ok (.if_icmp .ne 14, 3) := by decide +kernel
theorem dX11_isWord_15 : decode cX11_isWord 15 = .ok (.aload_n 0, 1) := by decide +kernel
theorem dX11_isWord_16 : decode cX11_isWord 16 = .ok (.getfield 75, 3) := by decide +kernel
theorem dX11_isWord_19 : decode cX11_isWord 19 = .ok (.aload_n 1, 1) := by decide +kernel
theorem dX11_isWord_20 : decode cX11_isWord 20 = .ok (.invokevirtual 98, 3) := by decide +kernel
theorem dX11_isWord_23 : decode cX11_isWord 23 = .ok (.if_icmp .eq 5, 3) := by decide +kernel
theorem dX11_isWord_26 : decode cX11_isWord 26 = .ok (.iconst 0, 1) := by decide +kernel
theorem dX11_isWord_27 : decode cX11_isWord 27 = .ok (.ireturn, 1) := by decide +kernel
theorem dX11_isWord_28 : decode cX11_isWord 28 = .ok (.iconst 1, 1) := by decide +kernel
theorem dX11_isWord_29 : decode cX11_isWord 29 = .ok (.istore_n 2, 1) := by decide +kernel
theorem dX11_isWord_30 : decode cX11_isWord 30 = .ok (.iconst 0, 1) := by decide +kernel
theorem dX11_isWord_31 : decode cX11_isWord 31 = .ok (.istore_n 3, 1) := by decide +kernel
theorem dX11_isWord_32 : decode cX11_isWord 32 = .ok (.iload_n 3, 1) := by decide +kernel
theorem dX11_isWord_33 : decode cX11_isWord 33 = .ok (.aload_n 0, 1) := by decide +kernel
theorem dX11_isWord_34 : decode cX11_isWord 34 = .ok (.getfield 75, 3) := by decide +kernel
theorem dX11_isWord_37 : decode cX11_isWord 37 = .ok (.if_icmp .ge 33, 3) := by decide +kernel
theorem dX11_isWord_40 : decode cX11_isWord 40 = .ok (.iload_n 2, 1) := by decide +kernel
theorem dX11_isWord_41 : decode cX11_isWord 41 = .ok (.ifCond .eq 21, 3) := by decide +kernel
theorem dX11_isWord_44 : decode cX11_isWord 44 = .ok (.aload_n 0, 1) := by decide +kernel
theorem dX11_isWord_45 : decode cX11_isWord 45 = .ok (.getfield 17, 3) := by decide +kernel
theorem dX11_isWord_48 : decode cX11_isWord 48 = .ok (.iload_n 3, 1) := by decide +kernel
theorem dX11_isWord_49 : decode cX11_isWord 49 = .ok (.iaload, 1) := by decide +kernel
theorem dX11_isWord_50 : decode cX11_isWord 50 = .ok (.aload_n 1, 1) := by decide +kernel
theorem dX11_isWord_51 : decode cX11_isWord 51 = .ok (.iload_n 3, 1) := by decide +kernel
theorem dX11_isWord_52 : decode cX11_isWord 52 = .ok (.invokevirtual 104, 3) := by decide +kernel
theorem dX11_isWord_55 : decode cX11_isWord 55 = .ok (.if_icmp .ne 7, 3) := by decide +kernel
theorem dX11_isWord_58 : decode cX11_isWord 58 = .ok (.iconst 1, 1) := by decide +kernel
theorem dX11_isWord_59 : decode cX11_isWord 59 = .ok (.goto 4, 3) := by decide +kernel
theorem dX11_isWord_62 : decode cX11_isWord 62 = .ok (.iconst 0, 1) := by decide +kernel
theorem dX11_isWord_63 : decode cX11_isWord 63 = .ok (.istore_n 2, 1) := by decide +kernel
theorem dX11_isWord_64 : decode cX11_isWord 64 = .ok (.iinc 3 1, 3) := by decide +kernel
theorem dX11_isWord_67 : decode cX11_isWord 67 = .ok (.goto (-35), 3) := by decide +kernel
theorem dX11_isWord_70 : decode cX11_isWord 70 = .ok (.iload_n 2, 1) := by decide +kernel
theorem dX11_isWord_71 : decode cX11_isWord 71 = .ok (.ireturn, 1) := by decide +kernel
theorem dX11_takesWord_0 : decode cX11_takesWord 0 = .ok (.aload_n 0, 1) := by decide +kernel
theorem dX11_takesWord_1 : decode cX11_takesWord 1 = .ok (.aload_n 1, 1) := by decide +kernel
theorem dX11_takesWord_2 : decode cX11_takesWord 2 = .ok (.invokevirtual 108, 3) := by decide +kernel
theorem dX11_takesWord_5 : decode cX11_takesWord 5 = .ok (.ifCond .ne 5, 3) := by decide +kernel
theorem dX11_takesWord_8 : decode cX11_takesWord 8 = .ok (.iconst 0, 1) := by decide +kernel
theorem dX11_takesWord_9 : decode cX11_takesWord 9 = .ok (.ireturn, 1) := by decide +kernel
theorem dX11_takesWord_10 : decode cX11_takesWord 10 = .ok (.aload_n 0, 1) := by decide +kernel
theorem dX11_takesWord_11 : decode cX11_takesWord 11 = .ok (.invokevirtual 112, 3) := by decide +kernel
theorem dX11_takesWord_14 : decode cX11_takesWord 14 = .ok (.iconst 1, 1) := by decide +kernel
theorem dX11_takesWord_15 : decode cX11_takesWord 15 = .ok (.ireturn, 1) := by decide +kernel
theorem dX11_must_0 : decode cX11_must 0 = .ok (.aload_n 0, 1) := by decide +kernel
theorem dX11_must_1 : decode cX11_must 1 = .ok (.getfield 91, 3) := by decide +kernel
theorem dX11_must_4 : decode cX11_must 4 = .ok (.ifCond .ne 20, 3) := by decide +kernel
theorem dX11_must_7 : decode cX11_must 7 = .ok (.aload_n 0, 1) := by decide +kernel
theorem dX11_must_8 : decode cX11_must 8 = .ok (.aload_n 1, 1) := by decide +kernel
theorem dX11_must_9 : decode cX11_must 9 = .ok (.invokevirtual 115, 3) := by decide +kernel
theorem dX11_must_12 : decode cX11_must 12 = .ok (.ifCond .ne 12, 3) := by decide +kernel
theorem dX11_must_15 : decode cX11_must 15 = .ok (.aload_n 0, 1) := by decide +kernel
theorem dX11_must_16 : decode cX11_must 16 = .ok (.iconst 1, 1) := by decide +kernel
theorem dX11_must_17 : decode cX11_must 17 = .ok (.aload_n 0, 1) := by decide +kernel
theorem dX11_must_18 : decode cX11_must 18 = .ok (.getfield 72, 3) := by decide +kernel
theorem dX11_must_21 : decode cX11_must 21 = .ok (.invokevirtual 118, 3) := by decide +kernel
theorem dX11_must_24 : decode cX11_must 24 = .ok (.return_, 1) := by decide +kernel
theorem dX11_mustName_0 : decode cX11_mustName 0 = .ok (.aload_n 0, 1) := by decide +kernel
theorem dX11_mustName_1 : decode cX11_mustName 1 = .ok (.getfield 81, 3) := by decide +kernel
theorem dX11_mustName_4 : decode cX11_mustName 4 = .ok (.iconst 2, 1) := by decide +kernel
theorem dX11_mustName_5 : decode cX11_mustName 5 = .ok (.if_icmp .ne 48, 3) := by decide +kernel
theorem dX11_mustName_8 : decode cX11_mustName 8 = .ok (.aload_n 0, 1) := by decide +kernel
theorem dX11_mustName_9 : decode cX11_mustName 9 = .ok (.ldc 122, 2) := by decide +kernel
theorem dX11_mustName_11 : decode cX11_mustName 11 = .ok (.invokevirtual 108, 3) := by decide +kernel
theorem dX11_mustName_14 : decode cX11_mustName 14 = .ok (.ifCond .ne 39, 3) := by decide +kernel
theorem dX11_mustName_17 : decode cX11_mustName 17 = .ok (.aload_n 0, 1) := by decide +kernel
theorem dX11_mustName_18 : decode cX11_mustName 18 = .ok (.ldc 124, 2) := by decide +kernel
theorem dX11_mustName_20 : decode cX11_mustName 20 = .ok (.invokevirtual 108, 3) := by decide +kernel
theorem dX11_mustName_23 : decode cX11_mustName 23 = .ok (.ifCond .ne 30, 3) := by decide +kernel
theorem dX11_mustName_26 : decode cX11_mustName 26 = .ok (.aload_n 0, 1) := by decide +kernel
theorem dX11_mustName_27 : decode cX11_mustName 27 = .ok (.ldc 126, 2) := by decide +kernel
theorem dX11_mustName_29 : decode cX11_mustName 29 = .ok (.invokevirtual 108, 3) := by decide +kernel
theorem dX11_mustName_32 : decode cX11_mustName 32 = .ok (.ifCond .ne 21, 3) := by decide +kernel
theorem dX11_mustName_35 : decode cX11_mustName 35 = .ok (.aload_n 0, 1) := by decide +kernel
theorem dX11_mustName_36 : decode cX11_mustName 36 = .ok (.ldc 128, 2) := by decide +kernel
theorem dX11_mustName_38 : decode cX11_mustName 38 = .ok (.invokevirtual 108, 3) := by decide +kernel
theorem dX11_mustName_41 : decode cX11_mustName 41 = .ok (.ifCond .ne 12, 3) := by decide +kernel
theorem dX11_mustName_44 : decode cX11_mustName 44 = .ok (.aload_n 0, 1) := by decide +kernel
theorem dX11_mustName_45 : decode cX11_mustName 45 = .ok (.ldc 130, 2) := by decide +kernel
theorem dX11_mustName_47 : decode cX11_mustName 47 = .ok (.invokevirtual 108, 3) := by decide +kernel
theorem dX11_mustName_50 : decode cX11_mustName 50 = .ok (.ifCond .eq 12, 3) := by decide +kernel
theorem dX11_mustName_53 : decode cX11_mustName 53 = .ok (.aload_n 0, 1) := by decide +kernel
theorem dX11_mustName_54 : decode cX11_mustName 54 = .ok (.iconst 1, 1) := by decide +kernel
theorem dX11_mustName_55 : decode cX11_mustName 55 = .ok (.aload_n 0, 1) := by decide +kernel
theorem dX11_mustName_56 : decode cX11_mustName 56 = .ok (.getfield 72, 3) := by decide +kernel
theorem dX11_mustName_59 : decode cX11_mustName 59 = .ok (.invokevirtual 118, 3) := by decide +kernel
theorem dX11_mustName_62 : decode cX11_mustName 62 = .ok (.return_, 1) := by decide +kernel
theorem dX11_find_0 : decode cX11_find 0 = .ok (.iconst 0, 1) := by decide +kernel
theorem dX11_find_1 : decode cX11_find 1 = .ok (.istore_n 1, 1) := by decide +kernel
theorem dX11_find_2 : decode cX11_find 2 = .ok (.iload_n 1, 1) := by decide +kernel
theorem dX11_find_3 : decode cX11_find 3 = .ok (.bipush 16, 2) := by decide +kernel
theorem dX11_find_5 : decode cX11_find 5 = .ok (.if_icmp .ge 98, 3) := by decide +kernel
theorem dX11_find_8 : decode cX11_find 8 = .ok (.aload_n 0, 1) := by decide +kernel
theorem dX11_find_9 : decode cX11_find 9 = .ok (.getfield 23, 3) := by decide +kernel
theorem dX11_find_12 : decode cX11_find 12 = .ok (.bipush 75, 2) := by decide +kernel
theorem dX11_find_14 : decode cX11_find 14 = .ok (.iload_n 1, 1) := by decide +kernel
theorem dX11_find_15 : decode cX11_find 15 = .ok (.iadd, 1) := by decide +kernel
theorem dX11_find_16 : decode cX11_find 16 = .ok (.iaload, 1) := by decide +kernel
theorem dX11_find_17 : decode cX11_find 17 = .ok (.ifCond .le 23, 3) := by decide +kernel
theorem dX11_find_20 : decode cX11_find 20 = .ok (.aload_n 0, 1) := by decide +kernel
theorem dX11_find_21 : decode cX11_find 21 = .ok (.getfield 23, 3) := by decide +kernel
theorem dX11_find_24 : decode cX11_find 24 = .ok (.bipush 75, 2) := by decide +kernel
theorem dX11_find_26 : decode cX11_find 26 = .ok (.iload_n 1, 1) := by decide +kernel
theorem dX11_find_27 : decode cX11_find 27 = .ok (.iadd, 1) := by decide +kernel
theorem dX11_find_28 : decode cX11_find 28 = .ok (.iaload, 1) := by decide +kernel
theorem dX11_find_29 : decode cX11_find 29 = .ok (.aload_n 0, 1) := by decide +kernel
theorem dX11_find_30 : decode cX11_find 30 = .ok (.getfield 75, 3) := by decide +kernel
theorem dX11_find_33 : decode cX11_find 33 = .ok (.if_icmp .ne 7, 3) := by decide +kernel
theorem dX11_find_36 : decode cX11_find 36 = .ok (.iconst 1, 1) := by decide +kernel
theorem dX11_find_37 : decode cX11_find 37 = .ok (.goto 4, 3) := by decide +kernel
theorem dX11_find_40 : decode cX11_find 40 = .ok (.iconst 0, 1) := by decide +kernel
theorem dX11_find_41 : decode cX11_find 41 = .ok (.istore_n 2, 1) := by decide +kernel
theorem dX11_find_42 : decode cX11_find 42 = .ok (.iconst 0, 1) := by decide +kernel
theorem dX11_find_43 : decode cX11_find 43 = .ok (.istore_n 3, 1) := by decide +kernel
theorem dX11_find_44 : decode cX11_find 44 = .ok (.iload_n 3, 1) := by decide +kernel
theorem dX11_find_45 : decode cX11_find 45 = .ok (.aload_n 0, 1) := by decide +kernel
theorem dX11_find_46 : decode cX11_find 46 = .ok (.getfield 75, 3) := by decide +kernel
theorem dX11_find_49 : decode cX11_find 49 = .ok (.if_icmp .ge 42, 3) := by decide +kernel
theorem dX11_find_52 : decode cX11_find 52 = .ok (.iload_n 2, 1) := by decide +kernel
theorem dX11_find_53 : decode cX11_find 53 = .ok (.ifCond .eq 38, 3) := by decide +kernel
theorem dX11_find_56 : decode cX11_find 56 = .ok (.aload_n 0, 1) := by decide +kernel
theorem dX11_find_57 : decode cX11_find 57 = .ok (.getfield 23, 3) := by decide +kernel
theorem dX11_find_60 : decode cX11_find 60 = .ok (.bipush 91, 2) := by decide +kernel
theorem dX11_find_62 : decode cX11_find 62 = .ok (.bipush 8, 2) := by decide +kernel
theorem dX11_find_64 : decode cX11_find 64 = .ok (.iload_n 1, 1) := by decide +kernel
theorem dX11_find_65 : decode cX11_find 65 = .ok (.imul, 1) := by decide +kernel
theorem dX11_find_66 : decode cX11_find 66 = .ok (.iadd, 1) := by decide +kernel
theorem dX11_find_67 : decode cX11_find 67 = .ok (.iload_n 3, 1) := by decide +kernel
theorem dX11_find_68 : decode cX11_find 68 = .ok (.iadd, 1) := by decide +kernel
theorem dX11_find_69 : decode cX11_find 69 = .ok (.iaload, 1) := by decide +kernel
theorem dX11_find_70 : decode cX11_find 70 = .ok (.aload_n 0, 1) := by decide +kernel
theorem dX11_find_71 : decode cX11_find 71 = .ok (.getfield 17, 3) := by decide +kernel
theorem dX11_find_74 : decode cX11_find 74 = .ok (.iload_n 3, 1) := by decide +kernel
theorem dX11_find_75 : decode cX11_find 75 = .ok (.iaload, 1) := by decide +kernel
theorem dX11_find_76 : decode cX11_find 76 = .ok (.if_icmp .ne 7, 3) := by decide +kernel
theorem dX11_find_79 : decode cX11_find 79 = .ok (.iconst 1, 1) := by decide +kernel
theorem dX11_find_80 : decode cX11_find 80 = .ok (.goto 4, 3) := by decide +kernel
theorem dX11_find_83 : decode cX11_find 83 = .ok (.iconst 0, 1) := by decide +kernel
theorem dX11_find_84 : decode cX11_find 84 = .ok (.istore_n 2, 1) := by decide +kernel
theorem dX11_find_85 : decode cX11_find 85 = .ok (.iinc 3 1, 3) := by decide +kernel
theorem dX11_find_88 : decode cX11_find 88 = .ok (.goto (-44), 3) := by decide +kernel
theorem dX11_find_91 : decode cX11_find 91 = .ok (.iload_n 2, 1) := by decide +kernel
theorem dX11_find_92 : decode cX11_find 92 = .ok (.ifCond .eq 5, 3) := by decide +kernel
theorem dX11_find_95 : decode cX11_find 95 = .ok (.iload_n 1, 1) := by decide +kernel
theorem dX11_find_96 : decode cX11_find 96 = .ok (.ireturn, 1) := by decide +kernel
theorem dX11_find_97 : decode cX11_find 97 = .ok (.iinc 1 1, 3) := by decide +kernel
theorem dX11_find_100 : decode cX11_find 100 = .ok (.goto (-98), 3) := by decide +kernel
theorem dX11_find_103 : decode cX11_find 103 = .ok (.iconst (-1), 1) := by decide +kernel
theorem dX11_find_104 : decode cX11_find 104 = .ok (.ireturn, 1) := by decide +kernel
theorem dX11_newName_0 : decode cX11_newName 0 = .ok (.aload_n 0, 1) := by decide +kernel
theorem dX11_newName_1 : decode cX11_newName 1 = .ok (.getfield 91, 3) := by decide +kernel
theorem dX11_newName_4 : decode cX11_newName 4 = .ok (.ifCond .eq 4, 3) := by decide +kernel
theorem dX11_newName_7 : decode cX11_newName 7 = .ok (.return_, 1) := by decide +kernel
theorem dX11_newName_8 : decode cX11_newName 8 = .ok (.aload_n 0, 1) := by decide +kernel
theorem dX11_newName_9 : decode cX11_newName 9 = .ok (.invokevirtual 132, 3) := by decide +kernel
theorem dX11_newName_12 : decode cX11_newName 12 = .ok (.aload_n 0, 1) := by decide +kernel
theorem dX11_newName_13 : decode cX11_newName 13 = .ok (.getfield 91, 3) := by decide +kernel
theorem dX11_newName_16 : decode cX11_newName 16 = .ok (.ifCond .ne 19, 3) := by decide +kernel
theorem dX11_newName_19 : decode cX11_newName 19 = .ok (.aload_n 0, 1) := by decide +kernel
theorem dX11_newName_20 : decode cX11_newName 20 = .ok (.invokevirtual 135, 3) := by decide +kernel
theorem dX11_newName_23 : decode cX11_newName 23 = .ok (.ifCond .lt 12, 3) := by decide +kernel
theorem dX11_newName_26 : decode cX11_newName 26 = .ok (.aload_n 0, 1) := by decide +kernel
theorem dX11_newName_27 : decode cX11_newName 27 = .ok (.iconst 3, 1) := by decide +kernel
theorem dX11_newName_28 : decode cX11_newName 28 = .ok (.aload_n 0, 1) := by decide +kernel
theorem dX11_newName_29 : decode cX11_newName 29 = .ok (.getfield 72, 3) := by decide +kernel
theorem dX11_newName_32 : decode cX11_newName 32 = .ok (.invokevirtual 118, 3) := by decide +kernel
theorem dX11_newName_35 : decode cX11_newName 35 = .ok (.aload_n 0, 1) := by decide +kernel
theorem dX11_newName_36 : decode cX11_newName 36 = .ok (.getfield 91, 3) := by decide +kernel
theorem dX11_newName_39 : decode cX11_newName 39 = .ok (.ifCond .eq 4, 3) := by decide +kernel
theorem dX11_newName_42 : decode cX11_newName 42 = .ok (.return_, 1) := by decide +kernel
theorem dX11_newName_43 : decode cX11_newName 43 = .ok (.iconst 0, 1) := by decide +kernel
theorem dX11_newName_44 : decode cX11_newName 44 = .ok (.istore_n 2, 1) := by decide +kernel
theorem dX11_newName_45 : decode cX11_newName 45 = .ok (.iload_n 2, 1) := by decide +kernel
theorem dX11_newName_46 : decode cX11_newName 46 = .ok (.aload_n 0, 1) := by decide +kernel
theorem dX11_newName_47 : decode cX11_newName 47 = .ok (.getfield 75, 3) := by decide +kernel
theorem dX11_newName_50 : decode cX11_newName 50 = .ok (.if_icmp .ge 29, 3) := by decide +kernel
theorem dX11_newName_53 : decode cX11_newName 53 = .ok (.aload_n 0, 1) := by decide +kernel
theorem dX11_newName_54 : decode cX11_newName 54 = .ok (.getfield 23, 3) := by decide +kernel
theorem dX11_newName_57 : decode cX11_newName 57 = .ok (.bipush 91, 2) := by decide +kernel
theorem dX11_newName_59 : decode cX11_newName 59 = .ok (.bipush 8, 2) := by decide +kernel
theorem dX11_newName_61 : decode cX11_newName 61 = .ok (.iload_n 1, 1) := by decide +kernel
theorem dX11_newName_62 : decode cX11_newName 62 = .ok (.imul, 1) := by decide +kernel
theorem dX11_newName_63 : decode cX11_newName 63 = .ok (.iadd, 1) := by decide +kernel
theorem dX11_newName_64 : decode cX11_newName 64 = .ok (.iload_n 2, 1) := by decide +kernel
theorem dX11_newName_65 : decode cX11_newName 65 = .ok (.iadd, 1) := by decide +kernel
theorem dX11_newName_66 : decode cX11_newName 66 = .ok (.aload_n 0, 1) := by decide +kernel
theorem dX11_newName_67 : decode cX11_newName 67 = .ok (.getfield 17, 3) := by decide +kernel
theorem dX11_newName_70 : decode cX11_newName 70 = .ok (.iload_n 2, 1) := by decide +kernel
theorem dX11_newName_71 : decode cX11_newName 71 = .ok (.iaload, 1) := by decide +kernel
theorem dX11_newName_72 : decode cX11_newName 72 = .ok (.iastore, 1) := by decide +kernel
theorem dX11_newName_73 : decode cX11_newName 73 = .ok (.iinc 2 1, 3) := by decide +kernel
theorem dX11_newName_76 : decode cX11_newName 76 = .ok (.goto (-31), 3) := by decide +kernel
theorem dX11_newName_79 : decode cX11_newName 79 = .ok (.aload_n 0, 1) := by decide +kernel
theorem dX11_newName_80 : decode cX11_newName 80 = .ok (.getfield 23, 3) := by decide +kernel
theorem dX11_newName_83 : decode cX11_newName 83 = .ok (.bipush 75, 2) := by decide +kernel
theorem dX11_newName_85 : decode cX11_newName 85 = .ok (.iload_n 1, 1) := by decide +kernel
theorem dX11_newName_86 : decode cX11_newName 86 = .ok (.iadd, 1) := by decide +kernel
theorem dX11_newName_87 : decode cX11_newName 87 = .ok (.aload_n 0, 1) := by decide +kernel
theorem dX11_newName_88 : decode cX11_newName 88 = .ok (.getfield 75, 3) := by decide +kernel
theorem dX11_newName_91 : decode cX11_newName 91 = .ok (.iastore, 1) := by decide +kernel
theorem dX11_newName_92 : decode cX11_newName 92 = .ok (.aload_n 0, 1) := by decide +kernel
theorem dX11_newName_93 : decode cX11_newName 93 = .ok (.invokevirtual 112, 3) := by decide +kernel
theorem dX11_newName_96 : decode cX11_newName 96 = .ok (.return_, 1) := by decide +kernel
theorem dX11_houseHere_0 : decode cX11_houseHere 0 = .ok (.aload_n 0, 1) := by decide +kernel
theorem dX11_houseHere_1 : decode cX11_houseHere 1 = .ok (.getfield 91, 3) := by decide +kernel
theorem dX11_houseHere_4 : decode cX11_houseHere 4 = .ok (.ifCond .eq 5, 3) := by decide +kernel
theorem dX11_houseHere_7 : decode cX11_houseHere 7 = .ok (.iconst 0, 1) := by decide +kernel
theorem dX11_houseHere_8 : decode cX11_houseHere 8 = .ok (.ireturn, 1) := by decide +kernel
theorem dX11_houseHere_9 : decode cX11_houseHere 9 = .ok (.aload_n 0, 1) := by decide +kernel
theorem dX11_houseHere_10 : decode cX11_houseHere 10 = .ok (.invokevirtual 132, 3) := by decide +kernel
theorem dX11_houseHere_13 : decode cX11_houseHere 13 = .ok (.aload_n 0, 1) := by decide +kernel
theorem dX11_houseHere_14 : decode cX11_houseHere 14 = .ok (.getfield 91, 3) := by decide +kernel
theorem dX11_houseHere_17 : decode cX11_houseHere 17 = .ok (.ifCond .eq 5, 3) := by decide +kernel
theorem dX11_houseHere_20 : decode cX11_houseHere 20 = .ok (.iconst 0, 1) := by decide +kernel
theorem dX11_houseHere_21 : decode cX11_houseHere 21 = .ok (.ireturn, 1) := by decide +kernel
theorem dX11_houseHere_22 : decode cX11_houseHere 22 = .ok (.aload_n 0, 1) := by decide +kernel
theorem dX11_houseHere_23 : decode cX11_houseHere 23 = .ok (.invokevirtual 135, 3) := by decide +kernel
theorem dX11_houseHere_26 : decode cX11_houseHere 26 = .ok (.istore_n 1, 1) := by decide +kernel
theorem dX11_houseHere_27 : decode cX11_houseHere 27 = .ok (.iload_n 1, 1) := by decide +kernel
theorem dX11_houseHere_28 : decode cX11_houseHere 28 = .ok (.iconst 0, 1) := by decide +kernel
theorem dX11_houseHere_29 : decode cX11_houseHere 29 = .ok (.iconst 5, 1) := by decide +kernel
theorem dX11_houseHere_30 : decode cX11_houseHere 30 = .ok (.invokestatic 138, 3) := by decide +kernel
theorem dX11_houseHere_33 : decode cX11_houseHere 33 = .ok (.ifCond .ne 12, 3) := by decide +kernel
theorem dX11_houseHere_36 : decode cX11_houseHere 36 = .ok (.aload_n 0, 1) := by decide +kernel
theorem dX11_houseHere_37 : decode cX11_houseHere 37 = .ok (.iconst 2, 1) := by decide +kernel
theorem dX11_houseHere_38 : decode cX11_houseHere 38 = .ok (.aload_n 0, 1) := by decide +kernel
theorem dX11_houseHere_39 : decode cX11_houseHere 39 = .ok (.getfield 72, 3) := by decide +kernel
theorem dX11_houseHere_42 : decode cX11_houseHere 42 = .ok (.invokevirtual 118, 3) := by decide +kernel
theorem dX11_houseHere_45 : decode cX11_houseHere 45 = .ok (.aload_n 0, 1) := by decide +kernel
theorem dX11_houseHere_46 : decode cX11_houseHere 46 = .ok (.getfield 91, 3) := by decide +kernel
theorem dX11_houseHere_49 : decode cX11_houseHere 49 = .ok (.ifCond .eq 7, 3) := by decide +kernel
theorem dX11_houseHere_52 : decode cX11_houseHere 52 = .ok (.iconst 0, 1) := by decide +kernel
theorem dX11_houseHere_53 : decode cX11_houseHere 53 = .ok (.goto 4, 3) := by decide +kernel
theorem dX11_houseHere_56 : decode cX11_houseHere 56 = .ok (.iload_n 1, 1) := by decide +kernel
theorem dX11_houseHere_57 : decode cX11_houseHere 57 = .ok (.ireturn, 1) := by decide +kernel
theorem dX11_housePassed_0 : decode cX11_housePassed 0 = .ok (.aload_n 0, 1) := by decide +kernel
theorem dX11_housePassed_1 : decode cX11_housePassed 1 = .ok (.invokevirtual 142, 3) := by decide +kernel
theorem dX11_housePassed_4 : decode cX11_housePassed 4 = .ok (.istore_n 1, 1) := by decide +kernel
theorem dX11_housePassed_5 : decode cX11_housePassed 5 = .ok (.aload_n 0, 1) := by decide +kernel
theorem dX11_housePassed_6 : decode cX11_housePassed 6 = .ok (.getfield 91, 3) := by decide +kernel
theorem dX11_housePassed_9 : decode cX11_housePassed 9 = .ok (.ifCond .ne 7, 3) := by decide +kernel
theorem dX11_housePassed_12 : decode cX11_housePassed 12 = .ok (.aload_n 0, 1) := by decide +kernel
theorem dX11_housePassed_13 : decode cX11_housePassed 13 = .ok (.invokevirtual 112, 3) := by decide +kernel
theorem dX11_housePassed_16 : decode cX11_housePassed 16 = .ok (.iload_n 1, 1) := by decide +kernel
theorem dX11_housePassed_17 : decode cX11_housePassed 17 = .ok (.ireturn, 1) := by decide +kernel
theorem dX11_numberHere_0 : decode cX11_numberHere 0 = .ok (.aload_n 0, 1) := by decide +kernel
theorem dX11_numberHere_1 : decode cX11_numberHere 1 = .ok (.getfield 91, 3) := by decide +kernel
theorem dX11_numberHere_4 : decode cX11_numberHere 4 = .ok (.ifCond .eq 5, 3) := by decide +kernel
theorem dX11_numberHere_7 : decode cX11_numberHere 7 = .ok (.iload_n 1, 1) := by decide +kernel
theorem dX11_numberHere_8 : decode cX11_numberHere 8 = .ok (.ireturn, 1) := by decide +kernel
theorem dX11_numberHere_9 : decode cX11_numberHere 9 = .ok (.aload_n 0, 1) := by decide +kernel
theorem dX11_numberHere_10 : decode cX11_numberHere 10 = .ok (.getfield 81, 3) := by decide +kernel
theorem dX11_numberHere_13 : decode cX11_numberHere 13 = .ok (.iconst 3, 1) := by decide +kernel
theorem dX11_numberHere_14 : decode cX11_numberHere 14 = .ok (.if_icmp .eq 15, 3) := by decide +kernel
theorem dX11_numberHere_17 : decode cX11_numberHere 17 = .ok (.aload_n 0, 1) := by decide +kernel
theorem dX11_numberHere_18 : decode cX11_numberHere 18 = .ok (.iconst 1, 1) := by decide +kernel
theorem dX11_numberHere_19 : decode cX11_numberHere 19 = .ok (.aload_n 0, 1) := by decide +kernel
theorem dX11_numberHere_20 : decode cX11_numberHere 20 = .ok (.getfield 72, 3) := by decide +kernel
theorem dX11_numberHere_23 : decode cX11_numberHere 23 = .ok (.invokevirtual 118, 3) := by decide +kernel
theorem dX11_numberHere_26 : decode cX11_numberHere 26 = .ok (.goto 24, 3) := by decide +kernel
theorem dX11_numberHere_29 : decode cX11_numberHere 29 = .ok (.aload_n 0, 1) := by decide +kernel
theorem dX11_numberHere_30 : decode cX11_numberHere 30 = .ok (.getfield 78, 3) := by decide +kernel
theorem dX11_numberHere_33 : decode cX11_numberHere 33 = .ok (.iload_n 1, 1) := by decide +kernel
theorem dX11_numberHere_34 : decode cX11_numberHere 34 = .ok (.iload_n 2, 1) := by decide +kernel
theorem dX11_numberHere_35 : decode cX11_numberHere 35 = .ok (.invokestatic 138, 3) := by decide +kernel
theorem dX11_numberHere_38 : decode cX11_numberHere 38 = .ok (.ifCond .ne 12, 3) := by decide +kernel
theorem dX11_numberHere_41 : decode cX11_numberHere 41 = .ok (.aload_n 0, 1) := by decide +kernel
theorem dX11_numberHere_42 : decode cX11_numberHere 42 = .ok (.iconst 4, 1) := by decide +kernel
theorem dX11_numberHere_43 : decode cX11_numberHere 43 = .ok (.aload_n 0, 1) := by decide +kernel
theorem dX11_numberHere_44 : decode cX11_numberHere 44 = .ok (.getfield 72, 3) := by decide +kernel
theorem dX11_numberHere_47 : decode cX11_numberHere 47 = .ok (.invokevirtual 118, 3) := by decide +kernel
theorem dX11_numberHere_50 : decode cX11_numberHere 50 = .ok (.aload_n 0, 1) := by decide +kernel
theorem dX11_numberHere_51 : decode cX11_numberHere 51 = .ok (.getfield 91, 3) := by decide +kernel
theorem dX11_numberHere_54 : decode cX11_numberHere 54 = .ok (.ifCond .eq 7, 3) := by decide +kernel
theorem dX11_numberHere_57 : decode cX11_numberHere 57 = .ok (.iload_n 1, 1) := by decide +kernel
theorem dX11_numberHere_58 : decode cX11_numberHere 58 = .ok (.goto 7, 3) := by decide +kernel
theorem dX11_numberHere_61 : decode cX11_numberHere 61 = .ok (.aload_n 0, 1) := by decide +kernel
theorem dX11_numberHere_62 : decode cX11_numberHere 62 = .ok (.getfield 78, 3) := by decide +kernel
theorem dX11_numberHere_65 : decode cX11_numberHere 65 = .ok (.ireturn, 1) := by decide +kernel
theorem dX11_after_0 : decode cX11_after 0 = .ok (.aload_n 0, 1) := by decide +kernel
theorem dX11_after_1 : decode cX11_after 1 = .ok (.aload_n 1, 1) := by decide +kernel
theorem dX11_after_2 : decode cX11_after 2 = .ok (.invokevirtual 145, 3) := by decide +kernel
theorem dX11_after_5 : decode cX11_after 5 = .ok (.aload_n 0, 1) := by decide +kernel
theorem dX11_after_6 : decode cX11_after 6 = .ok (.iload_n 2, 1) := by decide +kernel
theorem dX11_after_7 : decode cX11_after 7 = .ok (.iload_n 3, 1) := by decide +kernel
theorem dX11_after_8 : decode cX11_after 8 = .ok (.invokevirtual 149, 3) := by decide +kernel
theorem dX11_after_11 : decode cX11_after 11 = .ok (.istore 4, 2) := by decide +kernel
theorem dX11_after_13 : decode cX11_after 13 = .ok (.aload_n 0, 1) := by decide +kernel
theorem dX11_after_14 : decode cX11_after 14 = .ok (.getfield 91, 3) := by decide +kernel
theorem dX11_after_17 : decode cX11_after 17 = .ok (.ifCond .ne 7, 3) := by decide +kernel
theorem dX11_after_20 : decode cX11_after 20 = .ok (.aload_n 0, 1) := by decide +kernel
theorem dX11_after_21 : decode cX11_after 21 = .ok (.invokevirtual 112, 3) := by decide +kernel
theorem dX11_after_24 : decode cX11_after 24 = .ok (.iload 4, 2) := by decide +kernel
theorem dX11_after_26 : decode cX11_after 26 = .ok (.ireturn, 1) := by decide +kernel
theorem dX11_loft_0 : decode cX11_loft 0 = .ok (.aload_n 0, 1) := by decide +kernel
theorem dX11_loft_1 : decode cX11_loft 1 = .ok (.invokevirtual 153, 3) := by decide +kernel
theorem dX11_loft_4 : decode cX11_loft 4 = .ok (.iload_n 1, 1) := by decide +kernel
theorem dX11_loft_5 : decode cX11_loft 5 = .ok (.iconst 0, 1) := by decide +kernel
theorem dX11_loft_6 : decode cX11_loft 6 = .ok (.aload_n 0, 1) := by decide +kernel
theorem dX11_loft_7 : decode cX11_loft 7 = .ok (.getfield 59, 3) := by decide +kernel
theorem dX11_loft_10 : decode cX11_loft 10 = .ok (.invokestatic 138, 3) := by decide +kernel
theorem dX11_loft_13 : decode cX11_loft 13 = .ok (.ifCond .ne 9, 3) := by decide +kernel
theorem dX11_loft_16 : decode cX11_loft 16 = .ok (.aload_n 0, 1) := by decide +kernel
theorem dX11_loft_17 : decode cX11_loft 17 = .ok (.iconst 2, 1) := by decide +kernel
theorem dX11_loft_18 : decode cX11_loft 18 = .ok (.invokevirtual 156, 3) := by decide +kernel
theorem dX11_loft_21 : decode cX11_loft 21 = .ok (.ireturn, 1) := by decide +kernel
theorem dX11_loft_22 : decode cX11_loft 22 = .ok (.aload_n 0, 1) := by decide +kernel
theorem dX11_loft_23 : decode cX11_loft 23 = .ok (.iconst 0, 1) := by decide +kernel
theorem dX11_loft_24 : decode cX11_loft 24 = .ok (.putfield 59, 3) := by decide +kernel
theorem dX11_loft_27 : decode cX11_loft 27 = .ok (.aload_n 0, 1) := by decide +kernel
theorem dX11_loft_28 : decode cX11_loft 28 = .ok (.iconst 0, 1) := by decide +kernel
theorem dX11_loft_29 : decode cX11_loft 29 = .ok (.putfield 95, 3) := by decide +kernel
theorem dX11_loft_32 : decode cX11_loft 32 = .ok (.aload_n 0, 1) := by decide +kernel
theorem dX11_loft_33 : decode cX11_loft 33 = .ok (.iconst 0, 1) := by decide +kernel
theorem dX11_loft_34 : decode cX11_loft 34 = .ok (.putfield 91, 3) := by decide +kernel
theorem dX11_loft_37 : decode cX11_loft 37 = .ok (.iconst 0, 1) := by decide +kernel
theorem dX11_loft_38 : decode cX11_loft 38 = .ok (.istore_n 2, 1) := by decide +kernel
theorem dX11_loft_39 : decode cX11_loft 39 = .ok (.iload_n 2, 1) := by decide +kernel
theorem dX11_loft_40 : decode cX11_loft 40 = .ok (.sipush 219, 3) := by decide +kernel
theorem dX11_loft_43 : decode cX11_loft 43 = .ok (.if_icmp .ge 16, 3) := by decide +kernel
theorem dX11_loft_46 : decode cX11_loft 46 = .ok (.aload_n 0, 1) := by decide +kernel
theorem dX11_loft_47 : decode cX11_loft 47 = .ok (.getfield 23, 3) := by decide +kernel
theorem dX11_loft_50 : decode cX11_loft 50 = .ok (.iload_n 2, 1) := by decide +kernel
theorem dX11_loft_51 : decode cX11_loft 51 = .ok (.iconst 0, 1) := by decide +kernel
theorem dX11_loft_52 : decode cX11_loft 52 = .ok (.iastore, 1) := by decide +kernel
theorem dX11_loft_53 : decode cX11_loft 53 = .ok (.iinc 2 1, 3) := by decide +kernel
theorem dX11_loft_56 : decode cX11_loft 56 = .ok (.goto (-17), 3) := by decide +kernel
theorem dX11_loft_59 : decode cX11_loft 59 = .ok (.aload_n 0, 1) := by decide +kernel
theorem dX11_loft_60 : decode cX11_loft 60 = .ok (.iload_n 1, 1) := by decide +kernel
theorem dX11_loft_61 : decode cX11_loft 61 = .ok (.putfield 62, 3) := by decide +kernel
theorem dX11_loft_64 : decode cX11_loft 64 = .ok (.aload_n 0, 1) := by decide +kernel
theorem dX11_loft_65 : decode cX11_loft 65 = .ok (.iconst 0, 1) := by decide +kernel
theorem dX11_loft_66 : decode cX11_loft 66 = .ok (.putfield 65, 3) := by decide +kernel
theorem dX11_loft_69 : decode cX11_loft 69 = .ok (.aload_n 0, 1) := by decide +kernel
theorem dX11_loft_70 : decode cX11_loft 70 = .ok (.invokevirtual 112, 3) := by decide +kernel
theorem dX11_loft_73 : decode cX11_loft 73 = .ok (.aload_n 0, 1) := by decide +kernel
theorem dX11_loft_74 : decode cX11_loft 74 = .ok (.invokevirtual 159, 3) := by decide +kernel
theorem dX11_loft_77 : decode cX11_loft 77 = .ok (.aload_n 0, 1) := by decide +kernel
theorem dX11_loft_78 : decode cX11_loft 78 = .ok (.getfield 91, 3) := by decide +kernel
theorem dX11_loft_81 : decode cX11_loft 81 = .ok (.ifCond .ne 23, 3) := by decide +kernel
theorem dX11_loft_84 : decode cX11_loft 84 = .ok (.aload_n 0, 1) := by decide +kernel
theorem dX11_loft_85 : decode cX11_loft 85 = .ok (.getfield 81, 3) := by decide +kernel
theorem dX11_loft_88 : decode cX11_loft 88 = .ok (.bipush 59, 2) := by decide +kernel
theorem dX11_loft_90 : decode cX11_loft 90 = .ok (.if_icmp .ne 14, 3) := by decide +kernel
theorem dX11_loft_93 : decode cX11_loft 93 = .ok (.aload_n 0, 1) := by decide +kernel
theorem dX11_loft_94 : decode cX11_loft 94 = .ok (.invokevirtual 112, 3) := by decide +kernel
theorem dX11_loft_97 : decode cX11_loft 97 = .ok (.aload_n 0, 1) := by decide +kernel
theorem dX11_loft_98 : decode cX11_loft 98 = .ok (.invokevirtual 159, 3) := by decide +kernel
theorem dX11_loft_101 : decode cX11_loft 101 = .ok (.goto (-24), 3) := by decide +kernel
theorem dX11_loft_104 : decode cX11_loft 104 = .ok (.aload_n 0, 1) := by decide +kernel
theorem dX11_loft_105 : decode cX11_loft 105 = .ok (.getfield 91, 3) := by decide +kernel
theorem dX11_loft_108 : decode cX11_loft 108 = .ok (.ifCond .ne 19, 3) := by decide +kernel
theorem dX11_loft_111 : decode cX11_loft 111 = .ok (.aload_n 0, 1) := by decide +kernel
theorem dX11_loft_112 : decode cX11_loft 112 = .ok (.getfield 81, 3) := by decide +kernel
theorem dX11_loft_115 : decode cX11_loft 115 = .ok (.ifCond .eq 12, 3) := by decide +kernel
theorem dX11_loft_118 : decode cX11_loft 118 = .ok (.aload_n 0, 1) := by decide +kernel
theorem dX11_loft_119 : decode cX11_loft 119 = .ok (.iconst 1, 1) := by decide +kernel
theorem dX11_loft_120 : decode cX11_loft 120 = .ok (.aload_n 0, 1) := by decide +kernel
theorem dX11_loft_121 : decode cX11_loft 121 = .ok (.getfield 72, 3) := by decide +kernel
theorem dX11_loft_124 : decode cX11_loft 124 = .ok (.invokevirtual 118, 3) := by decide +kernel
theorem dX11_loft_127 : decode cX11_loft 127 = .ok (.aload_n 0, 1) := by decide +kernel
theorem dX11_loft_128 : decode cX11_loft 128 = .ok (.getfield 91, 3) := by decide +kernel
theorem dX11_loft_131 : decode cX11_loft 131 = .ok (.ifCond .ne 32, 3) := by decide +kernel
theorem dX11_loft_134 : decode cX11_loft 134 = .ok (.aload_n 0, 1) := by decide +kernel
theorem dX11_loft_135 : decode cX11_loft 135 = .ok (.getfield 23, 3) := by decide +kernel
theorem dX11_loft_138 : decode cX11_loft 138 = .ok (.iconst 0, 1) := by decide +kernel
theorem dX11_loft_139 : decode cX11_loft 139 = .ok (.iaload, 1) := by decide +kernel
theorem dX11_loft_140 : decode cX11_loft 140 = .ok (.ifCond .eq 13, 3) := by decide +kernel
theorem dX11_loft_143 : decode cX11_loft 143 = .ok (.aload_n 0, 1) := by decide +kernel
theorem dX11_loft_144 : decode cX11_loft 144 = .ok (.getfield 23, 3) := by decide +kernel
theorem dX11_loft_147 : decode cX11_loft 147 = .ok (.iconst 3, 1) := by decide +kernel
theorem dX11_loft_148 : decode cX11_loft 148 = .ok (.iaload, 1) := by decide +kernel
theorem dX11_loft_149 : decode cX11_loft 149 = .ok (.iconst 2, 1) := by decide +kernel
theorem dX11_loft_150 : decode cX11_loft 150 = .ok (.if_icmp .ge 13, 3) := by decide +kernel
theorem dX11_loft_153 : decode cX11_loft 153 = .ok (.aload_n 0, 1) := by decide +kernel
theorem dX11_loft_154 : decode cX11_loft 154 = .ok (.bipush 6, 2) := by decide +kernel
theorem dX11_loft_156 : decode cX11_loft 156 = .ok (.aload_n 0, 1) := by decide +kernel
theorem dX11_loft_157 : decode cX11_loft 157 = .ok (.getfield 72, 3) := by decide +kernel
theorem dX11_loft_160 : decode cX11_loft 160 = .ok (.invokevirtual 118, 3) := by decide +kernel
theorem dX11_loft_163 : decode cX11_loft 163 = .ok (.aload_n 0, 1) := by decide +kernel
theorem dX11_loft_164 : decode cX11_loft 164 = .ok (.getfield 91, 3) := by decide +kernel
theorem dX11_loft_167 : decode cX11_loft 167 = .ok (.ifCond .eq 9, 3) := by decide +kernel
theorem dX11_loft_170 : decode cX11_loft 170 = .ok (.aload_n 0, 1) := by decide +kernel
theorem dX11_loft_171 : decode cX11_loft 171 = .ok (.iconst 4, 1) := by decide +kernel
theorem dX11_loft_172 : decode cX11_loft 172 = .ok (.invokevirtual 156, 3) := by decide +kernel
theorem dX11_loft_175 : decode cX11_loft 175 = .ok (.ireturn, 1) := by decide +kernel
theorem dX11_loft_176 : decode cX11_loft 176 = .ok (.aload_n 0, 1) := by decide +kernel
theorem dX11_loft_177 : decode cX11_loft 177 = .ok (.getfield 23, 3) := by decide +kernel
theorem dX11_loft_180 : decode cX11_loft 180 = .ok (.iconst 0, 1) := by decide +kernel
theorem dX11_loft_181 : decode cX11_loft 181 = .ok (.aload_n 0, 1) := by decide +kernel
theorem dX11_loft_182 : decode cX11_loft 182 = .ok (.getfield 20, 3) := by decide +kernel
theorem dX11_loft_185 : decode cX11_loft 185 = .ok (.iconst 0, 1) := by decide +kernel
theorem dX11_loft_186 : decode cX11_loft 186 = .ok (.sipush 219, 3) := by decide +kernel
theorem dX11_loft_189 : decode cX11_loft 189 = .ok (.invokestatic 162, 3) := by decide +kernel
theorem dX11_loft_192 : decode cX11_loft 192 = .ok (.iconst 0, 1) := by decide +kernel
theorem dX11_loft_193 : decode cX11_loft 193 = .ok (.istore_n 2, 1) := by decide +kernel
theorem dX11_loft_194 : decode cX11_loft 194 = .ok (.iload_n 2, 1) := by decide +kernel
theorem dX11_loft_195 : decode cX11_loft 195 = .ok (.bipush 22, 2) := by decide +kernel
theorem dX11_loft_197 : decode cX11_loft 197 = .ok (.if_icmp .ge 16, 3) := by decide +kernel
theorem dX11_loft_200 : decode cX11_loft 200 = .ok (.aload_n 0, 1) := by decide +kernel
theorem dX11_loft_201 : decode cX11_loft 201 = .ok (.getfield 26, 3) := by decide +kernel
theorem dX11_loft_204 : decode cX11_loft 204 = .ok (.iload_n 2, 1) := by decide +kernel
theorem dX11_loft_205 : decode cX11_loft 205 = .ok (.iconst 0, 1) := by decide +kernel
theorem dX11_loft_206 : decode cX11_loft 206 = .ok (.iastore, 1) := by decide +kernel
theorem dX11_loft_207 : decode cX11_loft 207 = .ok (.iinc 2 1, 3) := by decide +kernel
theorem dX11_loft_210 : decode cX11_loft 210 = .ok (.goto (-16), 3) := by decide +kernel
theorem dX11_loft_213 : decode cX11_loft 213 = .ok (.iconst 0, 1) := by decide +kernel
theorem dX11_loft_214 : decode cX11_loft 214 = .ok (.istore_n 2, 1) := by decide +kernel
theorem dX11_loft_215 : decode cX11_loft 215 = .ok (.iload_n 2, 1) := by decide +kernel
theorem dX11_loft_216 : decode cX11_loft 216 = .ok (.aload_n 0, 1) := by decide +kernel
theorem dX11_loft_217 : decode cX11_loft 217 = .ok (.getfield 20, 3) := by decide +kernel
theorem dX11_loft_220 : decode cX11_loft 220 = .ok (.iconst 3, 1) := by decide +kernel
theorem dX11_loft_221 : decode cX11_loft 221 = .ok (.iaload, 1) := by decide +kernel
theorem dX11_loft_222 : decode cX11_loft 222 = .ok (.if_icmp .ge 31, 3) := by decide +kernel
theorem dX11_loft_225 : decode cX11_loft 225 = .ok (.aload_n 0, 1) := by decide +kernel
theorem dX11_loft_226 : decode cX11_loft 226 = .ok (.getfield 26, 3) := by decide +kernel
theorem dX11_loft_229 : decode cX11_loft 229 = .ok (.bipush 13, 2) := by decide +kernel
theorem dX11_loft_231 : decode cX11_loft 231 = .ok (.iload_n 2, 1) := by decide +kernel
theorem dX11_loft_232 : decode cX11_loft 232 = .ok (.iadd, 1) := by decide +kernel
theorem dX11_loft_233 : decode cX11_loft 233 = .ok (.aload_n 0, 1) := by decide +kernel
theorem dX11_loft_234 : decode cX11_loft 234 = .ok (.getfield 20, 3) := by decide +kernel
theorem dX11_loft_237 : decode cX11_loft 237 = .ok (.bipush 7, 2) := by decide +kernel
theorem dX11_loft_239 : decode cX11_loft 239 = .ok (.iconst 2, 1) := by decide +kernel
theorem dX11_loft_240 : decode cX11_loft 240 = .ok (.iload_n 2, 1) := by decide +kernel
theorem dX11_loft_241 : decode cX11_loft 241 = .ok (.imul, 1) := by decide +kernel
theorem dX11_loft_242 : decode cX11_loft 242 = .ok (.iadd, 1) := by decide +kernel
theorem dX11_loft_243 : decode cX11_loft 243 = .ok (.iconst 1, 1) := by decide +kernel
theorem dX11_loft_244 : decode cX11_loft 244 = .ok (.iadd, 1) := by decide +kernel
theorem dX11_loft_245 : decode cX11_loft 245 = .ok (.iaload, 1) := by decide +kernel
theorem dX11_loft_246 : decode cX11_loft 246 = .ok (.iastore, 1) := by decide +kernel
theorem dX11_loft_247 : decode cX11_loft 247 = .ok (.iinc 2 1, 3) := by decide +kernel
theorem dX11_loft_250 : decode cX11_loft 250 = .ok (.goto (-35), 3) := by decide +kernel
theorem dX11_loft_253 : decode cX11_loft 253 = .ok (.aload_n 0, 1) := by decide +kernel
theorem dX11_loft_254 : decode cX11_loft 254 = .ok (.iconst 1, 1) := by decide +kernel
theorem dX11_loft_255 : decode cX11_loft 255 = .ok (.putfield 166, 3) := by decide +kernel
theorem dX11_loft_258 : decode cX11_loft 258 = .ok (.aload_n 0, 1) := by decide +kernel
theorem dX11_loft_259 : decode cX11_loft 259 = .ok (.iconst 0, 1) := by decide +kernel
theorem dX11_loft_260 : decode cX11_loft 260 = .ok (.putfield 169, 3) := by decide +kernel
theorem dX11_loft_263 : decode cX11_loft 263 = .ok (.aload_n 0, 1) := by decide +kernel
theorem dX11_loft_264 : decode cX11_loft 264 = .ok (.iconst 0, 1) := by decide +kernel
theorem dX11_loft_265 : decode cX11_loft 265 = .ok (.putfield 172, 3) := by decide +kernel
theorem dX11_loft_268 : decode cX11_loft 268 = .ok (.aload_n 0, 1) := by decide +kernel
theorem dX11_loft_269 : decode cX11_loft 269 = .ok (.getfield 20, 3) := by decide +kernel
theorem dX11_loft_272 : decode cX11_loft 272 = .ok (.iconst 3, 1) := by decide +kernel
theorem dX11_loft_273 : decode cX11_loft 273 = .ok (.iaload, 1) := by decide +kernel
theorem dX11_loft_274 : decode cX11_loft 274 = .ok (.ireturn, 1) := by decide +kernel
theorem dX11_begins_0 : decode cX11_begins 0 = .ok (.aload_n 0, 1) := by decide +kernel
theorem dX11_begins_1 : decode cX11_begins 1 = .ok (.aload_n 1, 1) := by decide +kernel
theorem dX11_begins_2 : decode cX11_begins 2 = .ok (.invokevirtual 108, 3) := by decide +kernel
theorem dX11_begins_5 : decode cX11_begins 5 = .ok (.ifCond .ne 5, 3) := by decide +kernel
theorem dX11_begins_8 : decode cX11_begins 8 = .ok (.iconst 0, 1) := by decide +kernel
theorem dX11_begins_9 : decode cX11_begins 9 = .ok (.ireturn, 1) := by decide +kernel
theorem dX11_begins_10 : decode cX11_begins 10 = .ok (.iload_n 2, 1) := by decide +kernel
theorem dX11_begins_11 : decode cX11_begins 11 = .ok (.ifCond .ne 12, 3) := by decide +kernel
theorem dX11_begins_14 : decode cX11_begins 14 = .ok (.aload_n 0, 1) := by decide +kernel
theorem dX11_begins_15 : decode cX11_begins 15 = .ok (.iconst 5, 1) := by decide +kernel
theorem dX11_begins_16 : decode cX11_begins 16 = .ok (.aload_n 0, 1) := by decide +kernel
theorem dX11_begins_17 : decode cX11_begins 17 = .ok (.getfield 72, 3) := by decide +kernel
theorem dX11_begins_20 : decode cX11_begins 20 = .ok (.invokevirtual 118, 3) := by decide +kernel
theorem dX11_begins_23 : decode cX11_begins 23 = .ok (.aload_n 0, 1) := by decide +kernel
theorem dX11_begins_24 : decode cX11_begins 24 = .ok (.getfield 23, 3) := by decide +kernel
theorem dX11_begins_27 : decode cX11_begins 27 = .ok (.iconst 0, 1) := by decide +kernel
theorem dX11_begins_28 : decode cX11_begins 28 = .ok (.iaload, 1) := by decide +kernel
theorem dX11_begins_29 : decode cX11_begins 29 = .ok (.ifCond .ne 13, 3) := by decide +kernel
theorem dX11_begins_32 : decode cX11_begins 32 = .ok (.aload_n 0, 1) := by decide +kernel
theorem dX11_begins_33 : decode cX11_begins 33 = .ok (.bipush 6, 2) := by decide +kernel
theorem dX11_begins_35 : decode cX11_begins 35 = .ok (.aload_n 0, 1) := by decide +kernel
theorem dX11_begins_36 : decode cX11_begins 36 = .ok (.getfield 72, 3) := by decide +kernel
theorem dX11_begins_39 : decode cX11_begins 39 = .ok (.invokevirtual 118, 3) := by decide +kernel
theorem dX11_begins_42 : decode cX11_begins 42 = .ok (.aload_n 0, 1) := by decide +kernel
theorem dX11_begins_43 : decode cX11_begins 43 = .ok (.getfield 91, 3) := by decide +kernel
theorem dX11_begins_46 : decode cX11_begins 46 = .ok (.ifCond .ne 7, 3) := by decide +kernel
theorem dX11_begins_49 : decode cX11_begins 49 = .ok (.aload_n 0, 1) := by decide +kernel
theorem dX11_begins_50 : decode cX11_begins 50 = .ok (.invokevirtual 112, 3) := by decide +kernel
theorem dX11_begins_53 : decode cX11_begins 53 = .ok (.iconst 1, 1) := by decide +kernel
theorem dX11_begins_54 : decode cX11_begins 54 = .ok (.ireturn, 1) := by decide +kernel
theorem dX11_readLine_0 : decode cX11_readLine 0 = .ok (.aload_n 0, 1) := by decide +kernel
theorem dX11_readLine_1 : decode cX11_readLine 1 = .ok (.ldc 122, 2) := by decide +kernel
theorem dX11_readLine_3 : decode cX11_readLine 3 = .ok (.invokevirtual 108, 3) := by decide +kernel
theorem dX11_readLine_6 : decode cX11_readLine 6 = .ok (.ifCond .eq 10, 3) := by decide +kernel
theorem dX11_readLine_9 : decode cX11_readLine 9 = .ok (.aload_n 0, 1) := by decide +kernel
theorem dX11_readLine_10 : decode cX11_readLine 10 = .ok (.invokevirtual 175, 3) := by decide +kernel
theorem dX11_readLine_13 : decode cX11_readLine 13 = .ok (.goto 139, 3) := by decide +kernel
theorem dX11_readLine_16 : decode cX11_readLine 16 = .ok (.aload_n 0, 1) := by decide +kernel
theorem dX11_readLine_17 : decode cX11_readLine 17 = .ok (.ldc 124, 2) := by decide +kernel
theorem dX11_readLine_19 : decode cX11_readLine 19 = .ok (.aload_n 0, 1) := by decide +kernel
theorem dX11_readLine_20 : decode cX11_readLine 20 = .ok (.getfield 23, 3) := by decide +kernel
theorem dX11_readLine_23 : decode cX11_readLine 23 = .ok (.iconst 3, 1) := by decide +kernel
theorem dX11_readLine_24 : decode cX11_readLine 24 = .ok (.iaload, 1) := by decide +kernel
theorem dX11_readLine_25 : decode cX11_readLine 25 = .ok (.bipush 6, 2) := by decide +kernel
theorem dX11_readLine_27 : decode cX11_readLine 27 = .ok (.if_icmp .ge 7, 3) := by decide +kernel
theorem dX11_readLine_30 : decode cX11_readLine 30 = .ok (.iconst 1, 1) := by decide +kernel
theorem dX11_readLine_31 : decode cX11_readLine 31 = .ok (.goto 4, 3) := by decide +kernel
theorem dX11_readLine_34 : decode cX11_readLine 34 = .ok (.iconst 0, 1) := by decide +kernel
theorem dX11_readLine_35 : decode cX11_readLine 35 = .ok (.invokevirtual 178, 3) := by decide +kernel
theorem dX11_readLine_38 : decode cX11_readLine 38 = .ok (.ifCond .eq 10, 3) := by decide +kernel
theorem dX11_readLine_41 : decode cX11_readLine 41 = .ok (.aload_n 0, 1) := by decide +kernel
theorem dX11_readLine_42 : decode cX11_readLine 42 = .ok (.invokevirtual 182, 3) := by decide +kernel
theorem dX11_readLine_45 : decode cX11_readLine 45 = .ok (.goto 107, 3) := by decide +kernel
theorem dX11_readLine_48 : decode cX11_readLine 48 = .ok (.aload_n 0, 1) := by decide +kernel
theorem dX11_readLine_49 : decode cX11_readLine 49 = .ok (.ldc 126, 2) := by decide +kernel
theorem dX11_readLine_51 : decode cX11_readLine 51 = .ok (.aload_n 0, 1) := by decide +kernel
theorem dX11_readLine_52 : decode cX11_readLine 52 = .ok (.getfield 23, 3) := by decide +kernel
theorem dX11_readLine_55 : decode cX11_readLine 55 = .ok (.iconst 4, 1) := by decide +kernel
theorem dX11_readLine_56 : decode cX11_readLine 56 = .ok (.iaload, 1) := by decide +kernel
theorem dX11_readLine_57 : decode cX11_readLine 57 = .ok (.bipush 7, 2) := by decide +kernel
theorem dX11_readLine_59 : decode cX11_readLine 59 = .ok (.if_icmp .ge 7, 3) := by decide +kernel
theorem dX11_readLine_62 : decode cX11_readLine 62 = .ok (.iconst 1, 1) := by decide +kernel
theorem dX11_readLine_63 : decode cX11_readLine 63 = .ok (.goto 4, 3) := by decide +kernel
theorem dX11_readLine_66 : decode cX11_readLine 66 = .ok (.iconst 0, 1) := by decide +kernel
theorem dX11_readLine_67 : decode cX11_readLine 67 = .ok (.invokevirtual 178, 3) := by decide +kernel
theorem dX11_readLine_70 : decode cX11_readLine 70 = .ok (.ifCond .eq 10, 3) := by decide +kernel
theorem dX11_readLine_73 : decode cX11_readLine 73 = .ok (.aload_n 0, 1) := by decide +kernel
theorem dX11_readLine_74 : decode cX11_readLine 74 = .ok (.invokevirtual 185, 3) := by decide +kernel
theorem dX11_readLine_77 : decode cX11_readLine 77 = .ok (.goto 75, 3) := by decide +kernel
theorem dX11_readLine_80 : decode cX11_readLine 80 = .ok (.aload_n 0, 1) := by decide +kernel
theorem dX11_readLine_81 : decode cX11_readLine 81 = .ok (.ldc 128, 2) := by decide +kernel
theorem dX11_readLine_83 : decode cX11_readLine 83 = .ok (.aload_n 0, 1) := by decide +kernel
theorem dX11_readLine_84 : decode cX11_readLine 84 = .ok (.getfield 23, 3) := by decide +kernel
theorem dX11_readLine_87 : decode cX11_readLine 87 = .ok (.iconst 5, 1) := by decide +kernel
theorem dX11_readLine_88 : decode cX11_readLine 88 = .ok (.iaload, 1) := by decide +kernel
theorem dX11_readLine_89 : decode cX11_readLine 89 = .ok (.iconst 3, 1) := by decide +kernel
theorem dX11_readLine_90 : decode cX11_readLine 90 = .ok (.if_icmp .ge 7, 3) := by decide +kernel
theorem dX11_readLine_93 : decode cX11_readLine 93 = .ok (.iconst 1, 1) := by decide +kernel
theorem dX11_readLine_94 : decode cX11_readLine 94 = .ok (.goto 4, 3) := by decide +kernel
theorem dX11_readLine_97 : decode cX11_readLine 97 = .ok (.iconst 0, 1) := by decide +kernel
theorem dX11_readLine_98 : decode cX11_readLine 98 = .ok (.invokevirtual 178, 3) := by decide +kernel
theorem dX11_readLine_101 : decode cX11_readLine 101 = .ok (.ifCond .eq 10, 3) := by decide +kernel
theorem dX11_readLine_104 : decode cX11_readLine 104 = .ok (.aload_n 0, 1) := by decide +kernel
theorem dX11_readLine_105 : decode cX11_readLine 105 = .ok (.invokevirtual 188, 3) := by decide +kernel
theorem dX11_readLine_108 : decode cX11_readLine 108 = .ok (.goto 44, 3) := by decide +kernel
theorem dX11_readLine_111 : decode cX11_readLine 111 = .ok (.aload_n 0, 1) := by decide +kernel
theorem dX11_readLine_112 : decode cX11_readLine 112 = .ok (.ldc 130, 2) := by decide +kernel
theorem dX11_readLine_114 : decode cX11_readLine 114 = .ok (.aload_n 0, 1) := by decide +kernel
theorem dX11_readLine_115 : decode cX11_readLine 115 = .ok (.getfield 23, 3) := by decide +kernel
theorem dX11_readLine_118 : decode cX11_readLine 118 = .ok (.bipush 6, 2) := by decide +kernel
theorem dX11_readLine_120 : decode cX11_readLine 120 = .ok (.iaload, 1) := by decide +kernel
theorem dX11_readLine_121 : decode cX11_readLine 121 = .ok (.iconst 5, 1) := by decide +kernel
theorem dX11_readLine_122 : decode cX11_readLine 122 = .ok (.if_icmp .ge 7, 3) := by decide +kernel
theorem dX11_readLine_125 : decode cX11_readLine 125 = .ok (.iconst 1, 1) := by decide +kernel
theorem dX11_readLine_126 : decode cX11_readLine 126 = .ok (.goto 4, 3) := by decide +kernel
theorem dX11_readLine_129 : decode cX11_readLine 129 = .ok (.iconst 0, 1) := by decide +kernel
theorem dX11_readLine_130 : decode cX11_readLine 130 = .ok (.invokevirtual 178, 3) := by decide +kernel
theorem dX11_readLine_133 : decode cX11_readLine 133 = .ok (.ifCond .eq 10, 3) := by decide +kernel
theorem dX11_readLine_136 : decode cX11_readLine 136 = .ok (.aload_n 0, 1) := by decide +kernel
theorem dX11_readLine_137 : decode cX11_readLine 137 = .ok (.invokevirtual 191, 3) := by decide +kernel
theorem dX11_readLine_140 : decode cX11_readLine 140 = .ok (.goto 12, 3) := by decide +kernel
theorem dX11_readLine_143 : decode cX11_readLine 143 = .ok (.aload_n 0, 1) := by decide +kernel
theorem dX11_readLine_144 : decode cX11_readLine 144 = .ok (.iconst 1, 1) := by decide +kernel
theorem dX11_readLine_145 : decode cX11_readLine 145 = .ok (.aload_n 0, 1) := by decide +kernel
theorem dX11_readLine_146 : decode cX11_readLine 146 = .ok (.getfield 72, 3) := by decide +kernel
theorem dX11_readLine_149 : decode cX11_readLine 149 = .ok (.invokevirtual 118, 3) := by decide +kernel
theorem dX11_readLine_152 : decode cX11_readLine 152 = .ok (.return_, 1) := by decide +kernel
theorem dX11_loftLine_0 : decode cX11_loftLine 0 = .ok (.aload_n 0, 1) := by decide +kernel
theorem dX11_loftLine_1 : decode cX11_loftLine 1 = .ok (.getfield 23, 3) := by decide +kernel
theorem dX11_loftLine_4 : decode cX11_loftLine 4 = .ok (.iconst 0, 1) := by decide +kernel
theorem dX11_loftLine_5 : decode cX11_loftLine 5 = .ok (.iaload, 1) := by decide +kernel
theorem dX11_loftLine_6 : decode cX11_loftLine 6 = .ok (.ifCond .le 12, 3) := by decide +kernel
theorem dX11_loftLine_9 : decode cX11_loftLine 9 = .ok (.aload_n 0, 1) := by decide +kernel
theorem dX11_loftLine_10 : decode cX11_loftLine 10 = .ok (.iconst 3, 1) := by decide +kernel
theorem dX11_loftLine_11 : decode cX11_loftLine 11 = .ok (.aload_n 0, 1) := by decide +kernel
theorem dX11_loftLine_12 : decode cX11_loftLine 12 = .ok (.getfield 72, 3) := by decide +kernel
theorem dX11_loftLine_15 : decode cX11_loftLine 15 = .ok (.invokevirtual 118, 3) := by decide +kernel
theorem dX11_loftLine_18 : decode cX11_loftLine 18 = .ok (.aload_n 0, 1) := by decide +kernel
theorem dX11_loftLine_19 : decode cX11_loftLine 19 = .ok (.getfield 91, 3) := by decide +kernel
theorem dX11_loftLine_22 : decode cX11_loftLine 22 = .ok (.ifCond .eq 4, 3) := by decide +kernel
theorem dX11_loftLine_25 : decode cX11_loftLine 25 = .ok (.return_, 1) := by decide +kernel
theorem dX11_loftLine_26 : decode cX11_loftLine 26 = .ok (.aload_n 0, 1) := by decide +kernel
theorem dX11_loftLine_27 : decode cX11_loftLine 27 = .ok (.invokevirtual 112, 3) := by decide +kernel
theorem dX11_loftLine_30 : decode cX11_loftLine 30 = .ok (.aload_n 0, 1) := by decide +kernel
theorem dX11_loftLine_31 : decode cX11_loftLine 31 = .ok (.ldc 194, 2) := by decide +kernel
theorem dX11_loftLine_33 : decode cX11_loftLine 33 = .ok (.iconst 1, 1) := by decide +kernel
theorem dX11_loftLine_34 : decode cX11_loftLine 34 = .ok (.bipush 50, 2) := by decide +kernel
theorem dX11_loftLine_36 : decode cX11_loftLine 36 = .ok (.invokevirtual 196, 3) := by decide +kernel
theorem dX11_loftLine_39 : decode cX11_loftLine 39 = .ok (.istore_n 1, 1) := by decide +kernel
theorem dX11_loftLine_40 : decode cX11_loftLine 40 = .ok (.aload_n 0, 1) := by decide +kernel
theorem dX11_loftLine_41 : decode cX11_loftLine 41 = .ok (.getfield 23, 3) := by decide +kernel
theorem dX11_loftLine_44 : decode cX11_loftLine 44 = .ok (.iconst 1, 1) := by decide +kernel
theorem dX11_loftLine_45 : decode cX11_loftLine 45 = .ok (.aload_n 0, 1) := by decide +kernel
theorem dX11_loftLine_46 : decode cX11_loftLine 46 = .ok (.ldc 200, 2) := by decide +kernel
theorem dX11_loftLine_48 : decode cX11_loftLine 48 = .ok (.iconst 0, 1) := by decide +kernel
theorem dX11_loftLine_49 : decode cX11_loftLine 49 = .ok (.bipush 100, 2) := by decide +kernel
theorem dX11_loftLine_51 : decode cX11_loftLine 51 = .ok (.invokevirtual 196, 3) := by decide +kernel
theorem dX11_loftLine_54 : decode cX11_loftLine 54 = .ok (.iastore, 1) := by decide +kernel
theorem dX11_loftLine_55 : decode cX11_loftLine 55 = .ok (.aload_n 0, 1) := by decide +kernel
theorem dX11_loftLine_56 : decode cX11_loftLine 56 = .ok (.getfield 23, 3) := by decide +kernel
theorem dX11_loftLine_59 : decode cX11_loftLine 59 = .ok (.iconst 2, 1) := by decide +kernel
theorem dX11_loftLine_60 : decode cX11_loftLine 60 = .ok (.aload_n 0, 1) := by decide +kernel
theorem dX11_loftLine_61 : decode cX11_loftLine 61 = .ok (.ldc 202, 2) := by decide +kernel
theorem dX11_loftLine_63 : decode cX11_loftLine 63 = .ok (.iconst 0, 1) := by decide +kernel
theorem dX11_loftLine_64 : decode cX11_loftLine 64 = .ok (.bipush 100, 2) := by decide +kernel
theorem dX11_loftLine_66 : decode cX11_loftLine 66 = .ok (.invokevirtual 196, 3) := by decide +kernel
theorem dX11_loftLine_69 : decode cX11_loftLine 69 = .ok (.iastore, 1) := by decide +kernel
theorem dX11_loftLine_70 : decode cX11_loftLine 70 = .ok (.aload_n 0, 1) := by decide +kernel
theorem dX11_loftLine_71 : decode cX11_loftLine 71 = .ok (.getfield 91, 3) := by decide +kernel
theorem dX11_loftLine_74 : decode cX11_loftLine 74 = .ok (.ifCond .ne 10, 3) := by decide +kernel
theorem dX11_loftLine_77 : decode cX11_loftLine 77 = .ok (.aload_n 0, 1) := by decide +kernel
theorem dX11_loftLine_78 : decode cX11_loftLine 78 = .ok (.getfield 23, 3) := by decide +kernel
theorem dX11_loftLine_81 : decode cX11_loftLine 81 = .ok (.iconst 0, 1) := by decide +kernel
theorem dX11_loftLine_82 : decode cX11_loftLine 82 = .ok (.iload_n 1, 1) := by decide +kernel
theorem dX11_loftLine_83 : decode cX11_loftLine 83 = .ok (.iastore, 1) := by decide +kernel
theorem dX11_loftLine_84 : decode cX11_loftLine 84 = .ok (.return_, 1) := by decide +kernel
theorem dX11_houseLine_0 : decode cX11_houseLine 0 = .ok (.aload_n 0, 1) := by decide +kernel
theorem dX11_houseLine_1 : decode cX11_houseLine 1 = .ok (.getfield 91, 3) := by decide +kernel
theorem dX11_houseLine_4 : decode cX11_houseLine 4 = .ok (.ifCond .eq 4, 3) := by decide +kernel
theorem dX11_houseLine_7 : decode cX11_houseLine 7 = .ok (.return_, 1) := by decide +kernel
theorem dX11_houseLine_8 : decode cX11_houseLine 8 = .ok (.bipush 7, 2) := by decide +kernel
theorem dX11_houseLine_10 : decode cX11_houseLine 10 = .ok (.iconst 2, 1) := by decide +kernel
theorem dX11_houseLine_11 : decode cX11_houseLine 11 = .ok (.aload_n 0, 1) := by decide +kernel
theorem dX11_houseLine_12 : decode cX11_houseLine 12 = .ok (.getfield 23, 3) := by decide +kernel
theorem dX11_houseLine_15 : decode cX11_houseLine 15 = .ok (.iconst 3, 1) := by decide +kernel
theorem dX11_houseLine_16 : decode cX11_houseLine 16 = .ok (.iaload, 1) := by decide +kernel
theorem dX11_houseLine_17 : decode cX11_houseLine 17 = .ok (.imul, 1) := by decide +kernel
theorem dX11_houseLine_18 : decode cX11_houseLine 18 = .ok (.iadd, 1) := by decide +kernel
theorem dX11_houseLine_19 : decode cX11_houseLine 19 = .ok (.istore_n 1, 1) := by decide +kernel
theorem dX11_houseLine_20 : decode cX11_houseLine 20 = .ok (.aload_n 0, 1) := by decide +kernel
theorem dX11_houseLine_21 : decode cX11_houseLine 21 = .ok (.aload_n 0, 1) := by decide +kernel
theorem dX11_houseLine_22 : decode cX11_houseLine 22 = .ok (.getfield 23, 3) := by decide +kernel
theorem dX11_houseLine_25 : decode cX11_houseLine 25 = .ok (.iconst 3, 1) := by decide +kernel
theorem dX11_houseLine_26 : decode cX11_houseLine 26 = .ok (.iaload, 1) := by decide +kernel
theorem dX11_houseLine_27 : decode cX11_houseLine 27 = .ok (.invokevirtual 204, 3) := by decide +kernel
theorem dX11_houseLine_30 : decode cX11_houseLine 30 = .ok (.aload_n 0, 1) := by decide +kernel
theorem dX11_houseLine_31 : decode cX11_houseLine 31 = .ok (.getfield 23, 3) := by decide +kernel
theorem dX11_houseLine_34 : decode cX11_houseLine 34 = .ok (.iload_n 1, 1) := by decide +kernel
theorem dX11_houseLine_35 : decode cX11_houseLine 35 = .ok (.aload_n 0, 1) := by decide +kernel
theorem dX11_houseLine_36 : decode cX11_houseLine 36 = .ok (.ldc 208, 2) := by decide +kernel
theorem dX11_houseLine_38 : decode cX11_houseLine 38 = .ok (.iconst 0, 1) := by decide +kernel
theorem dX11_houseLine_39 : decode cX11_houseLine 39 = .ok (.bipush 99, 2) := by decide +kernel
theorem dX11_houseLine_41 : decode cX11_houseLine 41 = .ok (.invokevirtual 196, 3) := by decide +kernel
theorem dX11_houseLine_44 : decode cX11_houseLine 44 = .ok (.iastore, 1) := by decide +kernel
theorem dX11_houseLine_45 : decode cX11_houseLine 45 = .ok (.aload_n 0, 1) := by decide +kernel
theorem dX11_houseLine_46 : decode cX11_houseLine 46 = .ok (.getfield 23, 3) := by decide +kernel
theorem dX11_houseLine_49 : decode cX11_houseLine 49 = .ok (.iload_n 1, 1) := by decide +kernel
theorem dX11_houseLine_50 : decode cX11_houseLine 50 = .ok (.iconst 1, 1) := by decide +kernel
theorem dX11_houseLine_51 : decode cX11_houseLine 51 = .ok (.iadd, 1) := by decide +kernel
theorem dX11_houseLine_52 : decode cX11_houseLine 52 = .ok (.aload_n 0, 1) := by decide +kernel
theorem dX11_houseLine_53 : decode cX11_houseLine 53 = .ok (.ldc 209, 2) := by decide +kernel
theorem dX11_houseLine_55 : decode cX11_houseLine 55 = .ok (.iconst 0, 1) := by decide +kernel
theorem dX11_houseLine_56 : decode cX11_houseLine 56 = .ok (.sipush 300, 3) := by decide +kernel
theorem dX11_houseLine_59 : decode cX11_houseLine 59 = .ok (.invokevirtual 196, 3) := by decide +kernel
theorem dX11_houseLine_62 : decode cX11_houseLine 62 = .ok (.iastore, 1) := by decide +kernel
theorem dX11_houseLine_63 : decode cX11_houseLine 63 = .ok (.aload_n 0, 1) := by decide +kernel
theorem dX11_houseLine_64 : decode cX11_houseLine 64 = .ok (.getfield 91, 3) := by decide +kernel
theorem dX11_houseLine_67 : decode cX11_houseLine 67 = .ok (.ifCond .ne 13, 3) := by decide +kernel
theorem dX11_houseLine_70 : decode cX11_houseLine 70 = .ok (.aload_n 0, 1) := by decide +kernel
theorem dX11_houseLine_71 : decode cX11_houseLine 71 = .ok (.getfield 23, 3) := by decide +kernel
theorem dX11_houseLine_74 : decode cX11_houseLine 74 = .ok (.iconst 3, 1) := by decide +kernel
theorem dX11_houseLine_75 : decode cX11_houseLine 75 = .ok (.dup2, 1) := by decide +kernel
theorem dX11_houseLine_76 : decode cX11_houseLine 76 = .ok (.iaload, 1) := by decide +kernel
theorem dX11_houseLine_77 : decode cX11_houseLine 77 = .ok (.iconst 1, 1) := by decide +kernel
theorem dX11_houseLine_78 : decode cX11_houseLine 78 = .ok (.iadd, 1) := by decide +kernel
theorem dX11_houseLine_79 : decode cX11_houseLine 79 = .ok (.iastore, 1) := by decide +kernel
theorem dX11_houseLine_80 : decode cX11_houseLine 80 = .ok (.return_, 1) := by decide +kernel
theorem dX11_birdLine_0 : decode cX11_birdLine 0 = .ok (.aload_n 0, 1) := by decide +kernel
theorem dX11_birdLine_1 : decode cX11_birdLine 1 = .ok (.getfield 91, 3) := by decide +kernel
theorem dX11_birdLine_4 : decode cX11_birdLine 4 = .ok (.ifCond .eq 4, 3) := by decide +kernel
theorem dX11_birdLine_7 : decode cX11_birdLine 7 = .ok (.return_, 1) := by decide +kernel
theorem dX11_birdLine_8 : decode cX11_birdLine 8 = .ok (.bipush 19, 2) := by decide +kernel
theorem dX11_birdLine_10 : decode cX11_birdLine 10 = .ok (.iconst 5, 1) := by decide +kernel
theorem dX11_birdLine_11 : decode cX11_birdLine 11 = .ok (.aload_n 0, 1) := by decide +kernel
theorem dX11_birdLine_12 : decode cX11_birdLine 12 = .ok (.getfield 23, 3) := by decide +kernel
theorem dX11_birdLine_15 : decode cX11_birdLine 15 = .ok (.iconst 4, 1) := by decide +kernel
theorem dX11_birdLine_16 : decode cX11_birdLine 16 = .ok (.iaload, 1) := by decide +kernel
theorem dX11_birdLine_17 : decode cX11_birdLine 17 = .ok (.imul, 1) := by decide +kernel
theorem dX11_birdLine_18 : decode cX11_birdLine 18 = .ok (.iadd, 1) := by decide +kernel
theorem dX11_birdLine_19 : decode cX11_birdLine 19 = .ok (.istore_n 1, 1) := by decide +kernel
theorem dX11_birdLine_20 : decode cX11_birdLine 20 = .ok (.aload_n 0, 1) := by decide +kernel
theorem dX11_birdLine_21 : decode cX11_birdLine 21 = .ok (.bipush 6, 2) := by decide +kernel
theorem dX11_birdLine_23 : decode cX11_birdLine 23 = .ok (.aload_n 0, 1) := by decide +kernel
theorem dX11_birdLine_24 : decode cX11_birdLine 24 = .ok (.getfield 23, 3) := by decide +kernel
theorem dX11_birdLine_27 : decode cX11_birdLine 27 = .ok (.iconst 4, 1) := by decide +kernel
theorem dX11_birdLine_28 : decode cX11_birdLine 28 = .ok (.iaload, 1) := by decide +kernel
theorem dX11_birdLine_29 : decode cX11_birdLine 29 = .ok (.iadd, 1) := by decide +kernel
theorem dX11_birdLine_30 : decode cX11_birdLine 30 = .ok (.invokevirtual 204, 3) := by decide +kernel
theorem dX11_birdLine_33 : decode cX11_birdLine 33 = .ok (.aload_n 0, 1) := by decide +kernel
theorem dX11_birdLine_34 : decode cX11_birdLine 34 = .ok (.ldc 211, 2) := by decide +kernel
theorem dX11_birdLine_36 : decode cX11_birdLine 36 = .ok (.invokevirtual 108, 3) := by decide +kernel
theorem dX11_birdLine_39 : decode cX11_birdLine 39 = .ok (.ifCond .eq 7, 3) := by decide +kernel
theorem dX11_birdLine_42 : decode cX11_birdLine 42 = .ok (.iconst 0, 1) := by decide +kernel
theorem dX11_birdLine_43 : decode cX11_birdLine 43 = .ok (.goto 43, 3) := by decide +kernel
theorem dX11_birdLine_46 : decode cX11_birdLine 46 = .ok (.aload_n 0, 1) := by decide +kernel
theorem dX11_birdLine_47 : decode cX11_birdLine 47 = .ok (.ldc 213, 2) := by decide +kernel
theorem dX11_birdLine_49 : decode cX11_birdLine 49 = .ok (.invokevirtual 108, 3) := by decide +kernel
theorem dX11_birdLine_52 : decode cX11_birdLine 52 = .ok (.ifCond .eq 7, 3) := by decide +kernel
theorem dX11_birdLine_55 : decode cX11_birdLine 55 = .ok (.iconst 1, 1) := by decide +kernel
theorem dX11_birdLine_56 : decode cX11_birdLine 56 = .ok (.goto 30, 3) := by decide +kernel
theorem dX11_birdLine_59 : decode cX11_birdLine 59 = .ok (.aload_n 0, 1) := by decide +kernel
theorem dX11_birdLine_60 : decode cX11_birdLine 60 = .ok (.ldc 215, 2) := by decide +kernel
theorem dX11_birdLine_62 : decode cX11_birdLine 62 = .ok (.invokevirtual 108, 3) := by decide +kernel
theorem dX11_birdLine_65 : decode cX11_birdLine 65 = .ok (.ifCond .eq 7, 3) := by decide +kernel
theorem dX11_birdLine_68 : decode cX11_birdLine 68 = .ok (.iconst 2, 1) := by decide +kernel
theorem dX11_birdLine_69 : decode cX11_birdLine 69 = .ok (.goto 17, 3) := by decide +kernel
theorem dX11_birdLine_72 : decode cX11_birdLine 72 = .ok (.aload_n 0, 1) := by decide +kernel
theorem dX11_birdLine_73 : decode cX11_birdLine 73 = .ok (.ldc 217, 2) := by decide +kernel
theorem dX11_birdLine_75 : decode cX11_birdLine 75 = .ok (.invokevirtual 108, 3) := by decide +kernel
theorem dX11_birdLine_78 : decode cX11_birdLine 78 = .ok (.ifCond .eq 7, 3) := by decide +kernel
theorem dX11_birdLine_81 : decode cX11_birdLine 81 = .ok (.iconst 3, 1) := by decide +kernel
theorem dX11_birdLine_82 : decode cX11_birdLine 82 = .ok (.goto 4, 3) := by decide +kernel
theorem dX11_birdLine_85 : decode cX11_birdLine 85 = .ok (.iconst (-1), 1) := by decide +kernel
theorem dX11_birdLine_86 : decode cX11_birdLine 86 = .ok (.istore_n 2, 1) := by decide +kernel
theorem dX11_birdLine_87 : decode cX11_birdLine 87 = .ok (.iload_n 2, 1) := by decide +kernel
theorem dX11_birdLine_88 : decode cX11_birdLine 88 = .ok (.ifCond .ge 12, 3) := by decide +kernel
theorem dX11_birdLine_91 : decode cX11_birdLine 91 = .ok (.aload_n 0, 1) := by decide +kernel
theorem dX11_birdLine_92 : decode cX11_birdLine 92 = .ok (.iconst 1, 1) := by decide +kernel
theorem dX11_birdLine_93 : decode cX11_birdLine 93 = .ok (.aload_n 0, 1) := by decide +kernel
theorem dX11_birdLine_94 : decode cX11_birdLine 94 = .ok (.getfield 72, 3) := by decide +kernel
theorem dX11_birdLine_97 : decode cX11_birdLine 97 = .ok (.invokevirtual 118, 3) := by decide +kernel
theorem dX11_birdLine_100 : decode cX11_birdLine 100 = .ok (.aload_n 0, 1) := by decide +kernel
theorem dX11_birdLine_101 : decode cX11_birdLine 101 = .ok (.getfield 91, 3) := by decide +kernel
theorem dX11_birdLine_104 : decode cX11_birdLine 104 = .ok (.ifCond .eq 4, 3) := by decide +kernel
theorem dX11_birdLine_107 : decode cX11_birdLine 107 = .ok (.return_, 1) := by decide +kernel
theorem dX11_birdLine_108 : decode cX11_birdLine 108 = .ok (.aload_n 0, 1) := by decide +kernel
theorem dX11_birdLine_109 : decode cX11_birdLine 109 = .ok (.invokevirtual 112, 3) := by decide +kernel
theorem dX11_birdLine_112 : decode cX11_birdLine 112 = .ok (.aload_n 0, 1) := by decide +kernel
theorem dX11_birdLine_113 : decode cX11_birdLine 113 = .ok (.getfield 23, 3) := by decide +kernel
theorem dX11_birdLine_116 : decode cX11_birdLine 116 = .ok (.iload_n 1, 1) := by decide +kernel
theorem dX11_birdLine_117 : decode cX11_birdLine 117 = .ok (.iload_n 2, 1) := by decide +kernel
theorem dX11_birdLine_118 : decode cX11_birdLine 118 = .ok (.iastore, 1) := by decide +kernel
theorem dX11_birdLine_119 : decode cX11_birdLine 119 = .ok (.aload_n 0, 1) := by decide +kernel
theorem dX11_birdLine_120 : decode cX11_birdLine 120 = .ok (.ldc 219, 2) := by decide +kernel
theorem dX11_birdLine_122 : decode cX11_birdLine 122 = .ok (.invokevirtual 145, 3) := by decide +kernel
theorem dX11_birdLine_125 : decode cX11_birdLine 125 = .ok (.aload_n 0, 1) := by decide +kernel
theorem dX11_birdLine_126 : decode cX11_birdLine 126 = .ok (.getfield 23, 3) := by decide +kernel
theorem dX11_birdLine_129 : decode cX11_birdLine 129 = .ok (.iload_n 1, 1) := by decide +kernel
theorem dX11_birdLine_130 : decode cX11_birdLine 130 = .ok (.iconst 1, 1) := by decide +kernel
theorem dX11_birdLine_131 : decode cX11_birdLine 131 = .ok (.iadd, 1) := by decide +kernel
theorem dX11_birdLine_132 : decode cX11_birdLine 132 = .ok (.aload_n 0, 1) := by decide +kernel
theorem dX11_birdLine_133 : decode cX11_birdLine 133 = .ok (.invokevirtual 221, 3) := by decide +kernel
theorem dX11_birdLine_136 : decode cX11_birdLine 136 = .ok (.iastore, 1) := by decide +kernel
theorem dX11_birdLine_137 : decode cX11_birdLine 137 = .ok (.aload_n 0, 1) := by decide +kernel
theorem dX11_birdLine_138 : decode cX11_birdLine 138 = .ok (.ldc 224, 2) := by decide +kernel
theorem dX11_birdLine_140 : decode cX11_birdLine 140 = .ok (.invokevirtual 145, 3) := by decide +kernel
theorem dX11_birdLine_143 : decode cX11_birdLine 143 = .ok (.aload_n 0, 1) := by decide +kernel
theorem dX11_birdLine_144 : decode cX11_birdLine 144 = .ok (.getfield 23, 3) := by decide +kernel
theorem dX11_birdLine_147 : decode cX11_birdLine 147 = .ok (.iload_n 1, 1) := by decide +kernel
theorem dX11_birdLine_148 : decode cX11_birdLine 148 = .ok (.iconst 2, 1) := by decide +kernel
theorem dX11_birdLine_149 : decode cX11_birdLine 149 = .ok (.iadd, 1) := by decide +kernel
theorem dX11_birdLine_150 : decode cX11_birdLine 150 = .ok (.aload_n 0, 1) := by decide +kernel
theorem dX11_birdLine_151 : decode cX11_birdLine 151 = .ok (.invokevirtual 142, 3) := by decide +kernel
theorem dX11_birdLine_154 : decode cX11_birdLine 154 = .ok (.iastore, 1) := by decide +kernel
theorem dX11_birdLine_155 : decode cX11_birdLine 155 = .ok (.aload_n 0, 1) := by decide +kernel
theorem dX11_birdLine_156 : decode cX11_birdLine 156 = .ok (.getfield 91, 3) := by decide +kernel
theorem dX11_birdLine_159 : decode cX11_birdLine 159 = .ok (.ifCond .ne 31, 3) := by decide +kernel
theorem dX11_birdLine_162 : decode cX11_birdLine 162 = .ok (.aload_n 0, 1) := by decide +kernel
theorem dX11_birdLine_163 : decode cX11_birdLine 163 = .ok (.getfield 23, 3) := by decide +kernel
theorem dX11_birdLine_166 : decode cX11_birdLine 166 = .ok (.iload_n 1, 1) := by decide +kernel
theorem dX11_birdLine_167 : decode cX11_birdLine 167 = .ok (.iconst 1, 1) := by decide +kernel
theorem dX11_birdLine_168 : decode cX11_birdLine 168 = .ok (.iadd, 1) := by decide +kernel
theorem dX11_birdLine_169 : decode cX11_birdLine 169 = .ok (.iaload, 1) := by decide +kernel
theorem dX11_birdLine_170 : decode cX11_birdLine 170 = .ok (.aload_n 0, 1) := by decide +kernel
theorem dX11_birdLine_171 : decode cX11_birdLine 171 = .ok (.getfield 23, 3) := by decide +kernel
theorem dX11_birdLine_174 : decode cX11_birdLine 174 = .ok (.iload_n 1, 1) := by decide +kernel
theorem dX11_birdLine_175 : decode cX11_birdLine 175 = .ok (.iconst 2, 1) := by decide +kernel
theorem dX11_birdLine_176 : decode cX11_birdLine 176 = .ok (.iadd, 1) := by decide +kernel
theorem dX11_birdLine_177 : decode cX11_birdLine 177 = .ok (.iaload, 1) := by decide +kernel
theorem dX11_birdLine_178 : decode cX11_birdLine 178 = .ok (.if_icmp .ne 12, 3) := by decide +kernel
theorem dX11_birdLine_181 : decode cX11_birdLine 181 = .ok (.aload_n 0, 1) := by decide +kernel
theorem dX11_birdLine_182 : decode cX11_birdLine 182 = .ok (.iconst 3, 1) := by decide +kernel
theorem dX11_birdLine_183 : decode cX11_birdLine 183 = .ok (.aload_n 0, 1) := by decide +kernel
theorem dX11_birdLine_184 : decode cX11_birdLine 184 = .ok (.getfield 72, 3) := by decide +kernel
theorem dX11_birdLine_187 : decode cX11_birdLine 187 = .ok (.invokevirtual 118, 3) := by decide +kernel
theorem dX11_birdLine_190 : decode cX11_birdLine 190 = .ok (.aload_n 0, 1) := by decide +kernel
theorem dX11_birdLine_191 : decode cX11_birdLine 191 = .ok (.getfield 91, 3) := by decide +kernel
theorem dX11_birdLine_194 : decode cX11_birdLine 194 = .ok (.ifCond .eq 4, 3) := by decide +kernel
theorem dX11_birdLine_197 : decode cX11_birdLine 197 = .ok (.return_, 1) := by decide +kernel
theorem dX11_birdLine_198 : decode cX11_birdLine 198 = .ok (.aload_n 0, 1) := by decide +kernel
theorem dX11_birdLine_199 : decode cX11_birdLine 199 = .ok (.invokevirtual 112, 3) := by decide +kernel
theorem dX11_birdLine_202 : decode cX11_birdLine 202 = .ok (.aload_n 0, 1) := by decide +kernel
theorem dX11_birdLine_203 : decode cX11_birdLine 203 = .ok (.getfield 23, 3) := by decide +kernel
theorem dX11_birdLine_206 : decode cX11_birdLine 206 = .ok (.iload_n 1, 1) := by decide +kernel
theorem dX11_birdLine_207 : decode cX11_birdLine 207 = .ok (.iconst 3, 1) := by decide +kernel
theorem dX11_birdLine_208 : decode cX11_birdLine 208 = .ok (.iadd, 1) := by decide +kernel
theorem dX11_birdLine_209 : decode cX11_birdLine 209 = .ok (.aload_n 0, 1) := by decide +kernel
theorem dX11_birdLine_210 : decode cX11_birdLine 210 = .ok (.ldc 226, 2) := by decide +kernel
theorem dX11_birdLine_212 : decode cX11_birdLine 212 = .ok (.iconst 0, 1) := by decide +kernel
theorem dX11_birdLine_213 : decode cX11_birdLine 213 = .ok (.bipush 30, 2) := by decide +kernel
theorem dX11_birdLine_215 : decode cX11_birdLine 215 = .ok (.invokevirtual 196, 3) := by decide +kernel
theorem dX11_birdLine_218 : decode cX11_birdLine 218 = .ok (.iastore, 1) := by decide +kernel
theorem dX11_birdLine_219 : decode cX11_birdLine 219 = .ok (.aload_n 0, 1) := by decide +kernel
theorem dX11_birdLine_220 : decode cX11_birdLine 220 = .ok (.getfield 23, 3) := by decide +kernel
theorem dX11_birdLine_223 : decode cX11_birdLine 223 = .ok (.iload_n 1, 1) := by decide +kernel
theorem dX11_birdLine_224 : decode cX11_birdLine 224 = .ok (.iconst 4, 1) := by decide +kernel
theorem dX11_birdLine_225 : decode cX11_birdLine 225 = .ok (.iadd, 1) := by decide +kernel
theorem dX11_birdLine_226 : decode cX11_birdLine 226 = .ok (.aload_n 0, 1) := by decide +kernel
theorem dX11_birdLine_227 : decode cX11_birdLine 227 = .ok (.ldc 228, 2) := by decide +kernel
theorem dX11_birdLine_229 : decode cX11_birdLine 229 = .ok (.iconst 1, 1) := by decide +kernel
theorem dX11_birdLine_230 : decode cX11_birdLine 230 = .ok (.bipush 60, 2) := by decide +kernel
theorem dX11_birdLine_232 : decode cX11_birdLine 232 = .ok (.invokevirtual 196, 3) := by decide +kernel
theorem dX11_birdLine_235 : decode cX11_birdLine 235 = .ok (.iastore, 1) := by decide +kernel
theorem dX11_birdLine_236 : decode cX11_birdLine 236 = .ok (.aload_n 0, 1) := by decide +kernel
theorem dX11_birdLine_237 : decode cX11_birdLine 237 = .ok (.getfield 91, 3) := by decide +kernel
theorem dX11_birdLine_240 : decode cX11_birdLine 240 = .ok (.ifCond .ne 13, 3) := by decide +kernel
theorem dX11_birdLine_243 : decode cX11_birdLine 243 = .ok (.aload_n 0, 1) := by decide +kernel
theorem dX11_birdLine_244 : decode cX11_birdLine 244 = .ok (.getfield 23, 3) := by decide +kernel
theorem dX11_birdLine_247 : decode cX11_birdLine 247 = .ok (.iconst 4, 1) := by decide +kernel
theorem dX11_birdLine_248 : decode cX11_birdLine 248 = .ok (.dup2, 1) := by decide +kernel
theorem dX11_birdLine_249 : decode cX11_birdLine 249 = .ok (.iaload, 1) := by decide +kernel
theorem dX11_birdLine_250 : decode cX11_birdLine 250 = .ok (.iconst 1, 1) := by decide +kernel
theorem dX11_birdLine_251 : decode cX11_birdLine 251 = .ok (.iadd, 1) := by decide +kernel
theorem dX11_birdLine_252 : decode cX11_birdLine 252 = .ok (.iastore, 1) := by decide +kernel
theorem dX11_birdLine_253 : decode cX11_birdLine 253 = .ok (.return_, 1) := by decide +kernel
theorem dX11_strayLine_0 : decode cX11_strayLine 0 = .ok (.aload_n 0, 1) := by decide +kernel
theorem dX11_strayLine_1 : decode cX11_strayLine 1 = .ok (.getfield 91, 3) := by decide +kernel
theorem dX11_strayLine_4 : decode cX11_strayLine 4 = .ok (.ifCond .eq 4, 3) := by decide +kernel
theorem dX11_strayLine_7 : decode cX11_strayLine 7 = .ok (.return_, 1) := by decide +kernel
theorem dX11_strayLine_8 : decode cX11_strayLine 8 = .ok (.bipush 54, 2) := by decide +kernel
theorem dX11_strayLine_10 : decode cX11_strayLine 10 = .ok (.iconst 2, 1) := by decide +kernel
theorem dX11_strayLine_11 : decode cX11_strayLine 11 = .ok (.aload_n 0, 1) := by decide +kernel
theorem dX11_strayLine_12 : decode cX11_strayLine 12 = .ok (.getfield 23, 3) := by decide +kernel
theorem dX11_strayLine_15 : decode cX11_strayLine 15 = .ok (.iconst 5, 1) := by decide +kernel
theorem dX11_strayLine_16 : decode cX11_strayLine 16 = .ok (.iaload, 1) := by decide +kernel
theorem dX11_strayLine_17 : decode cX11_strayLine 17 = .ok (.imul, 1) := by decide +kernel
theorem dX11_strayLine_18 : decode cX11_strayLine 18 = .ok (.iadd, 1) := by decide +kernel
theorem dX11_strayLine_19 : decode cX11_strayLine 19 = .ok (.istore_n 1, 1) := by decide +kernel
theorem dX11_strayLine_20 : decode cX11_strayLine 20 = .ok (.aload_n 0, 1) := by decide +kernel
theorem dX11_strayLine_21 : decode cX11_strayLine 21 = .ok (.bipush 13, 2) := by decide +kernel
theorem dX11_strayLine_23 : decode cX11_strayLine 23 = .ok (.aload_n 0, 1) := by decide +kernel
theorem dX11_strayLine_24 : decode cX11_strayLine 24 = .ok (.getfield 23, 3) := by decide +kernel
theorem dX11_strayLine_27 : decode cX11_strayLine 27 = .ok (.iconst 5, 1) := by decide +kernel
theorem dX11_strayLine_28 : decode cX11_strayLine 28 = .ok (.iaload, 1) := by decide +kernel
theorem dX11_strayLine_29 : decode cX11_strayLine 29 = .ok (.iadd, 1) := by decide +kernel
theorem dX11_strayLine_30 : decode cX11_strayLine 30 = .ok (.invokevirtual 204, 3) := by decide +kernel
theorem dX11_strayLine_33 : decode cX11_strayLine 33 = .ok (.aload_n 0, 1) := by decide +kernel
theorem dX11_strayLine_34 : decode cX11_strayLine 34 = .ok (.ldc 219, 2) := by decide +kernel
theorem dX11_strayLine_36 : decode cX11_strayLine 36 = .ok (.invokevirtual 145, 3) := by decide +kernel
theorem dX11_strayLine_39 : decode cX11_strayLine 39 = .ok (.aload_n 0, 1) := by decide +kernel
theorem dX11_strayLine_40 : decode cX11_strayLine 40 = .ok (.getfield 23, 3) := by decide +kernel
theorem dX11_strayLine_43 : decode cX11_strayLine 43 = .ok (.iload_n 1, 1) := by decide +kernel
theorem dX11_strayLine_44 : decode cX11_strayLine 44 = .ok (.aload_n 0, 1) := by decide +kernel
theorem dX11_strayLine_45 : decode cX11_strayLine 45 = .ok (.invokevirtual 221, 3) := by decide +kernel
theorem dX11_strayLine_48 : decode cX11_strayLine 48 = .ok (.iastore, 1) := by decide +kernel
theorem dX11_strayLine_49 : decode cX11_strayLine 49 = .ok (.aload_n 0, 1) := by decide +kernel
theorem dX11_strayLine_50 : decode cX11_strayLine 50 = .ok (.getfield 23, 3) := by decide +kernel
theorem dX11_strayLine_53 : decode cX11_strayLine 53 = .ok (.iload_n 1, 1) := by decide +kernel
theorem dX11_strayLine_54 : decode cX11_strayLine 54 = .ok (.iconst 1, 1) := by decide +kernel
theorem dX11_strayLine_55 : decode cX11_strayLine 55 = .ok (.iadd, 1) := by decide +kernel
theorem dX11_strayLine_56 : decode cX11_strayLine 56 = .ok (.aload_n 0, 1) := by decide +kernel
theorem dX11_strayLine_57 : decode cX11_strayLine 57 = .ok (.ldc 226, 2) := by decide +kernel
theorem dX11_strayLine_59 : decode cX11_strayLine 59 = .ok (.iconst 0, 1) := by decide +kernel
theorem dX11_strayLine_60 : decode cX11_strayLine 60 = .ok (.bipush 30, 2) := by decide +kernel
theorem dX11_strayLine_62 : decode cX11_strayLine 62 = .ok (.invokevirtual 196, 3) := by decide +kernel
theorem dX11_strayLine_65 : decode cX11_strayLine 65 = .ok (.iastore, 1) := by decide +kernel
theorem dX11_strayLine_66 : decode cX11_strayLine 66 = .ok (.aload_n 0, 1) := by decide +kernel
theorem dX11_strayLine_67 : decode cX11_strayLine 67 = .ok (.getfield 91, 3) := by decide +kernel
theorem dX11_strayLine_70 : decode cX11_strayLine 70 = .ok (.ifCond .ne 13, 3) := by decide +kernel
theorem dX11_strayLine_73 : decode cX11_strayLine 73 = .ok (.aload_n 0, 1) := by decide +kernel
theorem dX11_strayLine_74 : decode cX11_strayLine 74 = .ok (.getfield 23, 3) := by decide +kernel
theorem dX11_strayLine_77 : decode cX11_strayLine 77 = .ok (.iconst 5, 1) := by decide +kernel
theorem dX11_strayLine_78 : decode cX11_strayLine 78 = .ok (.dup2, 1) := by decide +kernel
theorem dX11_strayLine_79 : decode cX11_strayLine 79 = .ok (.iaload, 1) := by decide +kernel
theorem dX11_strayLine_80 : decode cX11_strayLine 80 = .ok (.iconst 1, 1) := by decide +kernel
theorem dX11_strayLine_81 : decode cX11_strayLine 81 = .ok (.iadd, 1) := by decide +kernel
theorem dX11_strayLine_82 : decode cX11_strayLine 82 = .ok (.iastore, 1) := by decide +kernel
theorem dX11_strayLine_83 : decode cX11_strayLine 83 = .ok (.return_, 1) := by decide +kernel
theorem dX11_seenLine_0 : decode cX11_seenLine 0 = .ok (.aload_n 0, 1) := by decide +kernel
theorem dX11_seenLine_1 : decode cX11_seenLine 1 = .ok (.getfield 91, 3) := by decide +kernel
theorem dX11_seenLine_4 : decode cX11_seenLine 4 = .ok (.ifCond .eq 4, 3) := by decide +kernel
theorem dX11_seenLine_7 : decode cX11_seenLine 7 = .ok (.return_, 1) := by decide +kernel
theorem dX11_seenLine_8 : decode cX11_seenLine 8 = .ok (.bipush 60, 2) := by decide +kernel
theorem dX11_seenLine_10 : decode cX11_seenLine 10 = .ok (.iconst 3, 1) := by decide +kernel
theorem dX11_seenLine_11 : decode cX11_seenLine 11 = .ok (.aload_n 0, 1) := by decide +kernel
theorem dX11_seenLine_12 : decode cX11_seenLine 12 = .ok (.getfield 23, 3) := by decide +kernel
theorem dX11_seenLine_15 : decode cX11_seenLine 15 = .ok (.bipush 6, 2) := by decide +kernel
theorem dX11_seenLine_17 : decode cX11_seenLine 17 = .ok (.iaload, 1) := by decide +kernel
theorem dX11_seenLine_18 : decode cX11_seenLine 18 = .ok (.imul, 1) := by decide +kernel
theorem dX11_seenLine_19 : decode cX11_seenLine 19 = .ok (.iadd, 1) := by decide +kernel
theorem dX11_seenLine_20 : decode cX11_seenLine 20 = .ok (.istore_n 1, 1) := by decide +kernel
theorem dX11_seenLine_21 : decode cX11_seenLine 21 = .ok (.aload_n 0, 1) := by decide +kernel
theorem dX11_seenLine_22 : decode cX11_seenLine 22 = .ok (.invokevirtual 221, 3) := by decide +kernel
theorem dX11_seenLine_25 : decode cX11_seenLine 25 = .ok (.istore_n 2, 1) := by decide +kernel
theorem dX11_seenLine_26 : decode cX11_seenLine 26 = .ok (.aload_n 0, 1) := by decide +kernel
theorem dX11_seenLine_27 : decode cX11_seenLine 27 = .ok (.ldc 226, 2) := by decide +kernel
theorem dX11_seenLine_29 : decode cX11_seenLine 29 = .ok (.invokevirtual 145, 3) := by decide +kernel
theorem dX11_seenLine_32 : decode cX11_seenLine 32 = .ok (.aload_n 0, 1) := by decide +kernel
theorem dX11_seenLine_33 : decode cX11_seenLine 33 = .ok (.iconst 0, 1) := by decide +kernel
theorem dX11_seenLine_34 : decode cX11_seenLine 34 = .ok (.bipush 30, 2) := by decide +kernel
theorem dX11_seenLine_36 : decode cX11_seenLine 36 = .ok (.invokevirtual 149, 3) := by decide +kernel
theorem dX11_seenLine_39 : decode cX11_seenLine 39 = .ok (.istore_n 3, 1) := by decide +kernel
theorem dX11_seenLine_40 : decode cX11_seenLine 40 = .ok (.iconst 0, 1) := by decide +kernel
theorem dX11_seenLine_41 : decode cX11_seenLine 41 = .ok (.istore 4, 2) := by decide +kernel
theorem dX11_seenLine_43 : decode cX11_seenLine 43 = .ok (.iload 4, 2) := by decide +kernel
theorem dX11_seenLine_45 : decode cX11_seenLine 45 = .ok (.aload_n 0, 1) := by decide +kernel
theorem dX11_seenLine_46 : decode cX11_seenLine 46 = .ok (.getfield 23, 3) := by decide +kernel
theorem dX11_seenLine_49 : decode cX11_seenLine 49 = .ok (.bipush 6, 2) := by decide +kernel
theorem dX11_seenLine_51 : decode cX11_seenLine 51 = .ok (.iaload, 1) := by decide +kernel
theorem dX11_seenLine_52 : decode cX11_seenLine 52 = .ok (.if_icmp .ge 59, 3) := by decide +kernel
theorem dX11_seenLine_55 : decode cX11_seenLine 55 = .ok (.aload_n 0, 1) := by decide +kernel
theorem dX11_seenLine_56 : decode cX11_seenLine 56 = .ok (.getfield 91, 3) := by decide +kernel
theorem dX11_seenLine_59 : decode cX11_seenLine 59 = .ok (.ifCond .ne 46, 3) := by decide +kernel
theorem dX11_seenLine_62 : decode cX11_seenLine 62 = .ok (.aload_n 0, 1) := by decide +kernel
theorem dX11_seenLine_63 : decode cX11_seenLine 63 = .ok (.getfield 23, 3) := by decide +kernel
theorem dX11_seenLine_66 : decode cX11_seenLine 66 = .ok (.bipush 60, 2) := by decide +kernel
theorem dX11_seenLine_68 : decode cX11_seenLine 68 = .ok (.iconst 3, 1) := by decide +kernel
theorem dX11_seenLine_69 : decode cX11_seenLine 69 = .ok (.iload 4, 2) := by decide +kernel
theorem dX11_seenLine_71 : decode cX11_seenLine 71 = .ok (.imul, 1) := by decide +kernel
theorem dX11_seenLine_72 : decode cX11_seenLine 72 = .ok (.iadd, 1) := by decide +kernel
theorem dX11_seenLine_73 : decode cX11_seenLine 73 = .ok (.iaload, 1) := by decide +kernel
theorem dX11_seenLine_74 : decode cX11_seenLine 74 = .ok (.iload_n 2, 1) := by decide +kernel
theorem dX11_seenLine_75 : decode cX11_seenLine 75 = .ok (.if_icmp .ne 30, 3) := by decide +kernel
theorem dX11_seenLine_78 : decode cX11_seenLine 78 = .ok (.aload_n 0, 1) := by decide +kernel
theorem dX11_seenLine_79 : decode cX11_seenLine 79 = .ok (.getfield 23, 3) := by decide +kernel
theorem dX11_seenLine_82 : decode cX11_seenLine 82 = .ok (.bipush 60, 2) := by decide +kernel
theorem dX11_seenLine_84 : decode cX11_seenLine 84 = .ok (.iconst 3, 1) := by decide +kernel
theorem dX11_seenLine_85 : decode cX11_seenLine 85 = .ok (.iload 4, 2) := by decide +kernel
theorem dX11_seenLine_87 : decode cX11_seenLine 87 = .ok (.imul, 1) := by decide +kernel
theorem dX11_seenLine_88 : decode cX11_seenLine 88 = .ok (.iadd, 1) := by decide +kernel
theorem dX11_seenLine_89 : decode cX11_seenLine 89 = .ok (.iconst 1, 1) := by decide +kernel
theorem dX11_seenLine_90 : decode cX11_seenLine 90 = .ok (.iadd, 1) := by decide +kernel
theorem dX11_seenLine_91 : decode cX11_seenLine 91 = .ok (.iaload, 1) := by decide +kernel
theorem dX11_seenLine_92 : decode cX11_seenLine 92 = .ok (.iload_n 3, 1) := by decide +kernel
theorem dX11_seenLine_93 : decode cX11_seenLine 93 = .ok (.if_icmp .ne 12, 3) := by decide +kernel
theorem dX11_seenLine_96 : decode cX11_seenLine 96 = .ok (.aload_n 0, 1) := by decide +kernel
theorem dX11_seenLine_97 : decode cX11_seenLine 97 = .ok (.iconst 3, 1) := by decide +kernel
theorem dX11_seenLine_98 : decode cX11_seenLine 98 = .ok (.aload_n 0, 1) := by decide +kernel
theorem dX11_seenLine_99 : decode cX11_seenLine 99 = .ok (.getfield 72, 3) := by decide +kernel
theorem dX11_seenLine_102 : decode cX11_seenLine 102 = .ok (.invokevirtual 118, 3) := by decide +kernel
theorem dX11_seenLine_105 : decode cX11_seenLine 105 = .ok (.iinc 4 1, 3) := by decide +kernel
theorem dX11_seenLine_108 : decode cX11_seenLine 108 = .ok (.goto (-65), 3) := by decide +kernel
theorem dX11_seenLine_111 : decode cX11_seenLine 111 = .ok (.aload_n 0, 1) := by decide +kernel
theorem dX11_seenLine_112 : decode cX11_seenLine 112 = .ok (.getfield 91, 3) := by decide +kernel
theorem dX11_seenLine_115 : decode cX11_seenLine 115 = .ok (.ifCond .eq 4, 3) := by decide +kernel
theorem dX11_seenLine_118 : decode cX11_seenLine 118 = .ok (.return_, 1) := by decide +kernel
theorem dX11_seenLine_119 : decode cX11_seenLine 119 = .ok (.aload_n 0, 1) := by decide +kernel
theorem dX11_seenLine_120 : decode cX11_seenLine 120 = .ok (.invokevirtual 112, 3) := by decide +kernel
theorem dX11_seenLine_123 : decode cX11_seenLine 123 = .ok (.aload_n 0, 1) := by decide +kernel
theorem dX11_seenLine_124 : decode cX11_seenLine 124 = .ok (.getfield 23, 3) := by decide +kernel
theorem dX11_seenLine_127 : decode cX11_seenLine 127 = .ok (.iload_n 1, 1) := by decide +kernel
theorem dX11_seenLine_128 : decode cX11_seenLine 128 = .ok (.iload_n 2, 1) := by decide +kernel
theorem dX11_seenLine_129 : decode cX11_seenLine 129 = .ok (.iastore, 1) := by decide +kernel
theorem dX11_seenLine_130 : decode cX11_seenLine 130 = .ok (.aload_n 0, 1) := by decide +kernel
theorem dX11_seenLine_131 : decode cX11_seenLine 131 = .ok (.getfield 23, 3) := by decide +kernel
theorem dX11_seenLine_134 : decode cX11_seenLine 134 = .ok (.iload_n 1, 1) := by decide +kernel
theorem dX11_seenLine_135 : decode cX11_seenLine 135 = .ok (.iconst 1, 1) := by decide +kernel
theorem dX11_seenLine_136 : decode cX11_seenLine 136 = .ok (.iadd, 1) := by decide +kernel
theorem dX11_seenLine_137 : decode cX11_seenLine 137 = .ok (.iload_n 3, 1) := by decide +kernel
theorem dX11_seenLine_138 : decode cX11_seenLine 138 = .ok (.iastore, 1) := by decide +kernel
theorem dX11_seenLine_139 : decode cX11_seenLine 139 = .ok (.aload_n 0, 1) := by decide +kernel
theorem dX11_seenLine_140 : decode cX11_seenLine 140 = .ok (.getfield 23, 3) := by decide +kernel
theorem dX11_seenLine_143 : decode cX11_seenLine 143 = .ok (.iload_n 1, 1) := by decide +kernel
theorem dX11_seenLine_144 : decode cX11_seenLine 144 = .ok (.iconst 2, 1) := by decide +kernel
theorem dX11_seenLine_145 : decode cX11_seenLine 145 = .ok (.iadd, 1) := by decide +kernel
theorem dX11_seenLine_146 : decode cX11_seenLine 146 = .ok (.aload_n 0, 1) := by decide +kernel
theorem dX11_seenLine_147 : decode cX11_seenLine 147 = .ok (.ldc 229, 2) := by decide +kernel
theorem dX11_seenLine_149 : decode cX11_seenLine 149 = .ok (.iconst 0, 1) := by decide +kernel
theorem dX11_seenLine_150 : decode cX11_seenLine 150 = .ok (.bipush 9, 2) := by decide +kernel
theorem dX11_seenLine_152 : decode cX11_seenLine 152 = .ok (.invokevirtual 196, 3) := by decide +kernel
theorem dX11_seenLine_155 : decode cX11_seenLine 155 = .ok (.iastore, 1) := by decide +kernel
theorem dX11_seenLine_156 : decode cX11_seenLine 156 = .ok (.aload_n 0, 1) := by decide +kernel
theorem dX11_seenLine_157 : decode cX11_seenLine 157 = .ok (.getfield 91, 3) := by decide +kernel
theorem dX11_seenLine_160 : decode cX11_seenLine 160 = .ok (.ifCond .ne 14, 3) := by decide +kernel
theorem dX11_seenLine_163 : decode cX11_seenLine 163 = .ok (.aload_n 0, 1) := by decide +kernel
theorem dX11_seenLine_164 : decode cX11_seenLine 164 = .ok (.getfield 23, 3) := by decide +kernel
theorem dX11_seenLine_167 : decode cX11_seenLine 167 = .ok (.bipush 6, 2) := by decide +kernel
theorem dX11_seenLine_169 : decode cX11_seenLine 169 = .ok (.dup2, 1) := by decide +kernel
theorem dX11_seenLine_170 : decode cX11_seenLine 170 = .ok (.iaload, 1) := by decide +kernel
theorem dX11_seenLine_171 : decode cX11_seenLine 171 = .ok (.iconst 1, 1) := by decide +kernel
theorem dX11_seenLine_172 : decode cX11_seenLine 172 = .ok (.iadd, 1) := by decide +kernel
theorem dX11_seenLine_173 : decode cX11_seenLine 173 = .ok (.iastore, 1) := by decide +kernel
theorem dX11_seenLine_174 : decode cX11_seenLine 174 = .ok (.return_, 1) := by decide +kernel
theorem dX11_fault_0 : decode cX11_fault 0 = .ok (.aload_n 0, 1) := by decide +kernel
theorem dX11_fault_1 : decode cX11_fault 1 = .ok (.iconst 0, 1) := by decide +kernel
theorem dX11_fault_2 : decode cX11_fault 2 = .ok (.putfield 53, 3) := by decide +kernel
theorem dX11_fault_5 : decode cX11_fault 5 = .ok (.aload_n 0, 1) := by decide +kernel
theorem dX11_fault_6 : decode cX11_fault 6 = .ok (.getfield 95, 3) := by decide +kernel
theorem dX11_fault_9 : decode cX11_fault 9 = .ok (.ireturn, 1) := by decide +kernel
theorem dX11_where_0 : decode cX11_where 0 = .ok (.aload_n 0, 1) := by decide +kernel
theorem dX11_where_1 : decode cX11_where 1 = .ok (.iconst 0, 1) := by decide +kernel
theorem dX11_where_2 : decode cX11_where 2 = .ok (.putfield 53, 3) := by decide +kernel
theorem dX11_where_5 : decode cX11_where 5 = .ok (.aload_n 0, 1) := by decide +kernel
theorem dX11_where_6 : decode cX11_where 6 = .ok (.getfield 56, 3) := by decide +kernel
theorem dX11_where_9 : decode cX11_where 9 = .ok (.iconst 4, 1) := by decide +kernel
theorem dX11_where_10 : decode cX11_where 10 = .ok (.if_icmp .ne 10, 3) := by decide +kernel
theorem dX11_where_13 : decode cX11_where 13 = .ok (.aload_n 0, 1) := by decide +kernel
theorem dX11_where_14 : decode cX11_where 14 = .ok (.getfield 13, 3) := by decide +kernel
theorem dX11_where_17 : decode cX11_where 17 = .ok (.goto 4, 3) := by decide +kernel
theorem dX11_where_20 : decode cX11_where 20 = .ok (.iconst (-1), 1) := by decide +kernel
theorem dX11_where_21 : decode cX11_where 21 = .ok (.ireturn, 1) := by decide +kernel
theorem dX11_isHouse_0 : decode cX11_isHouse 0 = .ok (.aload_n 0, 1) := by decide +kernel
theorem dX11_isHouse_1 : decode cX11_isHouse 1 = .ok (.getfield 166, 3) := by decide +kernel
theorem dX11_isHouse_4 : decode cX11_isHouse 4 = .ok (.ifCond .eq 23, 3) := by decide +kernel
theorem dX11_isHouse_7 : decode cX11_isHouse 7 = .ok (.iload_n 1, 1) := by decide +kernel
theorem dX11_isHouse_8 : decode cX11_isHouse 8 = .ok (.iconst 0, 1) := by decide +kernel
theorem dX11_isHouse_9 : decode cX11_isHouse 9 = .ok (.aload_n 0, 1) := by decide +kernel
theorem dX11_isHouse_10 : decode cX11_isHouse 10 = .ok (.getfield 20, 3) := by decide +kernel
theorem dX11_isHouse_13 : decode cX11_isHouse 13 = .ok (.iconst 3, 1) := by decide +kernel
theorem dX11_isHouse_14 : decode cX11_isHouse 14 = .ok (.iaload, 1) := by decide +kernel
theorem dX11_isHouse_15 : decode cX11_isHouse 15 = .ok (.iconst 1, 1) := by decide +kernel
theorem dX11_isHouse_16 : decode cX11_isHouse 16 = .ok (.isub, 1) := by decide +kernel
theorem dX11_isHouse_17 : decode cX11_isHouse 17 = .ok (.invokestatic 138, 3) := by decide +kernel
theorem dX11_isHouse_20 : decode cX11_isHouse 20 = .ok (.ifCond .eq 7, 3) := by decide +kernel
theorem dX11_isHouse_23 : decode cX11_isHouse 23 = .ok (.iconst 1, 1) := by decide +kernel
theorem dX11_isHouse_24 : decode cX11_isHouse 24 = .ok (.goto 4, 3) := by decide +kernel
theorem dX11_isHouse_27 : decode cX11_isHouse 27 = .ok (.iconst 0, 1) := by decide +kernel
theorem dX11_isHouse_28 : decode cX11_isHouse 28 = .ok (.ireturn, 1) := by decide +kernel
theorem dX11_isBird_0 : decode cX11_isBird 0 = .ok (.aload_n 0, 1) := by decide +kernel
theorem dX11_isBird_1 : decode cX11_isBird 1 = .ok (.getfield 166, 3) := by decide +kernel
theorem dX11_isBird_4 : decode cX11_isBird 4 = .ok (.ifCond .eq 23, 3) := by decide +kernel
theorem dX11_isBird_7 : decode cX11_isBird 7 = .ok (.iload_n 1, 1) := by decide +kernel
theorem dX11_isBird_8 : decode cX11_isBird 8 = .ok (.iconst 0, 1) := by decide +kernel
theorem dX11_isBird_9 : decode cX11_isBird 9 = .ok (.aload_n 0, 1) := by decide +kernel
theorem dX11_isBird_10 : decode cX11_isBird 10 = .ok (.getfield 20, 3) := by decide +kernel
theorem dX11_isBird_13 : decode cX11_isBird 13 = .ok (.iconst 4, 1) := by decide +kernel
theorem dX11_isBird_14 : decode cX11_isBird 14 = .ok (.iaload, 1) := by decide +kernel
theorem dX11_isBird_15 : decode cX11_isBird 15 = .ok (.iconst 1, 1) := by decide +kernel
theorem dX11_isBird_16 : decode cX11_isBird 16 = .ok (.isub, 1) := by decide +kernel
theorem dX11_isBird_17 : decode cX11_isBird 17 = .ok (.invokestatic 138, 3) := by decide +kernel
theorem dX11_isBird_20 : decode cX11_isBird 20 = .ok (.ifCond .eq 7, 3) := by decide +kernel
theorem dX11_isBird_23 : decode cX11_isBird 23 = .ok (.iconst 1, 1) := by decide +kernel
theorem dX11_isBird_24 : decode cX11_isBird 24 = .ok (.goto 4, 3) := by decide +kernel
theorem dX11_isBird_27 : decode cX11_isBird 27 = .ok (.iconst 0, 1) := by decide +kernel
theorem dX11_isBird_28 : decode cX11_isBird 28 = .ok (.ireturn, 1) := by decide +kernel
theorem dX11_kindOf_0 : decode cX11_kindOf 0 = .ok (.aload_n 0, 1) := by decide +kernel
theorem dX11_kindOf_1 : decode cX11_kindOf 1 = .ok (.getfield 20, 3) := by decide +kernel
theorem dX11_kindOf_4 : decode cX11_kindOf 4 = .ok (.bipush 19, 2) := by decide +kernel
theorem dX11_kindOf_6 : decode cX11_kindOf 6 = .ok (.iconst 5, 1) := by decide +kernel
theorem dX11_kindOf_7 : decode cX11_kindOf 7 = .ok (.iload_n 1, 1) := by decide +kernel
theorem dX11_kindOf_8 : decode cX11_kindOf 8 = .ok (.imul, 1) := by decide +kernel
theorem dX11_kindOf_9 : decode cX11_kindOf 9 = .ok (.iadd, 1) := by decide +kernel
theorem dX11_kindOf_10 : decode cX11_kindOf 10 = .ok (.iaload, 1) := by decide +kernel
theorem dX11_kindOf_11 : decode cX11_kindOf 11 = .ok (.ireturn, 1) := by decide +kernel
theorem dX11_fromOf_0 : decode cX11_fromOf 0 = .ok (.aload_n 0, 1) := by decide +kernel
theorem dX11_fromOf_1 : decode cX11_fromOf 1 = .ok (.getfield 20, 3) := by decide +kernel
theorem dX11_fromOf_4 : decode cX11_fromOf 4 = .ok (.bipush 19, 2) := by decide +kernel
theorem dX11_fromOf_6 : decode cX11_fromOf 6 = .ok (.iconst 5, 1) := by decide +kernel
theorem dX11_fromOf_7 : decode cX11_fromOf 7 = .ok (.iload_n 1, 1) := by decide +kernel
theorem dX11_fromOf_8 : decode cX11_fromOf 8 = .ok (.imul, 1) := by decide +kernel
theorem dX11_fromOf_9 : decode cX11_fromOf 9 = .ok (.iadd, 1) := by decide +kernel
theorem dX11_fromOf_10 : decode cX11_fromOf 10 = .ok (.iconst 1, 1) := by decide +kernel
theorem dX11_fromOf_11 : decode cX11_fromOf 11 = .ok (.iadd, 1) := by decide +kernel
theorem dX11_fromOf_12 : decode cX11_fromOf 12 = .ok (.iaload, 1) := by decide +kernel
theorem dX11_fromOf_13 : decode cX11_fromOf 13 = .ok (.ireturn, 1) := by decide +kernel
theorem dX11_forOf_0 : decode cX11_forOf 0 = .ok (.aload_n 0, 1) := by decide +kernel
theorem dX11_forOf_1 : decode cX11_forOf 1 = .ok (.getfield 20, 3) := by decide +kernel
theorem dX11_forOf_4 : decode cX11_forOf 4 = .ok (.bipush 19, 2) := by decide +kernel
theorem dX11_forOf_6 : decode cX11_forOf 6 = .ok (.iconst 5, 1) := by decide +kernel
theorem dX11_forOf_7 : decode cX11_forOf 7 = .ok (.iload_n 1, 1) := by decide +kernel
theorem dX11_forOf_8 : decode cX11_forOf 8 = .ok (.imul, 1) := by decide +kernel
theorem dX11_forOf_9 : decode cX11_forOf 9 = .ok (.iadd, 1) := by decide +kernel
theorem dX11_forOf_10 : decode cX11_forOf 10 = .ok (.iconst 2, 1) := by decide +kernel
theorem dX11_forOf_11 : decode cX11_forOf 11 = .ok (.iadd, 1) := by decide +kernel
theorem dX11_forOf_12 : decode cX11_forOf 12 = .ok (.iaload, 1) := by decide +kernel
theorem dX11_forOf_13 : decode cX11_forOf 13 = .ok (.ireturn, 1) := by decide +kernel
theorem dX11_placeOf_0 : decode cX11_placeOf 0 = .ok (.aload_n 0, 1) := by decide +kernel
theorem dX11_placeOf_1 : decode cX11_placeOf 1 = .ok (.getfield 20, 3) := by decide +kernel
theorem dX11_placeOf_4 : decode cX11_placeOf 4 = .ok (.bipush 7, 2) := by decide +kernel
theorem dX11_placeOf_6 : decode cX11_placeOf 6 = .ok (.iconst 2, 1) := by decide +kernel
theorem dX11_placeOf_7 : decode cX11_placeOf 7 = .ok (.iload_n 1, 1) := by decide +kernel
theorem dX11_placeOf_8 : decode cX11_placeOf 8 = .ok (.imul, 1) := by decide +kernel
theorem dX11_placeOf_9 : decode cX11_placeOf 9 = .ok (.iadd, 1) := by decide +kernel
theorem dX11_placeOf_10 : decode cX11_placeOf 10 = .ok (.iaload, 1) := by decide +kernel
theorem dX11_placeOf_11 : decode cX11_placeOf 11 = .ok (.ireturn, 1) := by decide +kernel
theorem dX11_daysApart_0 : decode cX11_daysApart 0 = .ok (.aload_n 0, 1) := by decide +kernel
theorem dX11_daysApart_1 : decode cX11_daysApart 1 = .ok (.iload_n 1, 1) := by decide +kernel
theorem dX11_daysApart_2 : decode cX11_daysApart 2 = .ok (.invokevirtual 231, 3) := by decide +kernel
theorem dX11_daysApart_5 : decode cX11_daysApart 5 = .ok (.aload_n 0, 1) := by decide +kernel
theorem dX11_daysApart_6 : decode cX11_daysApart 6 = .ok (.iload_n 2, 1) := by decide +kernel
theorem dX11_daysApart_7 : decode cX11_daysApart 7 = .ok (.invokevirtual 231, 3) := by decide +kernel
theorem dX11_daysApart_10 : decode cX11_daysApart 10 = .ok (.invokestatic 234, 3) := by decide +kernel
theorem dX11_daysApart_13 : decode cX11_daysApart 13 = .ok (.aload_n 0, 1) := by decide +kernel
theorem dX11_daysApart_14 : decode cX11_daysApart 14 = .ok (.getfield 20, 3) := by decide +kernel
theorem dX11_daysApart_17 : decode cX11_daysApart 17 = .ok (.iconst 0, 1) := by decide +kernel
theorem dX11_daysApart_18 : decode cX11_daysApart 18 = .ok (.iaload, 1) := by decide +kernel
theorem dX11_daysApart_19 : decode cX11_daysApart 19 = .ok (.iadd, 1) := by decide +kernel
theorem dX11_daysApart_20 : decode cX11_daysApart 20 = .ok (.iconst 1, 1) := by decide +kernel
theorem dX11_daysApart_21 : decode cX11_daysApart 21 = .ok (.isub, 1) := by decide +kernel
theorem dX11_daysApart_22 : decode cX11_daysApart 22 = .ok (.aload_n 0, 1) := by decide +kernel
theorem dX11_daysApart_23 : decode cX11_daysApart 23 = .ok (.getfield 20, 3) := by decide +kernel
theorem dX11_daysApart_26 : decode cX11_daysApart 26 = .ok (.iconst 0, 1) := by decide +kernel
theorem dX11_daysApart_27 : decode cX11_daysApart 27 = .ok (.iaload, 1) := by decide +kernel
theorem dX11_daysApart_28 : decode cX11_daysApart 28 = .ok (.idiv, 1) := by decide +kernel
theorem dX11_daysApart_29 : decode cX11_daysApart 29 = .ok (.ireturn, 1) := by decide +kernel
theorem dX11_sillOf_0 : decode cX11_sillOf 0 = .ok (.aload_n 0, 1) := by decide +kernel
theorem dX11_sillOf_1 : decode cX11_sillOf 1 = .ok (.iload_n 1, 1) := by decide +kernel
theorem dX11_sillOf_2 : decode cX11_sillOf 2 = .ok (.invokevirtual 237, 3) := by decide +kernel
theorem dX11_sillOf_5 : decode cX11_sillOf 5 = .ok (.istore_n 2, 1) := by decide +kernel
theorem dX11_sillOf_6 : decode cX11_sillOf 6 = .ok (.aload_n 0, 1) := by decide +kernel
theorem dX11_sillOf_7 : decode cX11_sillOf 7 = .ok (.iload_n 1, 1) := by decide +kernel
theorem dX11_sillOf_8 : decode cX11_sillOf 8 = .ok (.invokevirtual 240, 3) := by decide +kernel
theorem dX11_sillOf_11 : decode cX11_sillOf 11 = .ok (.iconst 3, 1) := by decide +kernel
theorem dX11_sillOf_12 : decode cX11_sillOf 12 = .ok (.if_icmp .eq 5, 3) := by decide +kernel
theorem dX11_sillOf_15 : decode cX11_sillOf 15 = .ok (.iload_n 2, 1) := by decide +kernel
theorem dX11_sillOf_16 : decode cX11_sillOf 16 = .ok (.ireturn, 1) := by decide +kernel
theorem dX11_sillOf_17 : decode cX11_sillOf 17 = .ok (.bipush (-2), 2) := by decide +kernel
theorem dX11_sillOf_19 : decode cX11_sillOf 19 = .ok (.istore_n 3, 1) := by decide +kernel
theorem dX11_sillOf_20 : decode cX11_sillOf 20 = .ok (.iconst 0, 1) := by decide +kernel
theorem dX11_sillOf_21 : decode cX11_sillOf 21 = .ok (.istore 4, 2) := by decide +kernel
theorem dX11_sillOf_23 : decode cX11_sillOf 23 = .ok (.iload 4, 2) := by decide +kernel
theorem dX11_sillOf_25 : decode cX11_sillOf 25 = .ok (.aload_n 0, 1) := by decide +kernel
theorem dX11_sillOf_26 : decode cX11_sillOf 26 = .ok (.getfield 20, 3) := by decide +kernel
theorem dX11_sillOf_29 : decode cX11_sillOf 29 = .ok (.iconst 3, 1) := by decide +kernel
theorem dX11_sillOf_30 : decode cX11_sillOf 30 = .ok (.iaload, 1) := by decide +kernel
theorem dX11_sillOf_31 : decode cX11_sillOf 31 = .ok (.if_icmp .ge 52, 3) := by decide +kernel
theorem dX11_sillOf_34 : decode cX11_sillOf 34 = .ok (.iload 4, 2) := by decide +kernel
theorem dX11_sillOf_36 : decode cX11_sillOf 36 = .ok (.iload_n 2, 1) := by decide +kernel
theorem dX11_sillOf_37 : decode cX11_sillOf 37 = .ok (.if_icmp .eq 40, 3) := by decide +kernel
theorem dX11_sillOf_40 : decode cX11_sillOf 40 = .ok (.iload_n 3, 1) := by decide +kernel
theorem dX11_sillOf_41 : decode cX11_sillOf 41 = .ok (.ifCond .lt 33, 3) := by decide +kernel
theorem dX11_sillOf_44 : decode cX11_sillOf 44 = .ok (.aload_n 0, 1) := by decide +kernel
theorem dX11_sillOf_45 : decode cX11_sillOf 45 = .ok (.iload 4, 2) := by decide +kernel
theorem dX11_sillOf_47 : decode cX11_sillOf 47 = .ok (.invokevirtual 231, 3) := by decide +kernel
theorem dX11_sillOf_50 : decode cX11_sillOf 50 = .ok (.aload_n 0, 1) := by decide +kernel
theorem dX11_sillOf_51 : decode cX11_sillOf 51 = .ok (.iload_n 2, 1) := by decide +kernel
theorem dX11_sillOf_52 : decode cX11_sillOf 52 = .ok (.invokevirtual 231, 3) := by decide +kernel
theorem dX11_sillOf_55 : decode cX11_sillOf 55 = .ok (.invokestatic 234, 3) := by decide +kernel
theorem dX11_sillOf_58 : decode cX11_sillOf 58 = .ok (.aload_n 0, 1) := by decide +kernel
theorem dX11_sillOf_59 : decode cX11_sillOf 59 = .ok (.iload_n 3, 1) := by decide +kernel
theorem dX11_sillOf_60 : decode cX11_sillOf 60 = .ok (.invokevirtual 231, 3) := by decide +kernel
theorem dX11_sillOf_63 : decode cX11_sillOf 63 = .ok (.aload_n 0, 1) := by decide +kernel
theorem dX11_sillOf_64 : decode cX11_sillOf 64 = .ok (.iload_n 2, 1) := by decide +kernel
theorem dX11_sillOf_65 : decode cX11_sillOf 65 = .ok (.invokevirtual 231, 3) := by decide +kernel
theorem dX11_sillOf_68 : decode cX11_sillOf 68 = .ok (.invokestatic 234, 3) := by decide +kernel
theorem dX11_sillOf_71 : decode cX11_sillOf 71 = .ok (.if_icmp .ge 6, 3) := by decide +kernel
theorem dX11_sillOf_74 : decode cX11_sillOf 74 = .ok (.iload 4, 2) := by decide +kernel
theorem dX11_sillOf_76 : decode cX11_sillOf 76 = .ok (.istore_n 3, 1) := by decide +kernel
theorem dX11_sillOf_77 : decode cX11_sillOf 77 = .ok (.iinc 4 1, 3) := by decide +kernel
theorem dX11_sillOf_80 : decode cX11_sillOf 80 = .ok (.goto (-57), 3) := by decide +kernel
theorem dX11_sillOf_83 : decode cX11_sillOf 83 = .ok (.iload_n 3, 1) := by decide +kernel
theorem dX11_sillOf_84 : decode cX11_sillOf 84 = .ok (.ireturn, 1) := by decide +kernel
theorem dX11_flightOf_0 : decode cX11_flightOf 0 = .ok (.aload_n 0, 1) := by decide +kernel
theorem dX11_flightOf_1 : decode cX11_flightOf 1 = .ok (.aload_n 0, 1) := by decide +kernel
theorem dX11_flightOf_2 : decode cX11_flightOf 2 = .ok (.iload_n 1, 1) := by decide +kernel
theorem dX11_flightOf_3 : decode cX11_flightOf 3 = .ok (.invokevirtual 243, 3) := by decide +kernel
theorem dX11_flightOf_6 : decode cX11_flightOf 6 = .ok (.aload_n 0, 1) := by decide +kernel
theorem dX11_flightOf_7 : decode cX11_flightOf 7 = .ok (.iload_n 1, 1) := by decide +kernel
theorem dX11_flightOf_8 : decode cX11_flightOf 8 = .ok (.invokevirtual 246, 3) := by decide +kernel
theorem dX11_flightOf_11 : decode cX11_flightOf 11 = .ok (.invokevirtual 249, 3) := by decide +kernel
theorem dX11_flightOf_14 : decode cX11_flightOf 14 = .ok (.ireturn, 1) := by decide +kernel
theorem dX11_needOf_0 : decode cX11_needOf 0 = .ok (.aload_n 0, 1) := by decide +kernel
theorem dX11_needOf_1 : decode cX11_needOf 1 = .ok (.getfield 20, 3) := by decide +kernel
theorem dX11_needOf_4 : decode cX11_needOf 4 = .ok (.bipush 19, 2) := by decide +kernel
theorem dX11_needOf_6 : decode cX11_needOf 6 = .ok (.iconst 5, 1) := by decide +kernel
theorem dX11_needOf_7 : decode cX11_needOf 7 = .ok (.iload_n 1, 1) := by decide +kernel
theorem dX11_needOf_8 : decode cX11_needOf 8 = .ok (.imul, 1) := by decide +kernel
theorem dX11_needOf_9 : decode cX11_needOf 9 = .ok (.iadd, 1) := by decide +kernel
theorem dX11_needOf_10 : decode cX11_needOf 10 = .ok (.iconst 4, 1) := by decide +kernel
theorem dX11_needOf_11 : decode cX11_needOf 11 = .ok (.iadd, 1) := by decide +kernel
theorem dX11_needOf_12 : decode cX11_needOf 12 = .ok (.iaload, 1) := by decide +kernel
theorem dX11_needOf_13 : decode cX11_needOf 13 = .ok (.istore_n 2, 1) := by decide +kernel
theorem dX11_needOf_14 : decode cX11_needOf 14 = .ok (.aload_n 0, 1) := by decide +kernel
theorem dX11_needOf_15 : decode cX11_needOf 15 = .ok (.iload_n 1, 1) := by decide +kernel
theorem dX11_needOf_16 : decode cX11_needOf 16 = .ok (.invokevirtual 240, 3) := by decide +kernel
theorem dX11_needOf_19 : decode cX11_needOf 19 = .ok (.iconst 1, 1) := by decide +kernel
theorem dX11_needOf_20 : decode cX11_needOf 20 = .ok (.if_icmp .ne 11, 3) := by decide +kernel
theorem dX11_needOf_23 : decode cX11_needOf 23 = .ok (.iload_n 2, 1) := by decide +kernel
theorem dX11_needOf_24 : decode cX11_needOf 24 = .ok (.iconst 1, 1) := by decide +kernel
theorem dX11_needOf_25 : decode cX11_needOf 25 = .ok (.iadd, 1) := by decide +kernel
theorem dX11_needOf_26 : decode cX11_needOf 26 = .ok (.iconst 2, 1) := by decide +kernel
theorem dX11_needOf_27 : decode cX11_needOf 27 = .ok (.idiv, 1) := by decide +kernel
theorem dX11_needOf_28 : decode cX11_needOf 28 = .ok (.goto 19, 3) := by decide +kernel
theorem dX11_needOf_31 : decode cX11_needOf 31 = .ok (.aload_n 0, 1) := by decide +kernel
theorem dX11_needOf_32 : decode cX11_needOf 32 = .ok (.iload_n 1, 1) := by decide +kernel
theorem dX11_needOf_33 : decode cX11_needOf 33 = .ok (.invokevirtual 240, 3) := by decide +kernel
theorem dX11_needOf_36 : decode cX11_needOf 36 = .ok (.iconst 2, 1) := by decide +kernel
theorem dX11_needOf_37 : decode cX11_needOf 37 = .ok (.if_icmp .ne 9, 3) := by decide +kernel
theorem dX11_needOf_40 : decode cX11_needOf 40 = .ok (.iconst 2, 1) := by decide +kernel
theorem dX11_needOf_41 : decode cX11_needOf 41 = .ok (.iload_n 2, 1) := by decide +kernel
theorem dX11_needOf_42 : decode cX11_needOf 42 = .ok (.imul, 1) := by decide +kernel
theorem dX11_needOf_43 : decode cX11_needOf 43 = .ok (.goto 4, 3) := by decide +kernel
theorem dX11_needOf_46 : decode cX11_needOf 46 = .ok (.iload_n 2, 1) := by decide +kernel
theorem dX11_needOf_47 : decode cX11_needOf 47 = .ok (.ireturn, 1) := by decide +kernel
theorem dX11_isGone_0 : decode cX11_isGone 0 = .ok (.aload_n 0, 1) := by decide +kernel
theorem dX11_isGone_1 : decode cX11_isGone 1 = .ok (.getfield 26, 3) := by decide +kernel
theorem dX11_isGone_4 : decode cX11_isGone 4 = .ok (.bipush 19, 2) := by decide +kernel
theorem dX11_isGone_6 : decode cX11_isGone 6 = .ok (.iaload, 1) := by decide +kernel
theorem dX11_isGone_7 : decode cX11_isGone 7 = .ok (.iload_n 1, 1) := by decide +kernel
theorem dX11_isGone_8 : decode cX11_isGone 8 = .ok (.invokestatic 252, 3) := by decide +kernel
theorem dX11_isGone_11 : decode cX11_isGone 11 = .ok (.ireturn, 1) := by decide +kernel
theorem dX11_leftOf_0 : decode cX11_leftOf 0 = .ok (.aload_n 0, 1) := by decide +kernel
theorem dX11_leftOf_1 : decode cX11_leftOf 1 = .ok (.iload_n 1, 1) := by decide +kernel
theorem dX11_leftOf_2 : decode cX11_leftOf 2 = .ok (.invokevirtual 256, 3) := by decide +kernel
theorem dX11_leftOf_5 : decode cX11_leftOf 5 = .ok (.aload_n 0, 1) := by decide +kernel
theorem dX11_leftOf_6 : decode cX11_leftOf 6 = .ok (.getfield 26, 3) := by decide +kernel
theorem dX11_leftOf_9 : decode cX11_leftOf 9 = .ok (.iload_n 1, 1) := by decide +kernel
theorem dX11_leftOf_10 : decode cX11_leftOf 10 = .ok (.iaload, 1) := by decide +kernel
theorem dX11_leftOf_11 : decode cX11_leftOf 11 = .ok (.isub, 1) := by decide +kernel
theorem dX11_leftOf_12 : decode cX11_leftOf 12 = .ok (.ireturn, 1) := by decide +kernel
theorem dX11_whereBy_0 : decode cX11_whereBy 0 = .ok (.aload_n 0, 1) := by decide +kernel
theorem dX11_whereBy_1 : decode cX11_whereBy 1 = .ok (.getfield 20, 3) := by decide +kernel
theorem dX11_whereBy_4 : decode cX11_whereBy 4 = .ok (.bipush 19, 2) := by decide +kernel
theorem dX11_whereBy_6 : decode cX11_whereBy 6 = .ok (.iconst 5, 1) := by decide +kernel
theorem dX11_whereBy_7 : decode cX11_whereBy 7 = .ok (.iload_n 1, 1) := by decide +kernel
theorem dX11_whereBy_8 : decode cX11_whereBy 8 = .ok (.imul, 1) := by decide +kernel
theorem dX11_whereBy_9 : decode cX11_whereBy 9 = .ok (.iadd, 1) := by decide +kernel
theorem dX11_whereBy_10 : decode cX11_whereBy 10 = .ok (.iconst 3, 1) := by decide +kernel
theorem dX11_whereBy_11 : decode cX11_whereBy 11 = .ok (.iadd, 1) := by decide +kernel
theorem dX11_whereBy_12 : decode cX11_whereBy 12 = .ok (.iaload, 1) := by decide +kernel
theorem dX11_whereBy_13 : decode cX11_whereBy 13 = .ok (.istore_n 3, 1) := by decide +kernel
theorem dX11_whereBy_14 : decode cX11_whereBy 14 = .ok (.iload_n 2, 1) := by decide +kernel
theorem dX11_whereBy_15 : decode cX11_whereBy 15 = .ok (.iload_n 3, 1) := by decide +kernel
theorem dX11_whereBy_16 : decode cX11_whereBy 16 = .ok (.if_icmp .ge 7, 3) := by decide +kernel
theorem dX11_whereBy_19 : decode cX11_whereBy 19 = .ok (.iconst 0, 1) := by decide +kernel
theorem dX11_whereBy_20 : decode cX11_whereBy 20 = .ok (.goto 19, 3) := by decide +kernel
theorem dX11_whereBy_23 : decode cX11_whereBy 23 = .ok (.iload_n 2, 1) := by decide +kernel
theorem dX11_whereBy_24 : decode cX11_whereBy 24 = .ok (.iload_n 3, 1) := by decide +kernel
theorem dX11_whereBy_25 : decode cX11_whereBy 25 = .ok (.aload_n 0, 1) := by decide +kernel
theorem dX11_whereBy_26 : decode cX11_whereBy 26 = .ok (.iload_n 1, 1) := by decide +kernel
theorem dX11_whereBy_27 : decode cX11_whereBy 27 = .ok (.invokevirtual 259, 3) := by decide +kernel
theorem dX11_whereBy_30 : decode cX11_whereBy 30 = .ok (.iadd, 1) := by decide +kernel
theorem dX11_whereBy_31 : decode cX11_whereBy 31 = .ok (.if_icmp .ge 7, 3) := by decide +kernel
theorem dX11_whereBy_34 : decode cX11_whereBy 34 = .ok (.iconst 1, 1) := by decide +kernel
theorem dX11_whereBy_35 : decode cX11_whereBy 35 = .ok (.goto 4, 3) := by decide +kernel
theorem dX11_whereBy_38 : decode cX11_whereBy 38 = .ok (.iconst 2, 1) := by decide +kernel
theorem dX11_whereBy_39 : decode cX11_whereBy 39 = .ok (.ireturn, 1) := by decide +kernel
theorem dX11_whereOn_0 : decode cX11_whereOn 0 = .ok (.aload_n 0, 1) := by decide +kernel
theorem dX11_whereOn_1 : decode cX11_whereOn 1 = .ok (.iload_n 1, 1) := by decide +kernel
theorem dX11_whereOn_2 : decode cX11_whereOn 2 = .ok (.invokevirtual 262, 3) := by decide +kernel
theorem dX11_whereOn_5 : decode cX11_whereOn 5 = .ok (.ifCond .eq 7, 3) := by decide +kernel
theorem dX11_whereOn_8 : decode cX11_whereOn 8 = .ok (.iconst 3, 1) := by decide +kernel
theorem dX11_whereOn_9 : decode cX11_whereOn 9 = .ok (.goto 9, 3) := by decide +kernel
theorem dX11_whereOn_12 : decode cX11_whereOn 12 = .ok (.aload_n 0, 1) := by decide +kernel
theorem dX11_whereOn_13 : decode cX11_whereOn 13 = .ok (.iload_n 1, 1) := by decide +kernel
theorem dX11_whereOn_14 : decode cX11_whereOn 14 = .ok (.iload_n 2, 1) := by decide +kernel
theorem dX11_whereOn_15 : decode cX11_whereOn 15 = .ok (.invokevirtual 265, 3) := by decide +kernel
theorem dX11_whereOn_18 : decode cX11_whereOn 18 = .ok (.ireturn, 1) := by decide +kernel
theorem dX11_sitting_0 : decode cX11_sitting 0 = .ok (.iconst 0, 1) := by decide +kernel
theorem dX11_sitting_1 : decode cX11_sitting 1 = .ok (.istore_n 3, 1) := by decide +kernel
theorem dX11_sitting_2 : decode cX11_sitting 2 = .ok (.iconst 0, 1) := by decide +kernel
theorem dX11_sitting_3 : decode cX11_sitting 3 = .ok (.istore 4, 2) := by decide +kernel
theorem dX11_sitting_5 : decode cX11_sitting 5 = .ok (.iload 4, 2) := by decide +kernel
theorem dX11_sitting_7 : decode cX11_sitting 7 = .ok (.aload_n 0, 1) := by decide +kernel
theorem dX11_sitting_8 : decode cX11_sitting 8 = .ok (.getfield 20, 3) := by decide +kernel
theorem dX11_sitting_11 : decode cX11_sitting 11 = .ok (.iconst 4, 1) := by decide +kernel
theorem dX11_sitting_12 : decode cX11_sitting 12 = .ok (.iaload, 1) := by decide +kernel
theorem dX11_sitting_13 : decode cX11_sitting 13 = .ok (.if_icmp .ge 41, 3) := by decide +kernel
theorem dX11_sitting_16 : decode cX11_sitting 16 = .ok (.iload_n 3, 1) := by decide +kernel
theorem dX11_sitting_17 : decode cX11_sitting 17 = .ok (.aload_n 0, 1) := by decide +kernel
theorem dX11_sitting_18 : decode cX11_sitting 18 = .ok (.iload 4, 2) := by decide +kernel
theorem dX11_sitting_20 : decode cX11_sitting 20 = .ok (.invokevirtual 246, 3) := by decide +kernel
theorem dX11_sitting_23 : decode cX11_sitting 23 = .ok (.iload_n 1, 1) := by decide +kernel
theorem dX11_sitting_24 : decode cX11_sitting 24 = .ok (.if_icmp .ne 21, 3) := by decide +kernel
theorem dX11_sitting_27 : decode cX11_sitting 27 = .ok (.aload_n 0, 1) := by decide +kernel
theorem dX11_sitting_28 : decode cX11_sitting 28 = .ok (.iload 4, 2) := by decide +kernel
theorem dX11_sitting_30 : decode cX11_sitting 30 = .ok (.iload_n 2, 1) := by decide +kernel
theorem dX11_sitting_31 : decode cX11_sitting 31 = .ok (.invokevirtual 268, 3) := by decide +kernel
theorem dX11_sitting_34 : decode cX11_sitting 34 = .ok (.iconst 2, 1) := by decide +kernel
theorem dX11_sitting_35 : decode cX11_sitting 35 = .ok (.if_icmp .ne 10, 3) := by decide +kernel
theorem dX11_sitting_38 : decode cX11_sitting 38 = .ok (.iconst 1, 1) := by decide +kernel
theorem dX11_sitting_39 : decode cX11_sitting 39 = .ok (.iload 4, 2) := by decide +kernel
theorem dX11_sitting_41 : decode cX11_sitting 41 = .ok (.ishl, 1) := by decide +kernel
theorem dX11_sitting_42 : decode cX11_sitting 42 = .ok (.goto 4, 3) := by decide +kernel
theorem dX11_sitting_45 : decode cX11_sitting 45 = .ok (.iconst 0, 1) := by decide +kernel
theorem dX11_sitting_46 : decode cX11_sitting 46 = .ok (.ior, 1) := by decide +kernel
theorem dX11_sitting_47 : decode cX11_sitting 47 = .ok (.istore_n 3, 1) := by decide +kernel
theorem dX11_sitting_48 : decode cX11_sitting 48 = .ok (.iinc 4 1, 3) := by decide +kernel
theorem dX11_sitting_51 : decode cX11_sitting 51 = .ok (.goto (-46), 3) := by decide +kernel
theorem dX11_sitting_54 : decode cX11_sitting 54 = .ok (.iload_n 3, 1) := by decide +kernel
theorem dX11_sitting_55 : decode cX11_sitting 55 = .ok (.ireturn, 1) := by decide +kernel
theorem dX11_allBirds_0 : decode cX11_allBirds 0 = .ok (.iconst 1, 1) := by decide +kernel
theorem dX11_allBirds_1 : decode cX11_allBirds 1 = .ok (.aload_n 0, 1) := by decide +kernel
theorem dX11_allBirds_2 : decode cX11_allBirds 2 = .ok (.getfield 20, 3) := by decide +kernel
theorem dX11_allBirds_5 : decode cX11_allBirds 5 = .ok (.iconst 4, 1) := by decide +kernel
theorem dX11_allBirds_6 : decode cX11_allBirds 6 = .ok (.iaload, 1) := by decide +kernel
theorem dX11_allBirds_7 : decode cX11_allBirds 7 = .ok (.ishl, 1) := by decide +kernel
theorem dX11_allBirds_8 : decode cX11_allBirds 8 = .ok (.iconst 1, 1) := by decide +kernel
theorem dX11_allBirds_9 : decode cX11_allBirds 9 = .ok (.isub, 1) := by decide +kernel
theorem dX11_allBirds_10 : decode cX11_allBirds 10 = .ok (.ireturn, 1) := by decide +kernel
theorem dX11_notGone_0 : decode cX11_notGone 0 = .ok (.aload_n 0, 1) := by decide +kernel
theorem dX11_notGone_1 : decode cX11_notGone 1 = .ok (.invokevirtual 271, 3) := by decide +kernel
theorem dX11_notGone_4 : decode cX11_notGone 4 = .ok (.aload_n 0, 1) := by decide +kernel
theorem dX11_notGone_5 : decode cX11_notGone 5 = .ok (.getfield 26, 3) := by decide +kernel
theorem dX11_notGone_8 : decode cX11_notGone 8 = .ok (.bipush 19, 2) := by decide +kernel
theorem dX11_notGone_10 : decode cX11_notGone 10 = .ok (.iaload, 1) := by decide +kernel
theorem dX11_notGone_11 : decode cX11_notGone 11 = .ok (.iconst (-1), 1) := by decide +kernel
theorem dX11_notGone_12 : decode cX11_notGone 12 = .ok (.ixor, 1) := by decide +kernel
theorem dX11_notGone_13 : decode cX11_notGone 13 = .ok (.iand, 1) := by decide +kernel
theorem dX11_notGone_14 : decode cX11_notGone 14 = .ok (.ireturn, 1) := by decide +kernel
theorem dX11_against_0 : decode cX11_against 0 = .ok (.iconst 0, 1) := by decide +kernel
theorem dX11_against_1 : decode cX11_against 1 = .ok (.istore_n 2, 1) := by decide +kernel
theorem dX11_against_2 : decode cX11_against 2 = .ok (.iconst 0, 1) := by decide +kernel
theorem dX11_against_3 : decode cX11_against 3 = .ok (.istore_n 3, 1) := by decide +kernel
theorem dX11_against_4 : decode cX11_against 4 = .ok (.iload_n 3, 1) := by decide +kernel
theorem dX11_against_5 : decode cX11_against 5 = .ok (.aload_n 0, 1) := by decide +kernel
theorem dX11_against_6 : decode cX11_against 6 = .ok (.getfield 20, 3) := by decide +kernel
theorem dX11_against_9 : decode cX11_against 9 = .ok (.iconst 4, 1) := by decide +kernel
theorem dX11_against_10 : decode cX11_against 10 = .ok (.iaload, 1) := by decide +kernel
theorem dX11_against_11 : decode cX11_against 11 = .ok (.if_icmp .ge 36, 3) := by decide +kernel
theorem dX11_against_14 : decode cX11_against 14 = .ok (.iload_n 2, 1) := by decide +kernel
theorem dX11_against_15 : decode cX11_against 15 = .ok (.aload_n 0, 1) := by decide +kernel
theorem dX11_against_16 : decode cX11_against 16 = .ok (.iload_n 3, 1) := by decide +kernel
theorem dX11_against_17 : decode cX11_against 17 = .ok (.invokevirtual 262, 3) := by decide +kernel
theorem dX11_against_20 : decode cX11_against 20 = .ok (.ifCond .ne 18, 3) := by decide +kernel
theorem dX11_against_23 : decode cX11_against 23 = .ok (.aload_n 0, 1) := by decide +kernel
theorem dX11_against_24 : decode cX11_against 24 = .ok (.iload_n 3, 1) := by decide +kernel
theorem dX11_against_25 : decode cX11_against 25 = .ok (.invokevirtual 237, 3) := by decide +kernel
theorem dX11_against_28 : decode cX11_against 28 = .ok (.iload_n 1, 1) := by decide +kernel
theorem dX11_against_29 : decode cX11_against 29 = .ok (.if_icmp .ne 9, 3) := by decide +kernel
theorem dX11_against_32 : decode cX11_against 32 = .ok (.iconst 1, 1) := by decide +kernel
theorem dX11_against_33 : decode cX11_against 33 = .ok (.iload_n 3, 1) := by decide +kernel
theorem dX11_against_34 : decode cX11_against 34 = .ok (.ishl, 1) := by decide +kernel
theorem dX11_against_35 : decode cX11_against 35 = .ok (.goto 4, 3) := by decide +kernel
theorem dX11_against_38 : decode cX11_against 38 = .ok (.iconst 0, 1) := by decide +kernel
theorem dX11_against_39 : decode cX11_against 39 = .ok (.ior, 1) := by decide +kernel
theorem dX11_against_40 : decode cX11_against 40 = .ok (.istore_n 2, 1) := by decide +kernel
theorem dX11_against_41 : decode cX11_against 41 = .ok (.iinc 3 1, 3) := by decide +kernel
theorem dX11_against_44 : decode cX11_against 44 = .ok (.goto (-40), 3) := by decide +kernel
theorem dX11_against_47 : decode cX11_against 47 = .ok (.iload_n 2, 1) := by decide +kernel
theorem dX11_against_48 : decode cX11_against 48 = .ok (.ireturn, 1) := by decide +kernel
theorem dX11_leftsOf_0 : decode cX11_leftsOf 0 = .ok (.iconst 0, 1) := by decide +kernel
theorem dX11_leftsOf_1 : decode cX11_leftsOf 1 = .ok (.istore_n 2, 1) := by decide +kernel
theorem dX11_leftsOf_2 : decode cX11_leftsOf 2 = .ok (.iconst 0, 1) := by decide +kernel
theorem dX11_leftsOf_3 : decode cX11_leftsOf 3 = .ok (.istore_n 3, 1) := by decide +kernel
theorem dX11_leftsOf_4 : decode cX11_leftsOf 4 = .ok (.iload_n 3, 1) := by decide +kernel
theorem dX11_leftsOf_5 : decode cX11_leftsOf 5 = .ok (.aload_n 0, 1) := by decide +kernel
theorem dX11_leftsOf_6 : decode cX11_leftsOf 6 = .ok (.getfield 20, 3) := by decide +kernel
theorem dX11_leftsOf_9 : decode cX11_leftsOf 9 = .ok (.iconst 4, 1) := by decide +kernel
theorem dX11_leftsOf_10 : decode cX11_leftsOf 10 = .ok (.iaload, 1) := by decide +kernel
theorem dX11_leftsOf_11 : decode cX11_leftsOf 11 = .ok (.if_icmp .ge 29, 3) := by decide +kernel
theorem dX11_leftsOf_14 : decode cX11_leftsOf 14 = .ok (.iload_n 2, 1) := by decide +kernel
theorem dX11_leftsOf_15 : decode cX11_leftsOf 15 = .ok (.iload_n 1, 1) := by decide +kernel
theorem dX11_leftsOf_16 : decode cX11_leftsOf 16 = .ok (.iload_n 3, 1) := by decide +kernel
theorem dX11_leftsOf_17 : decode cX11_leftsOf 17 = .ok (.invokestatic 252, 3) := by decide +kernel
theorem dX11_leftsOf_20 : decode cX11_leftsOf 20 = .ok (.ifCond .eq 11, 3) := by decide +kernel
theorem dX11_leftsOf_23 : decode cX11_leftsOf 23 = .ok (.aload_n 0, 1) := by decide +kernel
theorem dX11_leftsOf_24 : decode cX11_leftsOf 24 = .ok (.iload_n 3, 1) := by decide +kernel
theorem dX11_leftsOf_25 : decode cX11_leftsOf 25 = .ok (.invokevirtual 274, 3) := by decide +kernel
theorem dX11_leftsOf_28 : decode cX11_leftsOf 28 = .ok (.goto 4, 3) := by decide +kernel
theorem dX11_leftsOf_31 : decode cX11_leftsOf 31 = .ok (.iconst 0, 1) := by decide +kernel
theorem dX11_leftsOf_32 : decode cX11_leftsOf 32 = .ok (.iadd, 1) := by decide +kernel
theorem dX11_leftsOf_33 : decode cX11_leftsOf 33 = .ok (.istore_n 2, 1) := by decide +kernel
theorem dX11_leftsOf_34 : decode cX11_leftsOf 34 = .ok (.iinc 3 1, 3) := by decide +kernel
theorem dX11_leftsOf_37 : decode cX11_leftsOf 37 = .ok (.goto (-33), 3) := by decide +kernel
theorem dX11_leftsOf_40 : decode cX11_leftsOf 40 = .ok (.iload_n 2, 1) := by decide +kernel
theorem dX11_leftsOf_41 : decode cX11_leftsOf 41 = .ok (.ireturn, 1) := by decide +kernel
theorem dX11_house_0 : decode cX11_house 0 = .ok (.aload_n 0, 1) := by decide +kernel
theorem dX11_house_1 : decode cX11_house 1 = .ok (.invokevirtual 153, 3) := by decide +kernel
theorem dX11_house_4 : decode cX11_house 4 = .ok (.aload_n 0, 1) := by decide +kernel
theorem dX11_house_5 : decode cX11_house 5 = .ok (.iload_n 1, 1) := by decide +kernel
theorem dX11_house_6 : decode cX11_house 6 = .ok (.invokevirtual 277, 3) := by decide +kernel
theorem dX11_house_9 : decode cX11_house 9 = .ok (.ifCond .eq 12, 3) := by decide +kernel
theorem dX11_house_12 : decode cX11_house 12 = .ok (.iload_n 2, 1) := by decide +kernel
theorem dX11_house_13 : decode cX11_house 13 = .ok (.iconst 0, 1) := by decide +kernel
theorem dX11_house_14 : decode cX11_house 14 = .ok (.iconst 4, 1) := by decide +kernel
theorem dX11_house_15 : decode cX11_house 15 = .ok (.invokestatic 138, 3) := by decide +kernel
theorem dX11_house_18 : decode cX11_house 18 = .ok (.ifCond .ne 9, 3) := by decide +kernel
theorem dX11_house_21 : decode cX11_house 21 = .ok (.aload_n 0, 1) := by decide +kernel
theorem dX11_house_22 : decode cX11_house 22 = .ok (.iconst 1, 1) := by decide +kernel
theorem dX11_house_23 : decode cX11_house 23 = .ok (.invokevirtual 156, 3) := by decide +kernel
theorem dX11_house_26 : decode cX11_house 26 = .ok (.ireturn, 1) := by decide +kernel
theorem dX11_house_27 : decode cX11_house 27 = .ok (.iload_n 2, 1) := by decide +kernel
theorem dX11_house_28 : decode cX11_house 28 = .ok (.tableswitch 71 0 3 #[32, 38, 48, 58], 32) := by decide +kernel
theorem dX11_house_60 : decode cX11_house 60 = .ok (.aload_n 0, 1) := by decide +kernel
theorem dX11_house_61 : decode cX11_house 61 = .ok (.iload_n 1, 1) := by decide +kernel
theorem dX11_house_62 : decode cX11_house 62 = .ok (.invokevirtual 231, 3) := by decide +kernel
theorem dX11_house_65 : decode cX11_house 65 = .ok (.ireturn, 1) := by decide +kernel
theorem dX11_house_66 : decode cX11_house 66 = .ok (.aload_n 0, 1) := by decide +kernel
theorem dX11_house_67 : decode cX11_house 67 = .ok (.getfield 26, 3) := by decide +kernel
theorem dX11_house_70 : decode cX11_house 70 = .ok (.bipush 13, 2) := by decide +kernel
theorem dX11_house_72 : decode cX11_house 72 = .ok (.iload_n 1, 1) := by decide +kernel
theorem dX11_house_73 : decode cX11_house 73 = .ok (.iadd, 1) := by decide +kernel
theorem dX11_house_74 : decode cX11_house 74 = .ok (.iaload, 1) := by decide +kernel
theorem dX11_house_75 : decode cX11_house 75 = .ok (.ireturn, 1) := by decide +kernel
theorem dX11_house_76 : decode cX11_house 76 = .ok (.aload_n 0, 1) := by decide +kernel
theorem dX11_house_77 : decode cX11_house 77 = .ok (.getfield 26, 3) := by decide +kernel
theorem dX11_house_80 : decode cX11_house 80 = .ok (.bipush 7, 2) := by decide +kernel
theorem dX11_house_82 : decode cX11_house 82 = .ok (.iload_n 1, 1) := by decide +kernel
theorem dX11_house_83 : decode cX11_house 83 = .ok (.iadd, 1) := by decide +kernel
theorem dX11_house_84 : decode cX11_house 84 = .ok (.iaload, 1) := by decide +kernel
theorem dX11_house_85 : decode cX11_house 85 = .ok (.ireturn, 1) := by decide +kernel
theorem dX11_house_86 : decode cX11_house 86 = .ok (.aload_n 0, 1) := by decide +kernel
theorem dX11_house_87 : decode cX11_house 87 = .ok (.iload_n 1, 1) := by decide +kernel
theorem dX11_house_88 : decode cX11_house 88 = .ok (.aload_n 0, 1) := by decide +kernel
theorem dX11_house_89 : decode cX11_house 89 = .ok (.getfield 26, 3) := by decide +kernel
theorem dX11_house_92 : decode cX11_house 92 = .ok (.bipush 20, 2) := by decide +kernel
theorem dX11_house_94 : decode cX11_house 94 = .ok (.iaload, 1) := by decide +kernel
theorem dX11_house_95 : decode cX11_house 95 = .ok (.invokevirtual 280, 3) := by decide +kernel
theorem dX11_house_98 : decode cX11_house 98 = .ok (.ireturn, 1) := by decide +kernel
theorem dX11_house_99 : decode cX11_house 99 = .ok (.aload_n 0, 1) := by decide +kernel
theorem dX11_house_100 : decode cX11_house 100 = .ok (.iload_n 1, 1) := by decide +kernel
theorem dX11_house_101 : decode cX11_house 101 = .ok (.invokevirtual 283, 3) := by decide +kernel
theorem dX11_house_104 : decode cX11_house 104 = .ok (.ireturn, 1) := by decide +kernel
theorem dX11_bird_0 : decode cX11_bird 0 = .ok (.aload_n 0, 1) := by decide +kernel
theorem dX11_bird_1 : decode cX11_bird 1 = .ok (.invokevirtual 153, 3) := by decide +kernel
theorem dX11_bird_4 : decode cX11_bird 4 = .ok (.aload_n 0, 1) := by decide +kernel
theorem dX11_bird_5 : decode cX11_bird 5 = .ok (.iload_n 1, 1) := by decide +kernel
theorem dX11_bird_6 : decode cX11_bird 6 = .ok (.invokevirtual 286, 3) := by decide +kernel
theorem dX11_bird_9 : decode cX11_bird 9 = .ok (.ifCond .eq 13, 3) := by decide +kernel
theorem dX11_bird_12 : decode cX11_bird 12 = .ok (.iload_n 2, 1) := by decide +kernel
theorem dX11_bird_13 : decode cX11_bird 13 = .ok (.iconst 0, 1) := by decide +kernel
theorem dX11_bird_14 : decode cX11_bird 14 = .ok (.bipush 7, 2) := by decide +kernel
theorem dX11_bird_16 : decode cX11_bird 16 = .ok (.invokestatic 138, 3) := by decide +kernel
theorem dX11_bird_19 : decode cX11_bird 19 = .ok (.ifCond .ne 9, 3) := by decide +kernel
theorem dX11_bird_22 : decode cX11_bird 22 = .ok (.aload_n 0, 1) := by decide +kernel
theorem dX11_bird_23 : decode cX11_bird 23 = .ok (.iconst 1, 1) := by decide +kernel
theorem dX11_bird_24 : decode cX11_bird 24 = .ok (.invokevirtual 156, 3) := by decide +kernel
theorem dX11_bird_27 : decode cX11_bird 27 = .ok (.ireturn, 1) := by decide +kernel
theorem dX11_bird_28 : decode cX11_bird 28 = .ok (.iload_n 2, 1) := by decide +kernel
theorem dX11_bird_29 : decode cX11_bird 29 = .ok (.tableswitch 85 0 6 #[43, 49, 55, 61, 67, 73, 79], 43) := by decide +kernel
theorem dX11_bird_72 : decode cX11_bird 72 = .ok (.aload_n 0, 1) := by decide +kernel
theorem dX11_bird_73 : decode cX11_bird 73 = .ok (.iload_n 1, 1) := by decide +kernel
theorem dX11_bird_74 : decode cX11_bird 74 = .ok (.invokevirtual 240, 3) := by decide +kernel
theorem dX11_bird_77 : decode cX11_bird 77 = .ok (.ireturn, 1) := by decide +kernel
theorem dX11_bird_78 : decode cX11_bird 78 = .ok (.aload_n 0, 1) := by decide +kernel
theorem dX11_bird_79 : decode cX11_bird 79 = .ok (.iload_n 1, 1) := by decide +kernel
theorem dX11_bird_80 : decode cX11_bird 80 = .ok (.invokevirtual 243, 3) := by decide +kernel
theorem dX11_bird_83 : decode cX11_bird 83 = .ok (.ireturn, 1) := by decide +kernel
theorem dX11_bird_84 : decode cX11_bird 84 = .ok (.aload_n 0, 1) := by decide +kernel
theorem dX11_bird_85 : decode cX11_bird 85 = .ok (.iload_n 1, 1) := by decide +kernel
theorem dX11_bird_86 : decode cX11_bird 86 = .ok (.invokevirtual 237, 3) := by decide +kernel
theorem dX11_bird_89 : decode cX11_bird 89 = .ok (.ireturn, 1) := by decide +kernel
theorem dX11_bird_90 : decode cX11_bird 90 = .ok (.aload_n 0, 1) := by decide +kernel
theorem dX11_bird_91 : decode cX11_bird 91 = .ok (.iload_n 1, 1) := by decide +kernel
theorem dX11_bird_92 : decode cX11_bird 92 = .ok (.invokevirtual 246, 3) := by decide +kernel
theorem dX11_bird_95 : decode cX11_bird 95 = .ok (.ireturn, 1) := by decide +kernel
theorem dX11_bird_96 : decode cX11_bird 96 = .ok (.aload_n 0, 1) := by decide +kernel
theorem dX11_bird_97 : decode cX11_bird 97 = .ok (.iload_n 1, 1) := by decide +kernel
theorem dX11_bird_98 : decode cX11_bird 98 = .ok (.invokevirtual 259, 3) := by decide +kernel
theorem dX11_bird_101 : decode cX11_bird 101 = .ok (.ireturn, 1) := by decide +kernel
theorem dX11_bird_102 : decode cX11_bird 102 = .ok (.aload_n 0, 1) := by decide +kernel
theorem dX11_bird_103 : decode cX11_bird 103 = .ok (.iload_n 1, 1) := by decide +kernel
theorem dX11_bird_104 : decode cX11_bird 104 = .ok (.invokevirtual 256, 3) := by decide +kernel
theorem dX11_bird_107 : decode cX11_bird 107 = .ok (.ireturn, 1) := by decide +kernel
theorem dX11_bird_108 : decode cX11_bird 108 = .ok (.aload_n 0, 1) := by decide +kernel
theorem dX11_bird_109 : decode cX11_bird 109 = .ok (.iload_n 1, 1) := by decide +kernel
theorem dX11_bird_110 : decode cX11_bird 110 = .ok (.invokevirtual 274, 3) := by decide +kernel
theorem dX11_bird_113 : decode cX11_bird 113 = .ok (.ireturn, 1) := by decide +kernel
theorem dX11_bird_114 : decode cX11_bird 114 = .ok (.aload_n 0, 1) := by decide +kernel
theorem dX11_bird_115 : decode cX11_bird 115 = .ok (.iload_n 1, 1) := by decide +kernel
theorem dX11_bird_116 : decode cX11_bird 116 = .ok (.aload_n 0, 1) := by decide +kernel
theorem dX11_bird_117 : decode cX11_bird 117 = .ok (.getfield 26, 3) := by decide +kernel
theorem dX11_bird_120 : decode cX11_bird 120 = .ok (.bipush 20, 2) := by decide +kernel
theorem dX11_bird_122 : decode cX11_bird 122 = .ok (.iaload, 1) := by decide +kernel
theorem dX11_bird_123 : decode cX11_bird 123 = .ok (.invokevirtual 268, 3) := by decide +kernel
theorem dX11_bird_126 : decode cX11_bird 126 = .ok (.ireturn, 1) := by decide +kernel
theorem dX11_areHouses_0 : decode cX11_areHouses 0 = .ok (.aload_n 0, 1) := by decide +kernel
theorem dX11_areHouses_1 : decode cX11_areHouses 1 = .ok (.iload_n 1, 1) := by decide +kernel
theorem dX11_areHouses_2 : decode cX11_areHouses 2 = .ok (.invokevirtual 277, 3) := by decide +kernel
theorem dX11_areHouses_5 : decode cX11_areHouses 5 = .ok (.ifCond .eq 20, 3) := by decide +kernel
theorem dX11_areHouses_8 : decode cX11_areHouses 8 = .ok (.aload_n 0, 1) := by decide +kernel
theorem dX11_areHouses_9 : decode cX11_areHouses 9 = .ok (.iload_n 2, 1) := by decide +kernel
theorem dX11_areHouses_10 : decode cX11_areHouses 10 = .ok (.invokevirtual 277, 3) := by decide +kernel
theorem dX11_areHouses_13 : decode cX11_areHouses 13 = .ok (.ifCond .eq 12, 3) := by decide +kernel
theorem dX11_areHouses_16 : decode cX11_areHouses 16 = .ok (.iload_n 1, 1) := by decide +kernel
theorem dX11_areHouses_17 : decode cX11_areHouses 17 = .ok (.iload_n 2, 1) := by decide +kernel
theorem dX11_areHouses_18 : decode cX11_areHouses 18 = .ok (.if_icmp .eq 7, 3) := by decide +kernel
theorem dX11_areHouses_21 : decode cX11_areHouses 21 = .ok (.iconst 1, 1) := by decide +kernel
theorem dX11_areHouses_22 : decode cX11_areHouses 22 = .ok (.goto 4, 3) := by decide +kernel
theorem dX11_areHouses_25 : decode cX11_areHouses 25 = .ok (.iconst 0, 1) := by decide +kernel
theorem dX11_areHouses_26 : decode cX11_areHouses 26 = .ok (.ireturn, 1) := by decide +kernel
theorem dX11_apart_0 : decode cX11_apart 0 = .ok (.aload_n 0, 1) := by decide +kernel
theorem dX11_apart_1 : decode cX11_apart 1 = .ok (.invokevirtual 153, 3) := by decide +kernel
theorem dX11_apart_4 : decode cX11_apart 4 = .ok (.aload_n 0, 1) := by decide +kernel
theorem dX11_apart_5 : decode cX11_apart 5 = .ok (.iload_n 1, 1) := by decide +kernel
theorem dX11_apart_6 : decode cX11_apart 6 = .ok (.iload_n 2, 1) := by decide +kernel
theorem dX11_apart_7 : decode cX11_apart 7 = .ok (.invokevirtual 289, 3) := by decide +kernel
theorem dX11_apart_10 : decode cX11_apart 10 = .ok (.ifCond .eq 12, 3) := by decide +kernel
theorem dX11_apart_13 : decode cX11_apart 13 = .ok (.aload_n 0, 1) := by decide +kernel
theorem dX11_apart_14 : decode cX11_apart 14 = .ok (.iload_n 1, 1) := by decide +kernel
theorem dX11_apart_15 : decode cX11_apart 15 = .ok (.iload_n 2, 1) := by decide +kernel
theorem dX11_apart_16 : decode cX11_apart 16 = .ok (.invokevirtual 249, 3) := by decide +kernel
theorem dX11_apart_19 : decode cX11_apart 19 = .ok (.goto 8, 3) := by decide +kernel
theorem dX11_apart_22 : decode cX11_apart 22 = .ok (.aload_n 0, 1) := by decide +kernel
theorem dX11_apart_23 : decode cX11_apart 23 = .ok (.iconst 1, 1) := by decide +kernel
theorem dX11_apart_24 : decode cX11_apart 24 = .ok (.invokevirtual 156, 3) := by decide +kernel
theorem dX11_apart_27 : decode cX11_apart 27 = .ok (.ireturn, 1) := by decide +kernel
theorem dX11_birds_0 : decode cX11_birds 0 = .ok (.aload_n 0, 1) := by decide +kernel
theorem dX11_birds_1 : decode cX11_birds 1 = .ok (.invokevirtual 153, 3) := by decide +kernel
theorem dX11_birds_4 : decode cX11_birds 4 = .ok (.aload_n 0, 1) := by decide +kernel
theorem dX11_birds_5 : decode cX11_birds 5 = .ok (.getfield 166, 3) := by decide +kernel
theorem dX11_birds_8 : decode cX11_birds 8 = .ok (.ifCond .eq 10, 3) := by decide +kernel
theorem dX11_birds_11 : decode cX11_birds 11 = .ok (.aload_n 0, 1) := by decide +kernel
theorem dX11_birds_12 : decode cX11_birds 12 = .ok (.invokevirtual 292, 3) := by decide +kernel
theorem dX11_birds_15 : decode cX11_birds 15 = .ok (.goto 8, 3) := by decide +kernel
theorem dX11_birds_18 : decode cX11_birds 18 = .ok (.aload_n 0, 1) := by decide +kernel
theorem dX11_birds_19 : decode cX11_birds 19 = .ok (.iconst 1, 1) := by decide +kernel
theorem dX11_birds_20 : decode cX11_birds 20 = .ok (.invokevirtual 156, 3) := by decide +kernel
theorem dX11_birds_23 : decode cX11_birds 23 = .ok (.ireturn, 1) := by decide +kernel
theorem dX11_fullest_0 : decode cX11_fullest 0 = .ok (.aload_n 0, 1) := by decide +kernel
theorem dX11_fullest_1 : decode cX11_fullest 1 = .ok (.invokevirtual 153, 3) := by decide +kernel
theorem dX11_fullest_4 : decode cX11_fullest 4 = .ok (.aload_n 0, 1) := by decide +kernel
theorem dX11_fullest_5 : decode cX11_fullest 5 = .ok (.getfield 166, 3) := by decide +kernel
theorem dX11_fullest_8 : decode cX11_fullest 8 = .ok (.ifCond .ne 9, 3) := by decide +kernel
theorem dX11_fullest_11 : decode cX11_fullest 11 = .ok (.aload_n 0, 1) := by decide +kernel
theorem dX11_fullest_12 : decode cX11_fullest 12 = .ok (.iconst 1, 1) := by decide +kernel
theorem dX11_fullest_13 : decode cX11_fullest 13 = .ok (.invokevirtual 156, 3) := by decide +kernel
theorem dX11_fullest_16 : decode cX11_fullest 16 = .ok (.ireturn, 1) := by decide +kernel
theorem dX11_fullest_17 : decode cX11_fullest 17 = .ok (.iconst 0, 1) := by decide +kernel
theorem dX11_fullest_18 : decode cX11_fullest 18 = .ok (.istore_n 1, 1) := by decide +kernel
theorem dX11_fullest_19 : decode cX11_fullest 19 = .ok (.iconst 1, 1) := by decide +kernel
theorem dX11_fullest_20 : decode cX11_fullest 20 = .ok (.istore_n 2, 1) := by decide +kernel
theorem dX11_fullest_21 : decode cX11_fullest 21 = .ok (.iload_n 2, 1) := by decide +kernel
theorem dX11_fullest_22 : decode cX11_fullest 22 = .ok (.aload_n 0, 1) := by decide +kernel
theorem dX11_fullest_23 : decode cX11_fullest 23 = .ok (.getfield 20, 3) := by decide +kernel
theorem dX11_fullest_26 : decode cX11_fullest 26 = .ok (.iconst 3, 1) := by decide +kernel
theorem dX11_fullest_27 : decode cX11_fullest 27 = .ok (.iaload, 1) := by decide +kernel
theorem dX11_fullest_28 : decode cX11_fullest 28 = .ok (.if_icmp .ge 44, 3) := by decide +kernel
theorem dX11_fullest_31 : decode cX11_fullest 31 = .ok (.aload_n 0, 1) := by decide +kernel
theorem dX11_fullest_32 : decode cX11_fullest 32 = .ok (.iload_n 2, 1) := by decide +kernel
theorem dX11_fullest_33 : decode cX11_fullest 33 = .ok (.aload_n 0, 1) := by decide +kernel
theorem dX11_fullest_34 : decode cX11_fullest 34 = .ok (.getfield 26, 3) := by decide +kernel
theorem dX11_fullest_37 : decode cX11_fullest 37 = .ok (.bipush 20, 2) := by decide +kernel
theorem dX11_fullest_39 : decode cX11_fullest 39 = .ok (.iaload, 1) := by decide +kernel
theorem dX11_fullest_40 : decode cX11_fullest 40 = .ok (.invokevirtual 280, 3) := by decide +kernel
theorem dX11_fullest_43 : decode cX11_fullest 43 = .ok (.invokestatic 295, 3) := by decide +kernel
theorem dX11_fullest_46 : decode cX11_fullest 46 = .ok (.aload_n 0, 1) := by decide +kernel
theorem dX11_fullest_47 : decode cX11_fullest 47 = .ok (.iload_n 1, 1) := by decide +kernel
theorem dX11_fullest_48 : decode cX11_fullest 48 = .ok (.aload_n 0, 1) := by decide +kernel
theorem dX11_fullest_49 : decode cX11_fullest 49 = .ok (.getfield 26, 3) := by decide +kernel
theorem dX11_fullest_52 : decode cX11_fullest 52 = .ok (.bipush 20, 2) := by decide +kernel
theorem dX11_fullest_54 : decode cX11_fullest 54 = .ok (.iaload, 1) := by decide +kernel
theorem dX11_fullest_55 : decode cX11_fullest 55 = .ok (.invokevirtual 280, 3) := by decide +kernel
theorem dX11_fullest_58 : decode cX11_fullest 58 = .ok (.invokestatic 295, 3) := by decide +kernel
theorem dX11_fullest_61 : decode cX11_fullest 61 = .ok (.if_icmp .le 5, 3) := by decide +kernel
theorem dX11_fullest_64 : decode cX11_fullest 64 = .ok (.iload_n 2, 1) := by decide +kernel
theorem dX11_fullest_65 : decode cX11_fullest 65 = .ok (.istore_n 1, 1) := by decide +kernel
theorem dX11_fullest_66 : decode cX11_fullest 66 = .ok (.iinc 2 1, 3) := by decide +kernel
theorem dX11_fullest_69 : decode cX11_fullest 69 = .ok (.goto (-48), 3) := by decide +kernel
theorem dX11_fullest_72 : decode cX11_fullest 72 = .ok (.iload_n 1, 1) := by decide +kernel
theorem dX11_fullest_73 : decode cX11_fullest 73 = .ok (.ireturn, 1) := by decide +kernel
theorem dX11_clean_0 : decode cX11_clean 0 = .ok (.aload_n 0, 1) := by decide +kernel
theorem dX11_clean_1 : decode cX11_clean 1 = .ok (.invokevirtual 153, 3) := by decide +kernel
theorem dX11_clean_4 : decode cX11_clean 4 = .ok (.aload_n 0, 1) := by decide +kernel
theorem dX11_clean_5 : decode cX11_clean 5 = .ok (.getfield 166, 3) := by decide +kernel
theorem dX11_clean_8 : decode cX11_clean 8 = .ok (.ifCond .ne 9, 3) := by decide +kernel
theorem dX11_clean_11 : decode cX11_clean 11 = .ok (.aload_n 0, 1) := by decide +kernel
theorem dX11_clean_12 : decode cX11_clean 12 = .ok (.iconst 1, 1) := by decide +kernel
theorem dX11_clean_13 : decode cX11_clean 13 = .ok (.invokevirtual 156, 3) := by decide +kernel
theorem dX11_clean_16 : decode cX11_clean 16 = .ok (.ireturn, 1) := by decide +kernel
theorem dX11_clean_17 : decode cX11_clean 17 = .ok (.iconst 0, 1) := by decide +kernel
theorem dX11_clean_18 : decode cX11_clean 18 = .ok (.istore_n 1, 1) := by decide +kernel
theorem dX11_clean_19 : decode cX11_clean 19 = .ok (.iconst 0, 1) := by decide +kernel
theorem dX11_clean_20 : decode cX11_clean 20 = .ok (.istore_n 2, 1) := by decide +kernel
theorem dX11_clean_21 : decode cX11_clean 21 = .ok (.iload_n 2, 1) := by decide +kernel
theorem dX11_clean_22 : decode cX11_clean 22 = .ok (.aload_n 0, 1) := by decide +kernel
theorem dX11_clean_23 : decode cX11_clean 23 = .ok (.getfield 20, 3) := by decide +kernel
theorem dX11_clean_26 : decode cX11_clean 26 = .ok (.iconst 3, 1) := by decide +kernel
theorem dX11_clean_27 : decode cX11_clean 27 = .ok (.iaload, 1) := by decide +kernel
theorem dX11_clean_28 : decode cX11_clean 28 = .ok (.if_icmp .ge 27, 3) := by decide +kernel
theorem dX11_clean_31 : decode cX11_clean 31 = .ok (.iload_n 1, 1) := by decide +kernel
theorem dX11_clean_32 : decode cX11_clean 32 = .ok (.aload_n 0, 1) := by decide +kernel
theorem dX11_clean_33 : decode cX11_clean 33 = .ok (.iload_n 2, 1) := by decide +kernel
theorem dX11_clean_34 : decode cX11_clean 34 = .ok (.invokevirtual 283, 3) := by decide +kernel
theorem dX11_clean_37 : decode cX11_clean 37 = .ok (.ifCond .ne 9, 3) := by decide +kernel
theorem dX11_clean_40 : decode cX11_clean 40 = .ok (.iconst 1, 1) := by decide +kernel
theorem dX11_clean_41 : decode cX11_clean 41 = .ok (.iload_n 2, 1) := by decide +kernel
theorem dX11_clean_42 : decode cX11_clean 42 = .ok (.ishl, 1) := by decide +kernel
theorem dX11_clean_43 : decode cX11_clean 43 = .ok (.goto 4, 3) := by decide +kernel
theorem dX11_clean_46 : decode cX11_clean 46 = .ok (.iconst 0, 1) := by decide +kernel
theorem dX11_clean_47 : decode cX11_clean 47 = .ok (.ior, 1) := by decide +kernel
theorem dX11_clean_48 : decode cX11_clean 48 = .ok (.istore_n 1, 1) := by decide +kernel
theorem dX11_clean_49 : decode cX11_clean 49 = .ok (.iinc 2 1, 3) := by decide +kernel
theorem dX11_clean_52 : decode cX11_clean 52 = .ok (.goto (-31), 3) := by decide +kernel
theorem dX11_clean_55 : decode cX11_clean 55 = .ok (.iload_n 1, 1) := by decide +kernel
theorem dX11_clean_56 : decode cX11_clean 56 = .ok (.ireturn, 1) := by decide +kernel
theorem dX11_why_0 : decode cX11_why 0 = .ok (.iload_n 1, 1) := by decide +kernel
theorem dX11_why_1 : decode cX11_why 1 = .ok (.ifCond .ne 7, 3) := by decide +kernel
theorem dX11_why_4 : decode cX11_why 4 = .ok (.iconst 1, 1) := by decide +kernel
theorem dX11_why_5 : decode cX11_why 5 = .ok (.goto 17, 3) := by decide +kernel
theorem dX11_why_8 : decode cX11_why 8 = .ok (.iload_n 2, 1) := by decide +kernel
theorem dX11_why_9 : decode cX11_why 9 = .ok (.iconst 0, 1) := by decide +kernel
theorem dX11_why_10 : decode cX11_why 10 = .ok (.iload_n 3, 1) := by decide +kernel
theorem dX11_why_11 : decode cX11_why 11 = .ok (.invokestatic 138, 3) := by decide +kernel
theorem dX11_why_14 : decode cX11_why 14 = .ok (.ifCond .eq 7, 3) := by decide +kernel
theorem dX11_why_17 : decode cX11_why 17 = .ok (.iconst 0, 1) := by decide +kernel
theorem dX11_why_18 : decode cX11_why 18 = .ok (.goto 4, 3) := by decide +kernel
theorem dX11_why_21 : decode cX11_why 21 = .ok (.iconst 2, 1) := by decide +kernel
theorem dX11_why_22 : decode cX11_why 22 = .ok (.ireturn, 1) := by decide +kernel
theorem dX11_whereIn_0 : decode cX11_whereIn 0 = .ok (.aload_n 0, 1) := by decide +kernel
theorem dX11_whereIn_1 : decode cX11_whereIn 1 = .ok (.invokevirtual 153, 3) := by decide +kernel
theorem dX11_whereIn_4 : decode cX11_whereIn 4 = .ok (.aload_n 0, 1) := by decide +kernel
theorem dX11_whereIn_5 : decode cX11_whereIn 5 = .ok (.aload_n 0, 1) := by decide +kernel
theorem dX11_whereIn_6 : decode cX11_whereIn 6 = .ok (.iload_n 1, 1) := by decide +kernel
theorem dX11_whereIn_7 : decode cX11_whereIn 7 = .ok (.invokevirtual 286, 3) := by decide +kernel
theorem dX11_whereIn_10 : decode cX11_whereIn 10 = .ok (.iload_n 2, 1) := by decide +kernel
theorem dX11_whereIn_11 : decode cX11_whereIn 11 = .ok (.bipush 60, 2) := by decide +kernel
theorem dX11_whereIn_13 : decode cX11_whereIn 13 = .ok (.invokevirtual 298, 3) := by decide +kernel
theorem dX11_whereIn_16 : decode cX11_whereIn 16 = .ok (.istore_n 3, 1) := by decide +kernel
theorem dX11_whereIn_17 : decode cX11_whereIn 17 = .ok (.iload_n 3, 1) := by decide +kernel
theorem dX11_whereIn_18 : decode cX11_whereIn 18 = .ok (.ifCond .eq 11, 3) := by decide +kernel
theorem dX11_whereIn_21 : decode cX11_whereIn 21 = .ok (.aload_n 0, 1) := by decide +kernel
theorem dX11_whereIn_22 : decode cX11_whereIn 22 = .ok (.iload_n 3, 1) := by decide +kernel
theorem dX11_whereIn_23 : decode cX11_whereIn 23 = .ok (.invokevirtual 156, 3) := by decide +kernel
theorem dX11_whereIn_26 : decode cX11_whereIn 26 = .ok (.goto 17, 3) := by decide +kernel
theorem dX11_whereIn_29 : decode cX11_whereIn 29 = .ok (.aload_n 0, 1) := by decide +kernel
theorem dX11_whereIn_30 : decode cX11_whereIn 30 = .ok (.iload_n 1, 1) := by decide +kernel
theorem dX11_whereIn_31 : decode cX11_whereIn 31 = .ok (.aload_n 0, 1) := by decide +kernel
theorem dX11_whereIn_32 : decode cX11_whereIn 32 = .ok (.getfield 26, 3) := by decide +kernel
theorem dX11_whereIn_35 : decode cX11_whereIn 35 = .ok (.bipush 20, 2) := by decide +kernel
theorem dX11_whereIn_37 : decode cX11_whereIn 37 = .ok (.iaload, 1) := by decide +kernel
theorem dX11_whereIn_38 : decode cX11_whereIn 38 = .ok (.iload_n 2, 1) := by decide +kernel
theorem dX11_whereIn_39 : decode cX11_whereIn 39 = .ok (.iadd, 1) := by decide +kernel
theorem dX11_whereIn_40 : decode cX11_whereIn 40 = .ok (.invokevirtual 268, 3) := by decide +kernel
theorem dX11_whereIn_43 : decode cX11_whereIn 43 = .ok (.ireturn, 1) := by decide +kernel
theorem dX11_sitIn_0 : decode cX11_sitIn 0 = .ok (.aload_n 0, 1) := by decide +kernel
theorem dX11_sitIn_1 : decode cX11_sitIn 1 = .ok (.invokevirtual 153, 3) := by decide +kernel
theorem dX11_sitIn_4 : decode cX11_sitIn 4 = .ok (.aload_n 0, 1) := by decide +kernel
theorem dX11_sitIn_5 : decode cX11_sitIn 5 = .ok (.aload_n 0, 1) := by decide +kernel
theorem dX11_sitIn_6 : decode cX11_sitIn 6 = .ok (.iload_n 1, 1) := by decide +kernel
theorem dX11_sitIn_7 : decode cX11_sitIn 7 = .ok (.invokevirtual 277, 3) := by decide +kernel
theorem dX11_sitIn_10 : decode cX11_sitIn 10 = .ok (.iload_n 2, 1) := by decide +kernel
theorem dX11_sitIn_11 : decode cX11_sitIn 11 = .ok (.bipush 60, 2) := by decide +kernel
theorem dX11_sitIn_13 : decode cX11_sitIn 13 = .ok (.invokevirtual 298, 3) := by decide +kernel
theorem dX11_sitIn_16 : decode cX11_sitIn 16 = .ok (.istore_n 3, 1) := by decide +kernel
theorem dX11_sitIn_17 : decode cX11_sitIn 17 = .ok (.iload_n 3, 1) := by decide +kernel
theorem dX11_sitIn_18 : decode cX11_sitIn 18 = .ok (.ifCond .eq 11, 3) := by decide +kernel
theorem dX11_sitIn_21 : decode cX11_sitIn 21 = .ok (.aload_n 0, 1) := by decide +kernel
theorem dX11_sitIn_22 : decode cX11_sitIn 22 = .ok (.iload_n 3, 1) := by decide +kernel
theorem dX11_sitIn_23 : decode cX11_sitIn 23 = .ok (.invokevirtual 156, 3) := by decide +kernel
theorem dX11_sitIn_26 : decode cX11_sitIn 26 = .ok (.goto 20, 3) := by decide +kernel
theorem dX11_sitIn_29 : decode cX11_sitIn 29 = .ok (.aload_n 0, 1) := by decide +kernel
theorem dX11_sitIn_30 : decode cX11_sitIn 30 = .ok (.iload_n 1, 1) := by decide +kernel
theorem dX11_sitIn_31 : decode cX11_sitIn 31 = .ok (.aload_n 0, 1) := by decide +kernel
theorem dX11_sitIn_32 : decode cX11_sitIn 32 = .ok (.getfield 26, 3) := by decide +kernel
theorem dX11_sitIn_35 : decode cX11_sitIn 35 = .ok (.bipush 20, 2) := by decide +kernel
theorem dX11_sitIn_37 : decode cX11_sitIn 37 = .ok (.iaload, 1) := by decide +kernel
theorem dX11_sitIn_38 : decode cX11_sitIn 38 = .ok (.iload_n 2, 1) := by decide +kernel
theorem dX11_sitIn_39 : decode cX11_sitIn 39 = .ok (.iadd, 1) := by decide +kernel
theorem dX11_sitIn_40 : decode cX11_sitIn 40 = .ok (.invokevirtual 280, 3) := by decide +kernel
theorem dX11_sitIn_43 : decode cX11_sitIn 43 = .ok (.invokestatic 295, 3) := by decide +kernel
theorem dX11_sitIn_46 : decode cX11_sitIn 46 = .ok (.ireturn, 1) := by decide +kernel
theorem dX11_whiteOf_0 : decode cX11_whiteOf 0 = .ok (.aload_n 0, 1) := by decide +kernel
theorem dX11_whiteOf_1 : decode cX11_whiteOf 1 = .ok (.getfield 26, 3) := by decide +kernel
theorem dX11_whiteOf_4 : decode cX11_whiteOf 4 = .ok (.bipush 7, 2) := by decide +kernel
theorem dX11_whiteOf_6 : decode cX11_whiteOf 6 = .ok (.iload_n 1, 1) := by decide +kernel
theorem dX11_whiteOf_7 : decode cX11_whiteOf 7 = .ok (.iadd, 1) := by decide +kernel
theorem dX11_whiteOf_8 : decode cX11_whiteOf 8 = .ok (.iaload, 1) := by decide +kernel
theorem dX11_whiteOf_9 : decode cX11_whiteOf 9 = .ok (.istore_n 3, 1) := by decide +kernel
theorem dX11_whiteOf_10 : decode cX11_whiteOf 10 = .ok (.iconst 1, 1) := by decide +kernel
theorem dX11_whiteOf_11 : decode cX11_whiteOf 11 = .ok (.istore 4, 2) := by decide +kernel
theorem dX11_whiteOf_13 : decode cX11_whiteOf 13 = .ok (.iload 4, 2) := by decide +kernel
theorem dX11_whiteOf_15 : decode cX11_whiteOf 15 = .ok (.iload_n 2, 1) := by decide +kernel
theorem dX11_whiteOf_16 : decode cX11_whiteOf 16 = .ok (.if_icmp .gt 30, 3) := by decide +kernel
theorem dX11_whiteOf_19 : decode cX11_whiteOf 19 = .ok (.iload_n 3, 1) := by decide +kernel
theorem dX11_whiteOf_20 : decode cX11_whiteOf 20 = .ok (.aload_n 0, 1) := by decide +kernel
theorem dX11_whiteOf_21 : decode cX11_whiteOf 21 = .ok (.iload_n 1, 1) := by decide +kernel
theorem dX11_whiteOf_22 : decode cX11_whiteOf 22 = .ok (.aload_n 0, 1) := by decide +kernel
theorem dX11_whiteOf_23 : decode cX11_whiteOf 23 = .ok (.getfield 26, 3) := by decide +kernel
theorem dX11_whiteOf_26 : decode cX11_whiteOf 26 = .ok (.bipush 20, 2) := by decide +kernel
theorem dX11_whiteOf_28 : decode cX11_whiteOf 28 = .ok (.iaload, 1) := by decide +kernel
theorem dX11_whiteOf_29 : decode cX11_whiteOf 29 = .ok (.iload 4, 2) := by decide +kernel
theorem dX11_whiteOf_31 : decode cX11_whiteOf 31 = .ok (.iadd, 1) := by decide +kernel
theorem dX11_whiteOf_32 : decode cX11_whiteOf 32 = .ok (.invokevirtual 280, 3) := by decide +kernel
theorem dX11_whiteOf_35 : decode cX11_whiteOf 35 = .ok (.invokestatic 295, 3) := by decide +kernel
theorem dX11_whiteOf_38 : decode cX11_whiteOf 38 = .ok (.iadd, 1) := by decide +kernel
theorem dX11_whiteOf_39 : decode cX11_whiteOf 39 = .ok (.istore_n 3, 1) := by decide +kernel
theorem dX11_whiteOf_40 : decode cX11_whiteOf 40 = .ok (.iinc 4 1, 3) := by decide +kernel
theorem dX11_whiteOf_43 : decode cX11_whiteOf 43 = .ok (.goto (-30), 3) := by decide +kernel
theorem dX11_whiteOf_46 : decode cX11_whiteOf 46 = .ok (.iload_n 3, 1) := by decide +kernel
theorem dX11_whiteOf_47 : decode cX11_whiteOf 47 = .ok (.ireturn, 1) := by decide +kernel
theorem dX11_whiteIn_0 : decode cX11_whiteIn 0 = .ok (.aload_n 0, 1) := by decide +kernel
theorem dX11_whiteIn_1 : decode cX11_whiteIn 1 = .ok (.invokevirtual 153, 3) := by decide +kernel
theorem dX11_whiteIn_4 : decode cX11_whiteIn 4 = .ok (.aload_n 0, 1) := by decide +kernel
theorem dX11_whiteIn_5 : decode cX11_whiteIn 5 = .ok (.aload_n 0, 1) := by decide +kernel
theorem dX11_whiteIn_6 : decode cX11_whiteIn 6 = .ok (.iload_n 1, 1) := by decide +kernel
theorem dX11_whiteIn_7 : decode cX11_whiteIn 7 = .ok (.invokevirtual 277, 3) := by decide +kernel
theorem dX11_whiteIn_10 : decode cX11_whiteIn 10 = .ok (.iload_n 2, 1) := by decide +kernel
theorem dX11_whiteIn_11 : decode cX11_whiteIn 11 = .ok (.bipush 60, 2) := by decide +kernel
theorem dX11_whiteIn_13 : decode cX11_whiteIn 13 = .ok (.invokevirtual 298, 3) := by decide +kernel
theorem dX11_whiteIn_16 : decode cX11_whiteIn 16 = .ok (.istore_n 3, 1) := by decide +kernel
theorem dX11_whiteIn_17 : decode cX11_whiteIn 17 = .ok (.iload_n 3, 1) := by decide +kernel
theorem dX11_whiteIn_18 : decode cX11_whiteIn 18 = .ok (.ifCond .eq 11, 3) := by decide +kernel
theorem dX11_whiteIn_21 : decode cX11_whiteIn 21 = .ok (.aload_n 0, 1) := by decide +kernel
theorem dX11_whiteIn_22 : decode cX11_whiteIn 22 = .ok (.iload_n 3, 1) := by decide +kernel
theorem dX11_whiteIn_23 : decode cX11_whiteIn 23 = .ok (.invokevirtual 156, 3) := by decide +kernel
theorem dX11_whiteIn_26 : decode cX11_whiteIn 26 = .ok (.goto 9, 3) := by decide +kernel
theorem dX11_whiteIn_29 : decode cX11_whiteIn 29 = .ok (.aload_n 0, 1) := by decide +kernel
theorem dX11_whiteIn_30 : decode cX11_whiteIn 30 = .ok (.iload_n 1, 1) := by decide +kernel
theorem dX11_whiteIn_31 : decode cX11_whiteIn 31 = .ok (.iload_n 2, 1) := by decide +kernel
theorem dX11_whiteIn_32 : decode cX11_whiteIn 32 = .ok (.invokevirtual 302, 3) := by decide +kernel
theorem dX11_whiteIn_35 : decode cX11_whiteIn 35 = .ok (.ireturn, 1) := by decide +kernel
theorem dX11_sitsIn_0 : decode cX11_sitsIn 0 = .ok (.aload_n 0, 1) := by decide +kernel
theorem dX11_sitsIn_1 : decode cX11_sitsIn 1 = .ok (.invokevirtual 153, 3) := by decide +kernel
theorem dX11_sitsIn_4 : decode cX11_sitsIn 4 = .ok (.aload_n 0, 1) := by decide +kernel
theorem dX11_sitsIn_5 : decode cX11_sitsIn 5 = .ok (.iload_n 1, 1) := by decide +kernel
theorem dX11_sitsIn_6 : decode cX11_sitsIn 6 = .ok (.invokevirtual 286, 3) := by decide +kernel
theorem dX11_sitsIn_9 : decode cX11_sitsIn 9 = .ok (.ifCond .ne 9, 3) := by decide +kernel
theorem dX11_sitsIn_12 : decode cX11_sitsIn 12 = .ok (.aload_n 0, 1) := by decide +kernel
theorem dX11_sitsIn_13 : decode cX11_sitsIn 13 = .ok (.iconst 1, 1) := by decide +kernel
theorem dX11_sitsIn_14 : decode cX11_sitsIn 14 = .ok (.invokevirtual 156, 3) := by decide +kernel
theorem dX11_sitsIn_17 : decode cX11_sitsIn 17 = .ok (.ireturn, 1) := by decide +kernel
theorem dX11_sitsIn_18 : decode cX11_sitsIn 18 = .ok (.iconst 0, 1) := by decide +kernel
theorem dX11_sitsIn_19 : decode cX11_sitsIn 19 = .ok (.istore_n 2, 1) := by decide +kernel
theorem dX11_sitsIn_20 : decode cX11_sitsIn 20 = .ok (.iload_n 2, 1) := by decide +kernel
theorem dX11_sitsIn_21 : decode cX11_sitsIn 21 = .ok (.bipush 60, 2) := by decide +kernel
theorem dX11_sitsIn_23 : decode cX11_sitsIn 23 = .ok (.if_icmp .gt 29, 3) := by decide +kernel
theorem dX11_sitsIn_26 : decode cX11_sitsIn 26 = .ok (.aload_n 0, 1) := by decide +kernel
theorem dX11_sitsIn_27 : decode cX11_sitsIn 27 = .ok (.iload_n 1, 1) := by decide +kernel
theorem dX11_sitsIn_28 : decode cX11_sitsIn 28 = .ok (.aload_n 0, 1) := by decide +kernel
theorem dX11_sitsIn_29 : decode cX11_sitsIn 29 = .ok (.getfield 26, 3) := by decide +kernel
theorem dX11_sitsIn_32 : decode cX11_sitsIn 32 = .ok (.bipush 20, 2) := by decide +kernel
theorem dX11_sitsIn_34 : decode cX11_sitsIn 34 = .ok (.iaload, 1) := by decide +kernel
theorem dX11_sitsIn_35 : decode cX11_sitsIn 35 = .ok (.iload_n 2, 1) := by decide +kernel
theorem dX11_sitsIn_36 : decode cX11_sitsIn 36 = .ok (.iadd, 1) := by decide +kernel
theorem dX11_sitsIn_37 : decode cX11_sitsIn 37 = .ok (.invokevirtual 268, 3) := by decide +kernel
theorem dX11_sitsIn_40 : decode cX11_sitsIn 40 = .ok (.iconst 2, 1) := by decide +kernel
theorem dX11_sitsIn_41 : decode cX11_sitsIn 41 = .ok (.if_icmp .ne 5, 3) := by decide +kernel
theorem dX11_sitsIn_44 : decode cX11_sitsIn 44 = .ok (.iload_n 2, 1) := by decide +kernel
theorem dX11_sitsIn_45 : decode cX11_sitsIn 45 = .ok (.ireturn, 1) := by decide +kernel
theorem dX11_sitsIn_46 : decode cX11_sitsIn 46 = .ok (.iinc 2 1, 3) := by decide +kernel
theorem dX11_sitsIn_49 : decode cX11_sitsIn 49 = .ok (.goto (-29), 3) := by decide +kernel
theorem dX11_sitsIn_52 : decode cX11_sitsIn 52 = .ok (.bipush (-2), 2) := by decide +kernel
theorem dX11_sitsIn_54 : decode cX11_sitsIn 54 = .ok (.ireturn, 1) := by decide +kernel
theorem dX11_worstDay_0 : decode cX11_worstDay 0 = .ok (.aload_n 0, 1) := by decide +kernel
theorem dX11_worstDay_1 : decode cX11_worstDay 1 = .ok (.invokevirtual 153, 3) := by decide +kernel
theorem dX11_worstDay_4 : decode cX11_worstDay 4 = .ok (.aload_n 0, 1) := by decide +kernel
theorem dX11_worstDay_5 : decode cX11_worstDay 5 = .ok (.getfield 166, 3) := by decide +kernel
theorem dX11_worstDay_8 : decode cX11_worstDay 8 = .ok (.ifCond .ne 9, 3) := by decide +kernel
theorem dX11_worstDay_11 : decode cX11_worstDay 11 = .ok (.aload_n 0, 1) := by decide +kernel
theorem dX11_worstDay_12 : decode cX11_worstDay 12 = .ok (.iconst 1, 1) := by decide +kernel
theorem dX11_worstDay_13 : decode cX11_worstDay 13 = .ok (.invokevirtual 156, 3) := by decide +kernel
theorem dX11_worstDay_16 : decode cX11_worstDay 16 = .ok (.ireturn, 1) := by decide +kernel
theorem dX11_worstDay_17 : decode cX11_worstDay 17 = .ok (.iconst 0, 1) := by decide +kernel
theorem dX11_worstDay_18 : decode cX11_worstDay 18 = .ok (.istore_n 1, 1) := by decide +kernel
theorem dX11_worstDay_19 : decode cX11_worstDay 19 = .ok (.iconst (-1), 1) := by decide +kernel
theorem dX11_worstDay_20 : decode cX11_worstDay 20 = .ok (.istore_n 2, 1) := by decide +kernel
theorem dX11_worstDay_21 : decode cX11_worstDay 21 = .ok (.iconst 0, 1) := by decide +kernel
theorem dX11_worstDay_22 : decode cX11_worstDay 22 = .ok (.istore_n 3, 1) := by decide +kernel
theorem dX11_worstDay_23 : decode cX11_worstDay 23 = .ok (.iload_n 3, 1) := by decide +kernel
theorem dX11_worstDay_24 : decode cX11_worstDay 24 = .ok (.bipush 60, 2) := by decide +kernel
theorem dX11_worstDay_26 : decode cX11_worstDay 26 = .ok (.if_icmp .gt 63, 3) := by decide +kernel
theorem dX11_worstDay_29 : decode cX11_worstDay 29 = .ok (.iconst 0, 1) := by decide +kernel
theorem dX11_worstDay_30 : decode cX11_worstDay 30 = .ok (.istore 4, 2) := by decide +kernel
theorem dX11_worstDay_32 : decode cX11_worstDay 32 = .ok (.iload 4, 2) := by decide +kernel
theorem dX11_worstDay_34 : decode cX11_worstDay 34 = .ok (.aload_n 0, 1) := by decide +kernel
theorem dX11_worstDay_35 : decode cX11_worstDay 35 = .ok (.getfield 20, 3) := by decide +kernel
theorem dX11_worstDay_38 : decode cX11_worstDay 38 = .ok (.iconst 3, 1) := by decide +kernel
theorem dX11_worstDay_39 : decode cX11_worstDay 39 = .ok (.iaload, 1) := by decide +kernel
theorem dX11_worstDay_40 : decode cX11_worstDay 40 = .ok (.if_icmp .ge 43, 3) := by decide +kernel
theorem dX11_worstDay_43 : decode cX11_worstDay 43 = .ok (.aload_n 0, 1) := by decide +kernel
theorem dX11_worstDay_44 : decode cX11_worstDay 44 = .ok (.iload 4, 2) := by decide +kernel
theorem dX11_worstDay_46 : decode cX11_worstDay 46 = .ok (.aload_n 0, 1) := by decide +kernel
theorem dX11_worstDay_47 : decode cX11_worstDay 47 = .ok (.getfield 26, 3) := by decide +kernel
theorem dX11_worstDay_50 : decode cX11_worstDay 50 = .ok (.bipush 20, 2) := by decide +kernel
theorem dX11_worstDay_52 : decode cX11_worstDay 52 = .ok (.iaload, 1) := by decide +kernel
theorem dX11_worstDay_53 : decode cX11_worstDay 53 = .ok (.iload_n 3, 1) := by decide +kernel
theorem dX11_worstDay_54 : decode cX11_worstDay 54 = .ok (.iadd, 1) := by decide +kernel
theorem dX11_worstDay_55 : decode cX11_worstDay 55 = .ok (.invokevirtual 280, 3) := by decide +kernel
theorem dX11_worstDay_58 : decode cX11_worstDay 58 = .ok (.invokestatic 295, 3) := by decide +kernel
theorem dX11_worstDay_61 : decode cX11_worstDay 61 = .ok (.istore 5, 2) := by decide +kernel
theorem dX11_worstDay_63 : decode cX11_worstDay 63 = .ok (.iload 5, 2) := by decide +kernel
theorem dX11_worstDay_65 : decode cX11_worstDay 65 = .ok (.iload_n 2, 1) := by decide +kernel
theorem dX11_worstDay_66 : decode cX11_worstDay 66 = .ok (.if_icmp .gt 6, 3) := by decide +kernel
theorem dX11_worstDay_69 : decode cX11_worstDay 69 = .ok (.goto 8, 3) := by decide +kernel
theorem dX11_worstDay_72 : decode cX11_worstDay 72 = .ok (.iload_n 3, 1) := by decide +kernel
theorem dX11_worstDay_73 : decode cX11_worstDay 73 = .ok (.istore_n 1, 1) := by decide +kernel
theorem dX11_worstDay_74 : decode cX11_worstDay 74 = .ok (.iload 5, 2) := by decide +kernel
theorem dX11_worstDay_76 : decode cX11_worstDay 76 = .ok (.istore_n 2, 1) := by decide +kernel
theorem dX11_worstDay_77 : decode cX11_worstDay 77 = .ok (.iinc 4 1, 3) := by decide +kernel
theorem dX11_worstDay_80 : decode cX11_worstDay 80 = .ok (.goto (-48), 3) := by decide +kernel
theorem dX11_worstDay_83 : decode cX11_worstDay 83 = .ok (.iinc 3 1, 3) := by decide +kernel
theorem dX11_worstDay_86 : decode cX11_worstDay 86 = .ok (.goto (-63), 3) := by decide +kernel
theorem dX11_worstDay_89 : decode cX11_worstDay 89 = .ok (.iload_n 1, 1) := by decide +kernel
theorem dX11_worstDay_90 : decode cX11_worstDay 90 = .ok (.ireturn, 1) := by decide +kernel
theorem dX11_whitest_0 : decode cX11_whitest 0 = .ok (.aload_n 0, 1) := by decide +kernel
theorem dX11_whitest_1 : decode cX11_whitest 1 = .ok (.invokevirtual 153, 3) := by decide +kernel
theorem dX11_whitest_4 : decode cX11_whitest 4 = .ok (.aload_n 0, 1) := by decide +kernel
theorem dX11_whitest_5 : decode cX11_whitest 5 = .ok (.aload_n 0, 1) := by decide +kernel
theorem dX11_whitest_6 : decode cX11_whitest 6 = .ok (.getfield 166, 3) := by decide +kernel
theorem dX11_whitest_9 : decode cX11_whitest 9 = .ok (.iload_n 1, 1) := by decide +kernel
theorem dX11_whitest_10 : decode cX11_whitest 10 = .ok (.bipush 60, 2) := by decide +kernel
theorem dX11_whitest_12 : decode cX11_whitest 12 = .ok (.invokevirtual 298, 3) := by decide +kernel
theorem dX11_whitest_15 : decode cX11_whitest 15 = .ok (.istore_n 2, 1) := by decide +kernel
theorem dX11_whitest_16 : decode cX11_whitest 16 = .ok (.iload_n 2, 1) := by decide +kernel
theorem dX11_whitest_17 : decode cX11_whitest 17 = .ok (.ifCond .eq 9, 3) := by decide +kernel
theorem dX11_whitest_20 : decode cX11_whitest 20 = .ok (.aload_n 0, 1) := by decide +kernel
theorem dX11_whitest_21 : decode cX11_whitest 21 = .ok (.iload_n 2, 1) := by decide +kernel
theorem dX11_whitest_22 : decode cX11_whitest 22 = .ok (.invokevirtual 156, 3) := by decide +kernel
theorem dX11_whitest_25 : decode cX11_whitest 25 = .ok (.ireturn, 1) := by decide +kernel
theorem dX11_whitest_26 : decode cX11_whitest 26 = .ok (.iconst 0, 1) := by decide +kernel
theorem dX11_whitest_27 : decode cX11_whitest 27 = .ok (.istore_n 3, 1) := by decide +kernel
theorem dX11_whitest_28 : decode cX11_whitest 28 = .ok (.iconst 1, 1) := by decide +kernel
theorem dX11_whitest_29 : decode cX11_whitest 29 = .ok (.istore 4, 2) := by decide +kernel
theorem dX11_whitest_31 : decode cX11_whitest 31 = .ok (.iload 4, 2) := by decide +kernel
theorem dX11_whitest_33 : decode cX11_whitest 33 = .ok (.aload_n 0, 1) := by decide +kernel
theorem dX11_whitest_34 : decode cX11_whitest 34 = .ok (.getfield 20, 3) := by decide +kernel
theorem dX11_whitest_37 : decode cX11_whitest 37 = .ok (.iconst 3, 1) := by decide +kernel
theorem dX11_whitest_38 : decode cX11_whitest 38 = .ok (.iaload, 1) := by decide +kernel
theorem dX11_whitest_39 : decode cX11_whitest 39 = .ok (.if_icmp .ge 28, 3) := by decide +kernel
theorem dX11_whitest_42 : decode cX11_whitest 42 = .ok (.aload_n 0, 1) := by decide +kernel
theorem dX11_whitest_43 : decode cX11_whitest 43 = .ok (.iload 4, 2) := by decide +kernel
theorem dX11_whitest_45 : decode cX11_whitest 45 = .ok (.iload_n 1, 1) := by decide +kernel
theorem dX11_whitest_46 : decode cX11_whitest 46 = .ok (.invokevirtual 302, 3) := by decide +kernel
theorem dX11_whitest_49 : decode cX11_whitest 49 = .ok (.aload_n 0, 1) := by decide +kernel
theorem dX11_whitest_50 : decode cX11_whitest 50 = .ok (.iload_n 3, 1) := by decide +kernel
theorem dX11_whitest_51 : decode cX11_whitest 51 = .ok (.iload_n 1, 1) := by decide +kernel
theorem dX11_whitest_52 : decode cX11_whitest 52 = .ok (.invokevirtual 302, 3) := by decide +kernel
theorem dX11_whitest_55 : decode cX11_whitest 55 = .ok (.if_icmp .le 6, 3) := by decide +kernel
theorem dX11_whitest_58 : decode cX11_whitest 58 = .ok (.iload 4, 2) := by decide +kernel
theorem dX11_whitest_60 : decode cX11_whitest 60 = .ok (.istore_n 3, 1) := by decide +kernel
theorem dX11_whitest_61 : decode cX11_whitest 61 = .ok (.iinc 4 1, 3) := by decide +kernel
theorem dX11_whitest_64 : decode cX11_whitest 64 = .ok (.goto (-33), 3) := by decide +kernel
theorem dX11_whitest_67 : decode cX11_whitest 67 = .ok (.iload_n 3, 1) := by decide +kernel
theorem dX11_whitest_68 : decode cX11_whitest 68 = .ok (.ireturn, 1) := by decide +kernel
theorem dX11_allSit_0 : decode cX11_allSit 0 = .ok (.aload_n 0, 1) := by decide +kernel
theorem dX11_allSit_1 : decode cX11_allSit 1 = .ok (.invokevirtual 153, 3) := by decide +kernel
theorem dX11_allSit_4 : decode cX11_allSit 4 = .ok (.aload_n 0, 1) := by decide +kernel
theorem dX11_allSit_5 : decode cX11_allSit 5 = .ok (.getfield 166, 3) := by decide +kernel
theorem dX11_allSit_8 : decode cX11_allSit 8 = .ok (.ifCond .ne 9, 3) := by decide +kernel
theorem dX11_allSit_11 : decode cX11_allSit 11 = .ok (.aload_n 0, 1) := by decide +kernel
theorem dX11_allSit_12 : decode cX11_allSit 12 = .ok (.iconst 1, 1) := by decide +kernel
theorem dX11_allSit_13 : decode cX11_allSit 13 = .ok (.invokevirtual 156, 3) := by decide +kernel
