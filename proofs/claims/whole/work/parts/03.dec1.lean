theorem dX0_init_0 : decode cX0_init 0 = .ok (.aload_n 0, 1) := by decide +kernel
theorem dX0_init_1 : decode cX0_init 1 = .ok (.invokespecial 5, 3) := by decide +kernel
theorem dX0_init_4 : decode cX0_init 4 = .ok (.aload_n 0, 1) := by decide +kernel
theorem dX0_init_5 : decode cX0_init 5 = .ok (.sipush 128, 3) := by decide +kernel
theorem dX0_init_8 : decode cX0_init 8 = .ok (.newarray .int, 2) := by decide +kernel
theorem dX0_init_10 : decode cX0_init 10 = .ok (.putfield 13, 3) := by decide +kernel
theorem dX0_init_13 : decode cX0_init 13 = .ok (.aload_n 0, 1) := by decide +kernel
theorem dX0_init_14 : decode cX0_init 14 = .ok (.sipush 128, 3) := by decide +kernel
theorem dX0_init_17 : decode cX0_init 17 = .ok (.newarray .int, 2) := by decide +kernel
theorem dX0_init_19 : decode cX0_init 19 = .ok (.putfield 17, 3) := by decide +kernel
theorem dX0_init_22 : decode cX0_init 22 = .ok (.return_, 1) := by decide +kernel
theorem dX0_partners_0 : decode cX0_partners 0 = .ok (.iconst 0, 1) := by decide +kernel
theorem dX0_partners_1 : decode cX0_partners 1 = .ok (.istore 4, 2) := by decide +kernel
theorem dX0_partners_3 : decode cX0_partners 3 = .ok (.iconst 0, 1) := by decide +kernel
theorem dX0_partners_4 : decode cX0_partners 4 = .ok (.istore 5, 2) := by decide +kernel
theorem dX0_partners_6 : decode cX0_partners 6 = .ok (.iload 5, 2) := by decide +kernel
theorem dX0_partners_8 : decode cX0_partners 8 = .ok (.aload_n 1, 1) := by decide +kernel
theorem dX0_partners_9 : decode cX0_partners 9 = .ok (.getfield 20, 3) := by decide +kernel
theorem dX0_partners_12 : decode cX0_partners 12 = .ok (.if_icmp .ge 35, 3) := by decide +kernel
theorem dX0_partners_15 : decode cX0_partners 15 = .ok (.iload 5, 2) := by decide +kernel
theorem dX0_partners_17 : decode cX0_partners 17 = .ok (.iload_n 3, 1) := by decide +kernel
theorem dX0_partners_18 : decode cX0_partners 18 = .ok (.if_icmp .eq 23, 3) := by decide +kernel
theorem dX0_partners_21 : decode cX0_partners 21 = .ok (.aload_n 2, 1) := by decide +kernel
theorem dX0_partners_22 : decode cX0_partners 22 = .ok (.aload_n 1, 1) := by decide +kernel
theorem dX0_partners_23 : decode cX0_partners 23 = .ok (.iload_n 3, 1) := by decide +kernel
theorem dX0_partners_24 : decode cX0_partners 24 = .ok (.iload 5, 2) := by decide +kernel
theorem dX0_partners_26 : decode cX0_partners 26 = .ok (.invokevirtual 24, 3) := by decide +kernel
theorem dX0_partners_29 : decode cX0_partners 29 = .ok (.ifCond .eq 12, 3) := by decide +kernel
theorem dX0_partners_32 : decode cX0_partners 32 = .ok (.iload 4, 2) := by decide +kernel
theorem dX0_partners_34 : decode cX0_partners 34 = .ok (.iconst 1, 1) := by decide +kernel
theorem dX0_partners_35 : decode cX0_partners 35 = .ok (.iload 5, 2) := by decide +kernel
theorem dX0_partners_37 : decode cX0_partners 37 = .ok (.ishl, 1) := by decide +kernel
theorem dX0_partners_38 : decode cX0_partners 38 = .ok (.ior, 1) := by decide +kernel
theorem dX0_partners_39 : decode cX0_partners 39 = .ok (.istore 4, 2) := by decide +kernel
theorem dX0_partners_41 : decode cX0_partners 41 = .ok (.iinc 5 1, 3) := by decide +kernel
theorem dX0_partners_44 : decode cX0_partners 44 = .ok (.goto (-38), 3) := by decide +kernel
theorem dX0_partners_47 : decode cX0_partners 47 = .ok (.iload 4, 2) := by decide +kernel
theorem dX0_partners_49 : decode cX0_partners 49 = .ok (.ireturn, 1) := by decide +kernel
theorem dX0_cheapest_0 : decode cX0_cheapest 0 = .ok (.aload_n 0, 1) := by decide +kernel
theorem dX0_cheapest_1 : decode cX0_cheapest 1 = .ok (.aload_n 1, 1) := by decide +kernel
theorem dX0_cheapest_2 : decode cX0_cheapest 2 = .ok (.aload_n 2, 1) := by decide +kernel
theorem dX0_cheapest_3 : decode cX0_cheapest 3 = .ok (.invokevirtual 30, 3) := by decide +kernel
theorem dX0_cheapest_6 : decode cX0_cheapest 6 = .ok (.aload_n 0, 1) := by decide +kernel
theorem dX0_cheapest_7 : decode cX0_cheapest 7 = .ok (.getfield 13, 3) := by decide +kernel
theorem dX0_cheapest_10 : decode cX0_cheapest 10 = .ok (.aload_n 2, 1) := by decide +kernel
theorem dX0_cheapest_11 : decode cX0_cheapest 11 = .ok (.aload_n 1, 1) := by decide +kernel
theorem dX0_cheapest_12 : decode cX0_cheapest 12 = .ok (.invokevirtual 34, 3) := by decide +kernel
theorem dX0_cheapest_15 : decode cX0_cheapest 15 = .ok (.iaload, 1) := by decide +kernel
theorem dX0_cheapest_16 : decode cX0_cheapest 16 = .ok (.ireturn, 1) := by decide +kernel
theorem dX0_cheapestRows_0 : decode cX0_cheapestRows 0 = .ok (.aload_n 0, 1) := by decide +kernel
theorem dX0_cheapestRows_1 : decode cX0_cheapestRows 1 = .ok (.aload_n 1, 1) := by decide +kernel
theorem dX0_cheapestRows_2 : decode cX0_cheapestRows 2 = .ok (.aload_n 2, 1) := by decide +kernel
theorem dX0_cheapestRows_3 : decode cX0_cheapestRows 3 = .ok (.invokevirtual 30, 3) := by decide +kernel
theorem dX0_cheapestRows_6 : decode cX0_cheapestRows 6 = .ok (.aload_n 0, 1) := by decide +kernel
theorem dX0_cheapestRows_7 : decode cX0_cheapestRows 7 = .ok (.getfield 17, 3) := by decide +kernel
theorem dX0_cheapestRows_10 : decode cX0_cheapestRows 10 = .ok (.aload_n 2, 1) := by decide +kernel
theorem dX0_cheapestRows_11 : decode cX0_cheapestRows 11 = .ok (.aload_n 1, 1) := by decide +kernel
theorem dX0_cheapestRows_12 : decode cX0_cheapestRows 12 = .ok (.invokevirtual 34, 3) := by decide +kernel
theorem dX0_cheapestRows_15 : decode cX0_cheapestRows 15 = .ok (.iaload, 1) := by decide +kernel
theorem dX0_cheapestRows_16 : decode cX0_cheapestRows 16 = .ok (.ireturn, 1) := by decide +kernel
theorem dX0_weighSets_0 : decode cX0_weighSets 0 = .ok (.aload_n 2, 1) := by decide +kernel
theorem dX0_weighSets_1 : decode cX0_weighSets 1 = .ok (.aload_n 1, 1) := by decide +kernel
theorem dX0_weighSets_2 : decode cX0_weighSets 2 = .ok (.invokevirtual 34, 3) := by decide +kernel
theorem dX0_weighSets_5 : decode cX0_weighSets 5 = .ok (.istore_n 3, 1) := by decide +kernel
theorem dX0_weighSets_6 : decode cX0_weighSets 6 = .ok (.aload_n 0, 1) := by decide +kernel
theorem dX0_weighSets_7 : decode cX0_weighSets 7 = .ok (.getfield 13, 3) := by decide +kernel
theorem dX0_weighSets_10 : decode cX0_weighSets 10 = .ok (.iconst 0, 1) := by decide +kernel
theorem dX0_weighSets_11 : decode cX0_weighSets 11 = .ok (.iconst 0, 1) := by decide +kernel
theorem dX0_weighSets_12 : decode cX0_weighSets 12 = .ok (.iastore, 1) := by decide +kernel
theorem dX0_weighSets_13 : decode cX0_weighSets 13 = .ok (.aload_n 0, 1) := by decide +kernel
theorem dX0_weighSets_14 : decode cX0_weighSets 14 = .ok (.getfield 17, 3) := by decide +kernel
theorem dX0_weighSets_17 : decode cX0_weighSets 17 = .ok (.iconst 0, 1) := by decide +kernel
theorem dX0_weighSets_18 : decode cX0_weighSets 18 = .ok (.iconst 1, 1) := by decide +kernel
theorem dX0_weighSets_19 : decode cX0_weighSets 19 = .ok (.iastore, 1) := by decide +kernel
theorem dX0_weighSets_20 : decode cX0_weighSets 20 = .ok (.iconst 1, 1) := by decide +kernel
theorem dX0_weighSets_21 : decode cX0_weighSets 21 = .ok (.istore 4, 2) := by decide +kernel
theorem dX0_weighSets_23 : decode cX0_weighSets 23 = .ok (.iload 4, 2) := by decide +kernel
theorem dX0_weighSets_25 : decode cX0_weighSets 25 = .ok (.iload_n 3, 1) := by decide +kernel
theorem dX0_weighSets_26 : decode cX0_weighSets 26 = .ok (.if_icmp .gt 26, 3) := by decide +kernel
theorem dX0_weighSets_29 : decode cX0_weighSets 29 = .ok (.iload 4, 2) := by decide +kernel
theorem dX0_weighSets_31 : decode cX0_weighSets 31 = .ok (.iload_n 3, 1) := by decide +kernel
theorem dX0_weighSets_32 : decode cX0_weighSets 32 = .ok (.iconst (-1), 1) := by decide +kernel
theorem dX0_weighSets_33 : decode cX0_weighSets 33 = .ok (.ixor, 1) := by decide +kernel
theorem dX0_weighSets_34 : decode cX0_weighSets 34 = .ok (.iand, 1) := by decide +kernel
theorem dX0_weighSets_35 : decode cX0_weighSets 35 = .ok (.ifCond .ne 11, 3) := by decide +kernel
theorem dX0_weighSets_38 : decode cX0_weighSets 38 = .ok (.aload_n 0, 1) := by decide +kernel
theorem dX0_weighSets_39 : decode cX0_weighSets 39 = .ok (.aload_n 1, 1) := by decide +kernel
theorem dX0_weighSets_40 : decode cX0_weighSets 40 = .ok (.aload_n 2, 1) := by decide +kernel
theorem dX0_weighSets_41 : decode cX0_weighSets 41 = .ok (.iload 4, 2) := by decide +kernel
theorem dX0_weighSets_43 : decode cX0_weighSets 43 = .ok (.invokevirtual 38, 3) := by decide +kernel
theorem dX0_weighSets_46 : decode cX0_weighSets 46 = .ok (.iinc 4 1, 3) := by decide +kernel
theorem dX0_weighSets_49 : decode cX0_weighSets 49 = .ok (.goto (-26), 3) := by decide +kernel
theorem dX0_weighSets_52 : decode cX0_weighSets 52 = .ok (.return_, 1) := by decide +kernel
theorem dX0_weigh_0 : decode cX0_weigh 0 = .ok (.iload_n 3, 1) := by decide +kernel
theorem dX0_weigh_1 : decode cX0_weigh 1 = .ok (.invokestatic 42, 3) := by decide +kernel
theorem dX0_weigh_4 : decode cX0_weigh 4 = .ok (.istore 4, 2) := by decide +kernel
theorem dX0_weigh_6 : decode cX0_weigh 6 = .ok (.iload_n 3, 1) := by decide +kernel
theorem dX0_weigh_7 : decode cX0_weigh 7 = .ok (.iload_n 3, 1) := by decide +kernel
theorem dX0_weigh_8 : decode cX0_weigh 8 = .ok (.iconst 1, 1) := by decide +kernel
theorem dX0_weigh_9 : decode cX0_weigh 9 = .ok (.isub, 1) := by decide +kernel
theorem dX0_weigh_10 : decode cX0_weigh 10 = .ok (.iand, 1) := by decide +kernel
theorem dX0_weigh_11 : decode cX0_weigh 11 = .ok (.istore 5, 2) := by decide +kernel
theorem dX0_weigh_13 : decode cX0_weigh 13 = .ok (.aload_n 0, 1) := by decide +kernel
theorem dX0_weigh_14 : decode cX0_weigh 14 = .ok (.getfield 13, 3) := by decide +kernel
theorem dX0_weigh_17 : decode cX0_weigh 17 = .ok (.iload_n 3, 1) := by decide +kernel
theorem dX0_weigh_18 : decode cX0_weigh 18 = .ok (.aload_n 2, 1) := by decide +kernel
theorem dX0_weigh_19 : decode cX0_weigh 19 = .ok (.aload_n 1, 1) := by decide +kernel
theorem dX0_weigh_20 : decode cX0_weigh 20 = .ok (.iload 4, 2) := by decide +kernel
theorem dX0_weigh_22 : decode cX0_weigh 22 = .ok (.invokevirtual 46, 3) := by decide +kernel
theorem dX0_weigh_25 : decode cX0_weigh 25 = .ok (.aload_n 0, 1) := by decide +kernel
theorem dX0_weigh_26 : decode cX0_weigh 26 = .ok (.getfield 13, 3) := by decide +kernel
theorem dX0_weigh_29 : decode cX0_weigh 29 = .ok (.iload 5, 2) := by decide +kernel
theorem dX0_weigh_31 : decode cX0_weigh 31 = .ok (.iaload, 1) := by decide +kernel
theorem dX0_weigh_32 : decode cX0_weigh 32 = .ok (.iadd, 1) := by decide +kernel
theorem dX0_weigh_33 : decode cX0_weigh 33 = .ok (.iastore, 1) := by decide +kernel
theorem dX0_weigh_34 : decode cX0_weigh 34 = .ok (.aload_n 0, 1) := by decide +kernel
theorem dX0_weigh_35 : decode cX0_weigh 35 = .ok (.getfield 17, 3) := by decide +kernel
theorem dX0_weigh_38 : decode cX0_weigh 38 = .ok (.iload_n 3, 1) := by decide +kernel
theorem dX0_weigh_39 : decode cX0_weigh 39 = .ok (.aload_n 0, 1) := by decide +kernel
theorem dX0_weigh_40 : decode cX0_weigh 40 = .ok (.getfield 17, 3) := by decide +kernel
theorem dX0_weigh_43 : decode cX0_weigh 43 = .ok (.iload 5, 2) := by decide +kernel
theorem dX0_weigh_45 : decode cX0_weigh 45 = .ok (.iaload, 1) := by decide +kernel
theorem dX0_weigh_46 : decode cX0_weigh 46 = .ok (.iastore, 1) := by decide +kernel
theorem dX0_weigh_47 : decode cX0_weigh 47 = .ok (.iload 4, 2) := by decide +kernel
theorem dX0_weigh_49 : decode cX0_weigh 49 = .ok (.iconst 1, 1) := by decide +kernel
theorem dX0_weigh_50 : decode cX0_weigh 50 = .ok (.iadd, 1) := by decide +kernel
theorem dX0_weigh_51 : decode cX0_weigh 51 = .ok (.istore 6, 2) := by decide +kernel
theorem dX0_weigh_53 : decode cX0_weigh 53 = .ok (.iload 6, 2) := by decide +kernel
theorem dX0_weigh_55 : decode cX0_weigh 55 = .ok (.aload_n 1, 1) := by decide +kernel
theorem dX0_weigh_56 : decode cX0_weigh 56 = .ok (.getfield 20, 3) := by decide +kernel
theorem dX0_weigh_59 : decode cX0_weigh 59 = .ok (.if_icmp .ge 126, 3) := by decide +kernel
theorem dX0_weigh_62 : decode cX0_weigh 62 = .ok (.iload 5, 2) := by decide +kernel
theorem dX0_weigh_64 : decode cX0_weigh 64 = .ok (.iload 6, 2) := by decide +kernel
theorem dX0_weigh_66 : decode cX0_weigh 66 = .ok (.ishr, 1) := by decide +kernel
theorem dX0_weigh_67 : decode cX0_weigh 67 = .ok (.iconst 1, 1) := by decide +kernel
theorem dX0_weigh_68 : decode cX0_weigh 68 = .ok (.iand, 1) := by decide +kernel
theorem dX0_weigh_69 : decode cX0_weigh 69 = .ok (.ifCond .eq 110, 3) := by decide +kernel
theorem dX0_weigh_72 : decode cX0_weigh 72 = .ok (.aload_n 2, 1) := by decide +kernel
theorem dX0_weigh_73 : decode cX0_weigh 73 = .ok (.aload_n 1, 1) := by decide +kernel
theorem dX0_weigh_74 : decode cX0_weigh 74 = .ok (.iload 4, 2) := by decide +kernel
theorem dX0_weigh_76 : decode cX0_weigh 76 = .ok (.iload 6, 2) := by decide +kernel
theorem dX0_weigh_78 : decode cX0_weigh 78 = .ok (.invokevirtual 24, 3) := by decide +kernel
theorem dX0_weigh_81 : decode cX0_weigh 81 = .ok (.ifCond .ne 6, 3) := by decide +kernel
theorem dX0_weigh_84 : decode cX0_weigh 84 = .ok (.goto 95, 3) := by decide +kernel
theorem dX0_weigh_87 : decode cX0_weigh 87 = .ok (.iload 5, 2) := by decide +kernel
theorem dX0_weigh_89 : decode cX0_weigh 89 = .ok (.iconst 1, 1) := by decide +kernel
theorem dX0_weigh_90 : decode cX0_weigh 90 = .ok (.iload 6, 2) := by decide +kernel
theorem dX0_weigh_92 : decode cX0_weigh 92 = .ok (.ishl, 1) := by decide +kernel
theorem dX0_weigh_93 : decode cX0_weigh 93 = .ok (.iconst (-1), 1) := by decide +kernel
theorem dX0_weigh_94 : decode cX0_weigh 94 = .ok (.ixor, 1) := by decide +kernel
theorem dX0_weigh_95 : decode cX0_weigh 95 = .ok (.iand, 1) := by decide +kernel
theorem dX0_weigh_96 : decode cX0_weigh 96 = .ok (.istore 7, 2) := by decide +kernel
theorem dX0_weigh_98 : decode cX0_weigh 98 = .ok (.aload_n 2, 1) := by decide +kernel
theorem dX0_weigh_99 : decode cX0_weigh 99 = .ok (.aload_n 1, 1) := by decide +kernel
theorem dX0_weigh_100 : decode cX0_weigh 100 = .ok (.iload 4, 2) := by decide +kernel
theorem dX0_weigh_102 : decode cX0_weigh 102 = .ok (.iload 6, 2) := by decide +kernel
theorem dX0_weigh_104 : decode cX0_weigh 104 = .ok (.invokevirtual 50, 3) := by decide +kernel
theorem dX0_weigh_107 : decode cX0_weigh 107 = .ok (.aload_n 0, 1) := by decide +kernel
theorem dX0_weigh_108 : decode cX0_weigh 108 = .ok (.getfield 13, 3) := by decide +kernel
theorem dX0_weigh_111 : decode cX0_weigh 111 = .ok (.iload 7, 2) := by decide +kernel
theorem dX0_weigh_113 : decode cX0_weigh 113 = .ok (.iaload, 1) := by decide +kernel
theorem dX0_weigh_114 : decode cX0_weigh 114 = .ok (.iadd, 1) := by decide +kernel
theorem dX0_weigh_115 : decode cX0_weigh 115 = .ok (.istore 8, 2) := by decide +kernel
theorem dX0_weigh_117 : decode cX0_weigh 117 = .ok (.iload 8, 2) := by decide +kernel
theorem dX0_weigh_119 : decode cX0_weigh 119 = .ok (.aload_n 0, 1) := by decide +kernel
theorem dX0_weigh_120 : decode cX0_weigh 120 = .ok (.getfield 13, 3) := by decide +kernel
theorem dX0_weigh_123 : decode cX0_weigh 123 = .ok (.iload_n 3, 1) := by decide +kernel
theorem dX0_weigh_124 : decode cX0_weigh 124 = .ok (.iaload, 1) := by decide +kernel
theorem dX0_weigh_125 : decode cX0_weigh 125 = .ok (.if_icmp .ge 27, 3) := by decide +kernel
theorem dX0_weigh_128 : decode cX0_weigh 128 = .ok (.aload_n 0, 1) := by decide +kernel
theorem dX0_weigh_129 : decode cX0_weigh 129 = .ok (.getfield 13, 3) := by decide +kernel
theorem dX0_weigh_132 : decode cX0_weigh 132 = .ok (.iload_n 3, 1) := by decide +kernel
theorem dX0_weigh_133 : decode cX0_weigh 133 = .ok (.iload 8, 2) := by decide +kernel
theorem dX0_weigh_135 : decode cX0_weigh 135 = .ok (.iastore, 1) := by decide +kernel
theorem dX0_weigh_136 : decode cX0_weigh 136 = .ok (.aload_n 0, 1) := by decide +kernel
theorem dX0_weigh_137 : decode cX0_weigh 137 = .ok (.getfield 17, 3) := by decide +kernel
theorem dX0_weigh_140 : decode cX0_weigh 140 = .ok (.iload_n 3, 1) := by decide +kernel
theorem dX0_weigh_141 : decode cX0_weigh 141 = .ok (.aload_n 0, 1) := by decide +kernel
theorem dX0_weigh_142 : decode cX0_weigh 142 = .ok (.getfield 17, 3) := by decide +kernel
theorem dX0_weigh_145 : decode cX0_weigh 145 = .ok (.iload 7, 2) := by decide +kernel
theorem dX0_weigh_147 : decode cX0_weigh 147 = .ok (.iaload, 1) := by decide +kernel
theorem dX0_weigh_148 : decode cX0_weigh 148 = .ok (.iastore, 1) := by decide +kernel
theorem dX0_weigh_149 : decode cX0_weigh 149 = .ok (.goto 30, 3) := by decide +kernel
theorem dX0_weigh_152 : decode cX0_weigh 152 = .ok (.iload 8, 2) := by decide +kernel
theorem dX0_weigh_154 : decode cX0_weigh 154 = .ok (.aload_n 0, 1) := by decide +kernel
theorem dX0_weigh_155 : decode cX0_weigh 155 = .ok (.getfield 13, 3) := by decide +kernel
theorem dX0_weigh_158 : decode cX0_weigh 158 = .ok (.iload_n 3, 1) := by decide +kernel
theorem dX0_weigh_159 : decode cX0_weigh 159 = .ok (.iaload, 1) := by decide +kernel
theorem dX0_weigh_160 : decode cX0_weigh 160 = .ok (.if_icmp .ne 19, 3) := by decide +kernel
theorem dX0_weigh_163 : decode cX0_weigh 163 = .ok (.aload_n 0, 1) := by decide +kernel
theorem dX0_weigh_164 : decode cX0_weigh 164 = .ok (.getfield 17, 3) := by decide +kernel
theorem dX0_weigh_167 : decode cX0_weigh 167 = .ok (.iload_n 3, 1) := by decide +kernel
theorem dX0_weigh_168 : decode cX0_weigh 168 = .ok (.dup2, 1) := by decide +kernel
theorem dX0_weigh_169 : decode cX0_weigh 169 = .ok (.iaload, 1) := by decide +kernel
theorem dX0_weigh_170 : decode cX0_weigh 170 = .ok (.aload_n 0, 1) := by decide +kernel
theorem dX0_weigh_171 : decode cX0_weigh 171 = .ok (.getfield 17, 3) := by decide +kernel
theorem dX0_weigh_174 : decode cX0_weigh 174 = .ok (.iload 7, 2) := by decide +kernel
theorem dX0_weigh_176 : decode cX0_weigh 176 = .ok (.iaload, 1) := by decide +kernel
theorem dX0_weigh_177 : decode cX0_weigh 177 = .ok (.iadd, 1) := by decide +kernel
theorem dX0_weigh_178 : decode cX0_weigh 178 = .ok (.iastore, 1) := by decide +kernel
theorem dX0_weigh_179 : decode cX0_weigh 179 = .ok (.iinc 6 1, 3) := by decide +kernel
theorem dX0_weigh_182 : decode cX0_weigh 182 = .ok (.goto (-129), 3) := by decide +kernel
theorem dX0_weigh_185 : decode cX0_weigh 185 = .ok (.return_, 1) := by decide +kernel
theorem dX0_partnerOf_0 : decode cX0_partnerOf 0 = .ok (.aload_n 2, 1) := by decide +kernel
theorem dX0_partnerOf_1 : decode cX0_partnerOf 1 = .ok (.iload_n 3, 1) := by decide +kernel
theorem dX0_partnerOf_2 : decode cX0_partnerOf 2 = .ok (.invokevirtual 54, 3) := by decide +kernel
theorem dX0_partnerOf_5 : decode cX0_partnerOf 5 = .ok (.ifCond .eq 6, 3) := by decide +kernel
theorem dX0_partnerOf_8 : decode cX0_partnerOf 8 = .ok (.bipush (-2), 2) := by decide +kernel
theorem dX0_partnerOf_10 : decode cX0_partnerOf 10 = .ok (.ireturn, 1) := by decide +kernel
theorem dX0_partnerOf_11 : decode cX0_partnerOf 11 = .ok (.aload_n 0, 1) := by decide +kernel
theorem dX0_partnerOf_12 : decode cX0_partnerOf 12 = .ok (.aload_n 1, 1) := by decide +kernel
theorem dX0_partnerOf_13 : decode cX0_partnerOf 13 = .ok (.aload_n 2, 1) := by decide +kernel
theorem dX0_partnerOf_14 : decode cX0_partnerOf 14 = .ok (.invokevirtual 30, 3) := by decide +kernel
theorem dX0_partnerOf_17 : decode cX0_partnerOf 17 = .ok (.aload_n 2, 1) := by decide +kernel
theorem dX0_partnerOf_18 : decode cX0_partnerOf 18 = .ok (.aload_n 1, 1) := by decide +kernel
theorem dX0_partnerOf_19 : decode cX0_partnerOf 19 = .ok (.invokevirtual 34, 3) := by decide +kernel
theorem dX0_partnerOf_22 : decode cX0_partnerOf 22 = .ok (.istore 4, 2) := by decide +kernel
theorem dX0_partnerOf_24 : decode cX0_partnerOf 24 = .ok (.iconst 0, 1) := by decide +kernel
theorem dX0_partnerOf_25 : decode cX0_partnerOf 25 = .ok (.istore 5, 2) := by decide +kernel
theorem dX0_partnerOf_27 : decode cX0_partnerOf 27 = .ok (.iload 5, 2) := by decide +kernel
theorem dX0_partnerOf_29 : decode cX0_partnerOf 29 = .ok (.bipush 7, 2) := by decide +kernel
theorem dX0_partnerOf_31 : decode cX0_partnerOf 31 = .ok (.if_icmp .ge 76, 3) := by decide +kernel
theorem dX0_partnerOf_34 : decode cX0_partnerOf 34 = .ok (.iload 4, 2) := by decide +kernel
theorem dX0_partnerOf_36 : decode cX0_partnerOf 36 = .ok (.ifCond .eq 71, 3) := by decide +kernel
theorem dX0_partnerOf_39 : decode cX0_partnerOf 39 = .ok (.iload 4, 2) := by decide +kernel
theorem dX0_partnerOf_41 : decode cX0_partnerOf 41 = .ok (.invokestatic 42, 3) := by decide +kernel
theorem dX0_partnerOf_44 : decode cX0_partnerOf 44 = .ok (.istore 6, 2) := by decide +kernel
theorem dX0_partnerOf_46 : decode cX0_partnerOf 46 = .ok (.aload_n 0, 1) := by decide +kernel
theorem dX0_partnerOf_47 : decode cX0_partnerOf 47 = .ok (.aload_n 1, 1) := by decide +kernel
theorem dX0_partnerOf_48 : decode cX0_partnerOf 48 = .ok (.aload_n 2, 1) := by decide +kernel
theorem dX0_partnerOf_49 : decode cX0_partnerOf 49 = .ok (.iload 4, 2) := by decide +kernel
theorem dX0_partnerOf_51 : decode cX0_partnerOf 51 = .ok (.iload 6, 2) := by decide +kernel
theorem dX0_partnerOf_53 : decode cX0_partnerOf 53 = .ok (.invokevirtual 58, 3) := by decide +kernel
theorem dX0_partnerOf_56 : decode cX0_partnerOf 56 = .ok (.istore 7, 2) := by decide +kernel
theorem dX0_partnerOf_58 : decode cX0_partnerOf 58 = .ok (.iload 6, 2) := by decide +kernel
theorem dX0_partnerOf_60 : decode cX0_partnerOf 60 = .ok (.iload_n 3, 1) := by decide +kernel
theorem dX0_partnerOf_61 : decode cX0_partnerOf 61 = .ok (.if_icmp .ne 6, 3) := by decide +kernel
theorem dX0_partnerOf_64 : decode cX0_partnerOf 64 = .ok (.iload 7, 2) := by decide +kernel
theorem dX0_partnerOf_66 : decode cX0_partnerOf 66 = .ok (.ireturn, 1) := by decide +kernel
theorem dX0_partnerOf_67 : decode cX0_partnerOf 67 = .ok (.iload 7, 2) := by decide +kernel
theorem dX0_partnerOf_69 : decode cX0_partnerOf 69 = .ok (.iload_n 3, 1) := by decide +kernel
theorem dX0_partnerOf_70 : decode cX0_partnerOf 70 = .ok (.if_icmp .ne 6, 3) := by decide +kernel
theorem dX0_partnerOf_73 : decode cX0_partnerOf 73 = .ok (.iload 6, 2) := by decide +kernel
theorem dX0_partnerOf_75 : decode cX0_partnerOf 75 = .ok (.ireturn, 1) := by decide +kernel
theorem dX0_partnerOf_76 : decode cX0_partnerOf 76 = .ok (.iload 4, 2) := by decide +kernel
theorem dX0_partnerOf_78 : decode cX0_partnerOf 78 = .ok (.iload 4, 2) := by decide +kernel
theorem dX0_partnerOf_80 : decode cX0_partnerOf 80 = .ok (.iconst 1, 1) := by decide +kernel
theorem dX0_partnerOf_81 : decode cX0_partnerOf 81 = .ok (.isub, 1) := by decide +kernel
theorem dX0_partnerOf_82 : decode cX0_partnerOf 82 = .ok (.iand, 1) := by decide +kernel
theorem dX0_partnerOf_83 : decode cX0_partnerOf 83 = .ok (.istore 4, 2) := by decide +kernel
theorem dX0_partnerOf_85 : decode cX0_partnerOf 85 = .ok (.iload 7, 2) := by decide +kernel
theorem dX0_partnerOf_87 : decode cX0_partnerOf 87 = .ok (.ifCond .lt 14, 3) := by decide +kernel
theorem dX0_partnerOf_90 : decode cX0_partnerOf 90 = .ok (.iload 4, 2) := by decide +kernel
theorem dX0_partnerOf_92 : decode cX0_partnerOf 92 = .ok (.iconst 1, 1) := by decide +kernel
theorem dX0_partnerOf_93 : decode cX0_partnerOf 93 = .ok (.iload 7, 2) := by decide +kernel
theorem dX0_partnerOf_95 : decode cX0_partnerOf 95 = .ok (.ishl, 1) := by decide +kernel
theorem dX0_partnerOf_96 : decode cX0_partnerOf 96 = .ok (.iconst (-1), 1) := by decide +kernel
theorem dX0_partnerOf_97 : decode cX0_partnerOf 97 = .ok (.ixor, 1) := by decide +kernel
theorem dX0_partnerOf_98 : decode cX0_partnerOf 98 = .ok (.iand, 1) := by decide +kernel
theorem dX0_partnerOf_99 : decode cX0_partnerOf 99 = .ok (.istore 4, 2) := by decide +kernel
theorem dX0_partnerOf_101 : decode cX0_partnerOf 101 = .ok (.iinc 5 1, 3) := by decide +kernel
theorem dX0_partnerOf_104 : decode cX0_partnerOf 104 = .ok (.goto (-77), 3) := by decide +kernel
theorem dX0_partnerOf_107 : decode cX0_partnerOf 107 = .ok (.bipush (-2), 2) := by decide +kernel
theorem dX0_partnerOf_109 : decode cX0_partnerOf 109 = .ok (.ireturn, 1) := by decide +kernel
theorem dX0_firstPartner_0 : decode cX0_firstPartner 0 = .ok (.iload_n 3, 1) := by decide +kernel
theorem dX0_firstPartner_1 : decode cX0_firstPartner 1 = .ok (.iload_n 3, 1) := by decide +kernel
theorem dX0_firstPartner_2 : decode cX0_firstPartner 2 = .ok (.iconst 1, 1) := by decide +kernel
theorem dX0_firstPartner_3 : decode cX0_firstPartner 3 = .ok (.isub, 1) := by decide +kernel
theorem dX0_firstPartner_4 : decode cX0_firstPartner 4 = .ok (.iand, 1) := by decide +kernel
theorem dX0_firstPartner_5 : decode cX0_firstPartner 5 = .ok (.istore 5, 2) := by decide +kernel
theorem dX0_firstPartner_7 : decode cX0_firstPartner 7 = .ok (.aload_n 2, 1) := by decide +kernel
theorem dX0_firstPartner_8 : decode cX0_firstPartner 8 = .ok (.aload_n 1, 1) := by decide +kernel
theorem dX0_firstPartner_9 : decode cX0_firstPartner 9 = .ok (.iload 4, 2) := by decide +kernel
theorem dX0_firstPartner_11 : decode cX0_firstPartner 11 = .ok (.invokevirtual 46, 3) := by decide +kernel
theorem dX0_firstPartner_14 : decode cX0_firstPartner 14 = .ok (.aload_n 0, 1) := by decide +kernel
theorem dX0_firstPartner_15 : decode cX0_firstPartner 15 = .ok (.getfield 13, 3) := by decide +kernel
theorem dX0_firstPartner_18 : decode cX0_firstPartner 18 = .ok (.iload 5, 2) := by decide +kernel
theorem dX0_firstPartner_20 : decode cX0_firstPartner 20 = .ok (.iaload, 1) := by decide +kernel
theorem dX0_firstPartner_21 : decode cX0_firstPartner 21 = .ok (.iadd, 1) := by decide +kernel
theorem dX0_firstPartner_22 : decode cX0_firstPartner 22 = .ok (.aload_n 0, 1) := by decide +kernel
theorem dX0_firstPartner_23 : decode cX0_firstPartner 23 = .ok (.getfield 13, 3) := by decide +kernel
theorem dX0_firstPartner_26 : decode cX0_firstPartner 26 = .ok (.iload_n 3, 1) := by decide +kernel
theorem dX0_firstPartner_27 : decode cX0_firstPartner 27 = .ok (.iaload, 1) := by decide +kernel
theorem dX0_firstPartner_28 : decode cX0_firstPartner 28 = .ok (.if_icmp .ne 6, 3) := by decide +kernel
theorem dX0_firstPartner_31 : decode cX0_firstPartner 31 = .ok (.bipush (-2), 2) := by decide +kernel
theorem dX0_firstPartner_33 : decode cX0_firstPartner 33 = .ok (.ireturn, 1) := by decide +kernel
theorem dX0_firstPartner_34 : decode cX0_firstPartner 34 = .ok (.iload 4, 2) := by decide +kernel
theorem dX0_firstPartner_36 : decode cX0_firstPartner 36 = .ok (.iconst 1, 1) := by decide +kernel
theorem dX0_firstPartner_37 : decode cX0_firstPartner 37 = .ok (.iadd, 1) := by decide +kernel
theorem dX0_firstPartner_38 : decode cX0_firstPartner 38 = .ok (.istore 6, 2) := by decide +kernel
theorem dX0_firstPartner_40 : decode cX0_firstPartner 40 = .ok (.iload 6, 2) := by decide +kernel
theorem dX0_firstPartner_42 : decode cX0_firstPartner 42 = .ok (.aload_n 1, 1) := by decide +kernel
theorem dX0_firstPartner_43 : decode cX0_firstPartner 43 = .ok (.getfield 20, 3) := by decide +kernel
theorem dX0_firstPartner_46 : decode cX0_firstPartner 46 = .ok (.if_icmp .ge 67, 3) := by decide +kernel
theorem dX0_firstPartner_49 : decode cX0_firstPartner 49 = .ok (.iload 5, 2) := by decide +kernel
theorem dX0_firstPartner_51 : decode cX0_firstPartner 51 = .ok (.iload 6, 2) := by decide +kernel
theorem dX0_firstPartner_53 : decode cX0_firstPartner 53 = .ok (.ishr, 1) := by decide +kernel
theorem dX0_firstPartner_54 : decode cX0_firstPartner 54 = .ok (.iconst 1, 1) := by decide +kernel
theorem dX0_firstPartner_55 : decode cX0_firstPartner 55 = .ok (.iand, 1) := by decide +kernel
theorem dX0_firstPartner_56 : decode cX0_firstPartner 56 = .ok (.ifCond .eq 51, 3) := by decide +kernel
theorem dX0_firstPartner_59 : decode cX0_firstPartner 59 = .ok (.aload_n 2, 1) := by decide +kernel
theorem dX0_firstPartner_60 : decode cX0_firstPartner 60 = .ok (.aload_n 1, 1) := by decide +kernel
theorem dX0_firstPartner_61 : decode cX0_firstPartner 61 = .ok (.iload 4, 2) := by decide +kernel
theorem dX0_firstPartner_63 : decode cX0_firstPartner 63 = .ok (.iload 6, 2) := by decide +kernel
theorem dX0_firstPartner_65 : decode cX0_firstPartner 65 = .ok (.invokevirtual 24, 3) := by decide +kernel
theorem dX0_firstPartner_68 : decode cX0_firstPartner 68 = .ok (.ifCond .eq 39, 3) := by decide +kernel
theorem dX0_firstPartner_71 : decode cX0_firstPartner 71 = .ok (.aload_n 2, 1) := by decide +kernel
theorem dX0_firstPartner_72 : decode cX0_firstPartner 72 = .ok (.aload_n 1, 1) := by decide +kernel
theorem dX0_firstPartner_73 : decode cX0_firstPartner 73 = .ok (.iload 4, 2) := by decide +kernel
theorem dX0_firstPartner_75 : decode cX0_firstPartner 75 = .ok (.iload 6, 2) := by decide +kernel
theorem dX0_firstPartner_77 : decode cX0_firstPartner 77 = .ok (.invokevirtual 50, 3) := by decide +kernel
theorem dX0_firstPartner_80 : decode cX0_firstPartner 80 = .ok (.aload_n 0, 1) := by decide +kernel
theorem dX0_firstPartner_81 : decode cX0_firstPartner 81 = .ok (.getfield 13, 3) := by decide +kernel
theorem dX0_firstPartner_84 : decode cX0_firstPartner 84 = .ok (.iload 5, 2) := by decide +kernel
theorem dX0_firstPartner_86 : decode cX0_firstPartner 86 = .ok (.iconst 1, 1) := by decide +kernel
theorem dX0_firstPartner_87 : decode cX0_firstPartner 87 = .ok (.iload 6, 2) := by decide +kernel
theorem dX0_firstPartner_89 : decode cX0_firstPartner 89 = .ok (.ishl, 1) := by decide +kernel
theorem dX0_firstPartner_90 : decode cX0_firstPartner 90 = .ok (.iconst (-1), 1) := by decide +kernel
theorem dX0_firstPartner_91 : decode cX0_firstPartner 91 = .ok (.ixor, 1) := by decide +kernel
theorem dX0_firstPartner_92 : decode cX0_firstPartner 92 = .ok (.iand, 1) := by decide +kernel
theorem dX0_firstPartner_93 : decode cX0_firstPartner 93 = .ok (.iaload, 1) := by decide +kernel
theorem dX0_firstPartner_94 : decode cX0_firstPartner 94 = .ok (.iadd, 1) := by decide +kernel
theorem dX0_firstPartner_95 : decode cX0_firstPartner 95 = .ok (.aload_n 0, 1) := by decide +kernel
theorem dX0_firstPartner_96 : decode cX0_firstPartner 96 = .ok (.getfield 13, 3) := by decide +kernel
theorem dX0_firstPartner_99 : decode cX0_firstPartner 99 = .ok (.iload_n 3, 1) := by decide +kernel
theorem dX0_firstPartner_100 : decode cX0_firstPartner 100 = .ok (.iaload, 1) := by decide +kernel
theorem dX0_firstPartner_101 : decode cX0_firstPartner 101 = .ok (.if_icmp .ne 6, 3) := by decide +kernel
theorem dX0_firstPartner_104 : decode cX0_firstPartner 104 = .ok (.iload 6, 2) := by decide +kernel
theorem dX0_firstPartner_106 : decode cX0_firstPartner 106 = .ok (.ireturn, 1) := by decide +kernel
theorem dX0_firstPartner_107 : decode cX0_firstPartner 107 = .ok (.iinc 6 1, 3) := by decide +kernel
theorem dX0_firstPartner_110 : decode cX0_firstPartner 110 = .ok (.goto (-70), 3) := by decide +kernel
theorem dX0_firstPartner_113 : decode cX0_firstPartner 113 = .ok (.bipush (-2), 2) := by decide +kernel
theorem dX0_firstPartner_115 : decode cX0_firstPartner 115 = .ok (.ireturn, 1) := by decide +kernel
theorem dX0_firstOf_0 : decode cX0_firstOf 0 = .ok (.iload_n 0, 1) := by decide +kernel
theorem dX0_firstOf_1 : decode cX0_firstOf 1 = .ok (.iload_n 0, 1) := by decide +kernel
theorem dX0_firstOf_2 : decode cX0_firstOf 2 = .ok (.ineg, 1) := by decide +kernel
theorem dX0_firstOf_3 : decode cX0_firstOf 3 = .ok (.iand, 1) := by decide +kernel
theorem dX0_firstOf_4 : decode cX0_firstOf 4 = .ok (.iconst 1, 1) := by decide +kernel
theorem dX0_firstOf_5 : decode cX0_firstOf 5 = .ok (.isub, 1) := by decide +kernel
theorem dX0_firstOf_6 : decode cX0_firstOf 6 = .ok (.invokestatic 62, 3) := by decide +kernel
theorem dX0_firstOf_9 : decode cX0_firstOf 9 = .ok (.ireturn, 1) := by decide +kernel
theorem dX0_largestSet_0 : decode cX0_largestSet 0 = .ok (.iconst 0, 1) := by decide +kernel
theorem dX0_largestSet_1 : decode cX0_largestSet 1 = .ok (.istore 5, 2) := by decide +kernel
theorem dX0_largestSet_3 : decode cX0_largestSet 3 = .ok (.iconst 0, 1) := by decide +kernel
theorem dX0_largestSet_4 : decode cX0_largestSet 4 = .ok (.istore 6, 2) := by decide +kernel
theorem dX0_largestSet_6 : decode cX0_largestSet 6 = .ok (.iconst 1, 1) := by decide +kernel
theorem dX0_largestSet_7 : decode cX0_largestSet 7 = .ok (.istore 7, 2) := by decide +kernel
theorem dX0_largestSet_9 : decode cX0_largestSet 9 = .ok (.iload 7, 2) := by decide +kernel
theorem dX0_largestSet_11 : decode cX0_largestSet 11 = .ok (.iload_n 3, 1) := by decide +kernel
theorem dX0_largestSet_12 : decode cX0_largestSet 12 = .ok (.if_icmp .gt 75, 3) := by decide +kernel
theorem dX0_largestSet_15 : decode cX0_largestSet 15 = .ok (.iload 7, 2) := by decide +kernel
theorem dX0_largestSet_17 : decode cX0_largestSet 17 = .ok (.iload_n 3, 1) := by decide +kernel
theorem dX0_largestSet_18 : decode cX0_largestSet 18 = .ok (.iconst (-1), 1) := by decide +kernel
theorem dX0_largestSet_19 : decode cX0_largestSet 19 = .ok (.ixor, 1) := by decide +kernel
theorem dX0_largestSet_20 : decode cX0_largestSet 20 = .ok (.iand, 1) := by decide +kernel
theorem dX0_largestSet_21 : decode cX0_largestSet 21 = .ok (.ifCond .eq 6, 3) := by decide +kernel
theorem dX0_largestSet_24 : decode cX0_largestSet 24 = .ok (.goto 57, 3) := by decide +kernel
theorem dX0_largestSet_27 : decode cX0_largestSet 27 = .ok (.aload_n 1, 1) := by decide +kernel
theorem dX0_largestSet_28 : decode cX0_largestSet 28 = .ok (.aload_n 2, 1) := by decide +kernel
theorem dX0_largestSet_29 : decode cX0_largestSet 29 = .ok (.iload 7, 2) := by decide +kernel
theorem dX0_largestSet_31 : decode cX0_largestSet 31 = .ok (.invokestatic 67, 3) := by decide +kernel
theorem dX0_largestSet_34 : decode cX0_largestSet 34 = .ok (.istore 8, 2) := by decide +kernel
theorem dX0_largestSet_36 : decode cX0_largestSet 36 = .ok (.iload 7, 2) := by decide +kernel
theorem dX0_largestSet_38 : decode cX0_largestSet 38 = .ok (.invokestatic 62, 3) := by decide +kernel
theorem dX0_largestSet_41 : decode cX0_largestSet 41 = .ok (.iload 5, 2) := by decide +kernel
theorem dX0_largestSet_43 : decode cX0_largestSet 43 = .ok (.invokestatic 62, 3) := by decide +kernel
theorem dX0_largestSet_46 : decode cX0_largestSet 46 = .ok (.isub, 1) := by decide +kernel
theorem dX0_largestSet_47 : decode cX0_largestSet 47 = .ok (.istore 9, 2) := by decide +kernel
theorem dX0_largestSet_49 : decode cX0_largestSet 49 = .ok (.iload 8, 2) := by decide +kernel
theorem dX0_largestSet_51 : decode cX0_largestSet 51 = .ok (.iload 4, 2) := by decide +kernel
theorem dX0_largestSet_53 : decode cX0_largestSet 53 = .ok (.if_icmp .gt 28, 3) := by decide +kernel
theorem dX0_largestSet_56 : decode cX0_largestSet 56 = .ok (.iload 9, 2) := by decide +kernel
theorem dX0_largestSet_58 : decode cX0_largestSet 58 = .ok (.ifCond .gt 15, 3) := by decide +kernel
theorem dX0_largestSet_61 : decode cX0_largestSet 61 = .ok (.iload 9, 2) := by decide +kernel
theorem dX0_largestSet_63 : decode cX0_largestSet 63 = .ok (.ifCond .ne 18, 3) := by decide +kernel
theorem dX0_largestSet_66 : decode cX0_largestSet 66 = .ok (.iload 8, 2) := by decide +kernel
theorem dX0_largestSet_68 : decode cX0_largestSet 68 = .ok (.iload 6, 2) := by decide +kernel
theorem dX0_largestSet_70 : decode cX0_largestSet 70 = .ok (.if_icmp .ge 11, 3) := by decide +kernel
theorem dX0_largestSet_73 : decode cX0_largestSet 73 = .ok (.iload 7, 2) := by decide +kernel
theorem dX0_largestSet_75 : decode cX0_largestSet 75 = .ok (.istore 5, 2) := by decide +kernel
theorem dX0_largestSet_77 : decode cX0_largestSet 77 = .ok (.iload 8, 2) := by decide +kernel
theorem dX0_largestSet_79 : decode cX0_largestSet 79 = .ok (.istore 6, 2) := by decide +kernel
theorem dX0_largestSet_81 : decode cX0_largestSet 81 = .ok (.iinc 7 1, 3) := by decide +kernel
theorem dX0_largestSet_84 : decode cX0_largestSet 84 = .ok (.goto (-75), 3) := by decide +kernel
theorem dX0_largestSet_87 : decode cX0_largestSet 87 = .ok (.iload 5, 2) := by decide +kernel
theorem dX0_largestSet_89 : decode cX0_largestSet 89 = .ok (.ireturn, 1) := by decide +kernel
theorem dX0_cheapestSet_0 : decode cX0_cheapestSet 0 = .ok (.aload_n 2, 1) := by decide +kernel
theorem dX0_cheapestSet_1 : decode cX0_cheapestSet 1 = .ok (.aload_n 1, 1) := by decide +kernel
theorem dX0_cheapestSet_2 : decode cX0_cheapestSet 2 = .ok (.invokevirtual 34, 3) := by decide +kernel
theorem dX0_cheapestSet_5 : decode cX0_cheapestSet 5 = .ok (.istore 4, 2) := by decide +kernel
theorem dX0_cheapestSet_7 : decode cX0_cheapestSet 7 = .ok (.bipush (-2), 2) := by decide +kernel
theorem dX0_cheapestSet_9 : decode cX0_cheapestSet 9 = .ok (.istore 5, 2) := by decide +kernel
theorem dX0_cheapestSet_11 : decode cX0_cheapestSet 11 = .ok (.iconst 0, 1) := by decide +kernel
theorem dX0_cheapestSet_12 : decode cX0_cheapestSet 12 = .ok (.istore 6, 2) := by decide +kernel
theorem dX0_cheapestSet_14 : decode cX0_cheapestSet 14 = .ok (.iload 6, 2) := by decide +kernel
theorem dX0_cheapestSet_16 : decode cX0_cheapestSet 16 = .ok (.iload 4, 2) := by decide +kernel
theorem dX0_cheapestSet_18 : decode cX0_cheapestSet 18 = .ok (.if_icmp .gt 58, 3) := by decide +kernel
theorem dX0_cheapestSet_21 : decode cX0_cheapestSet 21 = .ok (.iload 6, 2) := by decide +kernel
theorem dX0_cheapestSet_23 : decode cX0_cheapestSet 23 = .ok (.iload 4, 2) := by decide +kernel
theorem dX0_cheapestSet_25 : decode cX0_cheapestSet 25 = .ok (.iconst (-1), 1) := by decide +kernel
theorem dX0_cheapestSet_26 : decode cX0_cheapestSet 26 = .ok (.ixor, 1) := by decide +kernel
theorem dX0_cheapestSet_27 : decode cX0_cheapestSet 27 = .ok (.iand, 1) := by decide +kernel
theorem dX0_cheapestSet_28 : decode cX0_cheapestSet 28 = .ok (.ifCond .ne 42, 3) := by decide +kernel
theorem dX0_cheapestSet_31 : decode cX0_cheapestSet 31 = .ok (.iload 6, 2) := by decide +kernel
theorem dX0_cheapestSet_33 : decode cX0_cheapestSet 33 = .ok (.invokestatic 62, 3) := by decide +kernel
theorem dX0_cheapestSet_36 : decode cX0_cheapestSet 36 = .ok (.iload_n 3, 1) := by decide +kernel
theorem dX0_cheapestSet_37 : decode cX0_cheapestSet 37 = .ok (.if_icmp .ne 33, 3) := by decide +kernel
theorem dX0_cheapestSet_40 : decode cX0_cheapestSet 40 = .ok (.aload_n 1, 1) := by decide +kernel
theorem dX0_cheapestSet_41 : decode cX0_cheapestSet 41 = .ok (.aload_n 2, 1) := by decide +kernel
theorem dX0_cheapestSet_42 : decode cX0_cheapestSet 42 = .ok (.iload 6, 2) := by decide +kernel
theorem dX0_cheapestSet_44 : decode cX0_cheapestSet 44 = .ok (.invokestatic 67, 3) := by decide +kernel
theorem dX0_cheapestSet_47 : decode cX0_cheapestSet 47 = .ok (.istore 7, 2) := by decide +kernel
theorem dX0_cheapestSet_49 : decode cX0_cheapestSet 49 = .ok (.iload 5, 2) := by decide +kernel
theorem dX0_cheapestSet_51 : decode cX0_cheapestSet 51 = .ok (.bipush (-2), 2) := by decide +kernel
theorem dX0_cheapestSet_53 : decode cX0_cheapestSet 53 = .ok (.if_icmp .ne 8, 3) := by decide +kernel
theorem dX0_cheapestSet_56 : decode cX0_cheapestSet 56 = .ok (.iload 7, 2) := by decide +kernel
theorem dX0_cheapestSet_58 : decode cX0_cheapestSet 58 = .ok (.goto 10, 3) := by decide +kernel
theorem dX0_cheapestSet_61 : decode cX0_cheapestSet 61 = .ok (.iload 5, 2) := by decide +kernel
theorem dX0_cheapestSet_63 : decode cX0_cheapestSet 63 = .ok (.iload 7, 2) := by decide +kernel
theorem dX0_cheapestSet_65 : decode cX0_cheapestSet 65 = .ok (.invokestatic 71, 3) := by decide +kernel
theorem dX0_cheapestSet_68 : decode cX0_cheapestSet 68 = .ok (.istore 5, 2) := by decide +kernel
theorem dX0_cheapestSet_70 : decode cX0_cheapestSet 70 = .ok (.iinc 6 1, 3) := by decide +kernel
theorem dX0_cheapestSet_73 : decode cX0_cheapestSet 73 = .ok (.goto (-59), 3) := by decide +kernel
theorem dX0_cheapestSet_76 : decode cX0_cheapestSet 76 = .ok (.iload 5, 2) := by decide +kernel
theorem dX0_cheapestSet_78 : decode cX0_cheapestSet 78 = .ok (.ireturn, 1) := by decide +kernel
theorem dX0_sumOf_0 : decode cX0_sumOf 0 = .ok (.iconst 0, 1) := by decide +kernel
theorem dX0_sumOf_1 : decode cX0_sumOf 1 = .ok (.istore_n 3, 1) := by decide +kernel
theorem dX0_sumOf_2 : decode cX0_sumOf 2 = .ok (.iconst 0, 1) := by decide +kernel
theorem dX0_sumOf_3 : decode cX0_sumOf 3 = .ok (.istore 4, 2) := by decide +kernel
theorem dX0_sumOf_5 : decode cX0_sumOf 5 = .ok (.iload 4, 2) := by decide +kernel
theorem dX0_sumOf_7 : decode cX0_sumOf 7 = .ok (.aload_n 0, 1) := by decide +kernel
theorem dX0_sumOf_8 : decode cX0_sumOf 8 = .ok (.getfield 20, 3) := by decide +kernel
theorem dX0_sumOf_11 : decode cX0_sumOf 11 = .ok (.if_icmp .ge 28, 3) := by decide +kernel
theorem dX0_sumOf_14 : decode cX0_sumOf 14 = .ok (.iload_n 2, 1) := by decide +kernel
theorem dX0_sumOf_15 : decode cX0_sumOf 15 = .ok (.iload 4, 2) := by decide +kernel
theorem dX0_sumOf_17 : decode cX0_sumOf 17 = .ok (.ishr, 1) := by decide +kernel
theorem dX0_sumOf_18 : decode cX0_sumOf 18 = .ok (.iconst 1, 1) := by decide +kernel
theorem dX0_sumOf_19 : decode cX0_sumOf 19 = .ok (.iand, 1) := by decide +kernel
theorem dX0_sumOf_20 : decode cX0_sumOf 20 = .ok (.ifCond .eq 13, 3) := by decide +kernel
theorem dX0_sumOf_23 : decode cX0_sumOf 23 = .ok (.iload_n 3, 1) := by decide +kernel
theorem dX0_sumOf_24 : decode cX0_sumOf 24 = .ok (.aload_n 1, 1) := by decide +kernel
theorem dX0_sumOf_25 : decode cX0_sumOf 25 = .ok (.aload_n 0, 1) := by decide +kernel
theorem dX0_sumOf_26 : decode cX0_sumOf 26 = .ok (.iload 4, 2) := by decide +kernel
theorem dX0_sumOf_28 : decode cX0_sumOf 28 = .ok (.invokevirtual 46, 3) := by decide +kernel
theorem dX0_sumOf_31 : decode cX0_sumOf 31 = .ok (.iadd, 1) := by decide +kernel
theorem dX0_sumOf_32 : decode cX0_sumOf 32 = .ok (.istore_n 3, 1) := by decide +kernel
theorem dX0_sumOf_33 : decode cX0_sumOf 33 = .ok (.iinc 4 1, 3) := by decide +kernel
theorem dX0_sumOf_36 : decode cX0_sumOf 36 = .ok (.goto (-31), 3) := by decide +kernel
theorem dX0_sumOf_39 : decode cX0_sumOf 39 = .ok (.iload_n 3, 1) := by decide +kernel
theorem dX0_sumOf_40 : decode cX0_sumOf 40 = .ok (.ireturn, 1) := by decide +kernel
theorem dX0_mostSparing_0 : decode cX0_mostSparing 0 = .ok (.bipush (-2), 2) := by decide +kernel
theorem dX0_mostSparing_2 : decode cX0_mostSparing 2 = .ok (.istore_n 3, 1) := by decide +kernel
theorem dX0_mostSparing_3 : decode cX0_mostSparing 3 = .ok (.iconst 0, 1) := by decide +kernel
theorem dX0_mostSparing_4 : decode cX0_mostSparing 4 = .ok (.istore 4, 2) := by decide +kernel
theorem dX0_mostSparing_6 : decode cX0_mostSparing 6 = .ok (.iconst 0, 1) := by decide +kernel
theorem dX0_mostSparing_7 : decode cX0_mostSparing 7 = .ok (.istore 5, 2) := by decide +kernel
theorem dX0_mostSparing_9 : decode cX0_mostSparing 9 = .ok (.iload 5, 2) := by decide +kernel
theorem dX0_mostSparing_11 : decode cX0_mostSparing 11 = .ok (.aload_n 1, 1) := by decide +kernel
theorem dX0_mostSparing_12 : decode cX0_mostSparing 12 = .ok (.getfield 20, 3) := by decide +kernel
theorem dX0_mostSparing_15 : decode cX0_mostSparing 15 = .ok (.if_icmp .ge 95, 3) := by decide +kernel
theorem dX0_mostSparing_18 : decode cX0_mostSparing 18 = .ok (.iload 5, 2) := by decide +kernel
theorem dX0_mostSparing_20 : decode cX0_mostSparing 20 = .ok (.iconst 1, 1) := by decide +kernel
theorem dX0_mostSparing_21 : decode cX0_mostSparing 21 = .ok (.iadd, 1) := by decide +kernel
theorem dX0_mostSparing_22 : decode cX0_mostSparing 22 = .ok (.istore 6, 2) := by decide +kernel
theorem dX0_mostSparing_24 : decode cX0_mostSparing 24 = .ok (.iload 6, 2) := by decide +kernel
theorem dX0_mostSparing_26 : decode cX0_mostSparing 26 = .ok (.aload_n 1, 1) := by decide +kernel
theorem dX0_mostSparing_27 : decode cX0_mostSparing 27 = .ok (.getfield 20, 3) := by decide +kernel
theorem dX0_mostSparing_30 : decode cX0_mostSparing 30 = .ok (.if_icmp .ge 74, 3) := by decide +kernel
theorem dX0_mostSparing_33 : decode cX0_mostSparing 33 = .ok (.aload_n 2, 1) := by decide +kernel
theorem dX0_mostSparing_34 : decode cX0_mostSparing 34 = .ok (.aload_n 1, 1) := by decide +kernel
theorem dX0_mostSparing_35 : decode cX0_mostSparing 35 = .ok (.iload 5, 2) := by decide +kernel
theorem dX0_mostSparing_37 : decode cX0_mostSparing 37 = .ok (.iload 6, 2) := by decide +kernel
theorem dX0_mostSparing_39 : decode cX0_mostSparing 39 = .ok (.invokevirtual 24, 3) := by decide +kernel
theorem dX0_mostSparing_42 : decode cX0_mostSparing 42 = .ok (.ifCond .eq 56, 3) := by decide +kernel
theorem dX0_mostSparing_45 : decode cX0_mostSparing 45 = .ok (.aload_n 2, 1) := by decide +kernel
theorem dX0_mostSparing_46 : decode cX0_mostSparing 46 = .ok (.aload_n 1, 1) := by decide +kernel
theorem dX0_mostSparing_47 : decode cX0_mostSparing 47 = .ok (.iload 5, 2) := by decide +kernel
theorem dX0_mostSparing_49 : decode cX0_mostSparing 49 = .ok (.invokevirtual 46, 3) := by decide +kernel
theorem dX0_mostSparing_52 : decode cX0_mostSparing 52 = .ok (.aload_n 2, 1) := by decide +kernel
theorem dX0_mostSparing_53 : decode cX0_mostSparing 53 = .ok (.aload_n 1, 1) := by decide +kernel
theorem dX0_mostSparing_54 : decode cX0_mostSparing 54 = .ok (.iload 6, 2) := by decide +kernel
theorem dX0_mostSparing_56 : decode cX0_mostSparing 56 = .ok (.invokevirtual 46, 3) := by decide +kernel
theorem dX0_mostSparing_59 : decode cX0_mostSparing 59 = .ok (.iadd, 1) := by decide +kernel
theorem dX0_mostSparing_60 : decode cX0_mostSparing 60 = .ok (.aload_n 2, 1) := by decide +kernel
theorem dX0_mostSparing_61 : decode cX0_mostSparing 61 = .ok (.aload_n 1, 1) := by decide +kernel
theorem dX0_mostSparing_62 : decode cX0_mostSparing 62 = .ok (.iload 5, 2) := by decide +kernel
theorem dX0_mostSparing_64 : decode cX0_mostSparing 64 = .ok (.iload 6, 2) := by decide +kernel
theorem dX0_mostSparing_66 : decode cX0_mostSparing 66 = .ok (.invokevirtual 50, 3) := by decide +kernel
theorem dX0_mostSparing_69 : decode cX0_mostSparing 69 = .ok (.isub, 1) := by decide +kernel
theorem dX0_mostSparing_70 : decode cX0_mostSparing 70 = .ok (.istore 7, 2) := by decide +kernel
theorem dX0_mostSparing_72 : decode cX0_mostSparing 72 = .ok (.iload_n 3, 1) := by decide +kernel
theorem dX0_mostSparing_73 : decode cX0_mostSparing 73 = .ok (.bipush (-2), 2) := by decide +kernel
theorem dX0_mostSparing_75 : decode cX0_mostSparing 75 = .ok (.if_icmp .eq 10, 3) := by decide +kernel
theorem dX0_mostSparing_78 : decode cX0_mostSparing 78 = .ok (.iload 7, 2) := by decide +kernel
theorem dX0_mostSparing_80 : decode cX0_mostSparing 80 = .ok (.iload 4, 2) := by decide +kernel
theorem dX0_mostSparing_82 : decode cX0_mostSparing 82 = .ok (.if_icmp .le 16, 3) := by decide +kernel
theorem dX0_mostSparing_85 : decode cX0_mostSparing 85 = .ok (.bipush 10, 2) := by decide +kernel
theorem dX0_mostSparing_87 : decode cX0_mostSparing 87 = .ok (.iload 5, 2) := by decide +kernel
theorem dX0_mostSparing_89 : decode cX0_mostSparing 89 = .ok (.imul, 1) := by decide +kernel
theorem dX0_mostSparing_90 : decode cX0_mostSparing 90 = .ok (.iload 6, 2) := by decide +kernel
theorem dX0_mostSparing_92 : decode cX0_mostSparing 92 = .ok (.iadd, 1) := by decide +kernel
theorem dX0_mostSparing_93 : decode cX0_mostSparing 93 = .ok (.istore_n 3, 1) := by decide +kernel
theorem dX0_mostSparing_94 : decode cX0_mostSparing 94 = .ok (.iload 7, 2) := by decide +kernel
theorem dX0_mostSparing_96 : decode cX0_mostSparing 96 = .ok (.istore 4, 2) := by decide +kernel
theorem dX0_mostSparing_98 : decode cX0_mostSparing 98 = .ok (.iinc 6 1, 3) := by decide +kernel
theorem dX0_mostSparing_101 : decode cX0_mostSparing 101 = .ok (.goto (-77), 3) := by decide +kernel
theorem dX0_mostSparing_104 : decode cX0_mostSparing 104 = .ok (.iinc 5 1, 3) := by decide +kernel
theorem dX0_mostSparing_107 : decode cX0_mostSparing 107 = .ok (.goto (-98), 3) := by decide +kernel
theorem dX0_mostSparing_110 : decode cX0_mostSparing 110 = .ok (.iload_n 3, 1) := by decide +kernel
theorem dX0_mostSparing_111 : decode cX0_mostSparing 111 = .ok (.ireturn, 1) := by decide +kernel
theorem dX1_untaken_0 : decode cX1_untaken 0 = .ok (.bipush 100, 2) := by decide +kernel
theorem dX1_untaken_2 : decode cX1_untaken 2 = .ok (.iload_n 0, 1) := by decide +kernel
theorem dX1_untaken_3 : decode cX1_untaken 3 = .ok (.isub, 1) := by decide +kernel
theorem dX1_untaken_4 : decode cX1_untaken 4 = .ok (.i2l, 1) := by decide +kernel
theorem dX1_untaken_5 : decode cX1_untaken 5 = .ok (.iload_n 1, 1) := by decide +kernel
theorem dX1_untaken_6 : decode cX1_untaken 6 = .ok (.invokestatic 9, 3) := by decide +kernel
theorem dX1_untaken_9 : decode cX1_untaken 9 = .ok (.ldc2_w 13, 3) := by decide +kernel
theorem dX1_untaken_12 : decode cX1_untaken 12 = .ok (.iload_n 1, 1) := by decide +kernel
theorem dX1_untaken_13 : decode cX1_untaken 13 = .ok (.invokestatic 9, 3) := by decide +kernel
theorem dX1_untaken_16 : decode cX1_untaken 16 = .ok (.iload_n 2, 1) := by decide +kernel
theorem dX1_untaken_17 : decode cX1_untaken 17 = .ok (.invokestatic 15, 3) := by decide +kernel
theorem dX1_untaken_20 : decode cX1_untaken 20 = .ok (.lreturn, 1) := by decide +kernel
theorem dX1_untakenOf_0 : decode cX1_untakenOf 0 = .ok (.iload_n 2, 1) := by decide +kernel
theorem dX1_untakenOf_1 : decode cX1_untakenOf 1 = .ok (.iload_n 1, 1) := by decide +kernel
theorem dX1_untakenOf_2 : decode cX1_untakenOf 2 = .ok (.if_icmp .le 10, 3) := by decide +kernel
theorem dX1_untakenOf_5 : decode cX1_untakenOf 5 = .ok (.lconst 0, 1) := by decide +kernel
theorem dX1_untakenOf_6 : decode cX1_untakenOf 6 = .ok (.lconst 1, 1) := by decide +kernel
theorem dX1_untakenOf_7 : decode cX1_untakenOf 7 = .ok (.iload_n 3, 1) := by decide +kernel
theorem dX1_untakenOf_8 : decode cX1_untakenOf 8 = .ok (.invokestatic 15, 3) := by decide +kernel
theorem dX1_untakenOf_11 : decode cX1_untakenOf 11 = .ok (.lreturn, 1) := by decide +kernel
theorem dX1_untakenOf_12 : decode cX1_untakenOf 12 = .ok (.iload_n 1, 1) := by decide +kernel
theorem dX1_untakenOf_13 : decode cX1_untakenOf 13 = .ok (.iload_n 2, 1) := by decide +kernel
theorem dX1_untakenOf_14 : decode cX1_untakenOf 14 = .ok (.invokestatic 19, 3) := by decide +kernel
theorem dX1_untakenOf_17 : decode cX1_untakenOf 17 = .ok (.bipush 100, 2) := by decide +kernel
theorem dX1_untakenOf_19 : decode cX1_untakenOf 19 = .ok (.iload_n 0, 1) := by decide +kernel
theorem dX1_untakenOf_20 : decode cX1_untakenOf 20 = .ok (.isub, 1) := by decide +kernel
theorem dX1_untakenOf_21 : decode cX1_untakenOf 21 = .ok (.i2l, 1) := by decide +kernel
theorem dX1_untakenOf_22 : decode cX1_untakenOf 22 = .ok (.iload_n 2, 1) := by decide +kernel
theorem dX1_untakenOf_23 : decode cX1_untakenOf 23 = .ok (.invokestatic 9, 3) := by decide +kernel
theorem dX1_untakenOf_26 : decode cX1_untakenOf 26 = .ok (.lmul, 1) := by decide +kernel
theorem dX1_untakenOf_27 : decode cX1_untakenOf 27 = .ok (.iload_n 0, 1) := by decide +kernel
theorem dX1_untakenOf_28 : decode cX1_untakenOf 28 = .ok (.i2l, 1) := by decide +kernel
theorem dX1_untakenOf_29 : decode cX1_untakenOf 29 = .ok (.iload_n 1, 1) := by decide +kernel
theorem dX1_untakenOf_30 : decode cX1_untakenOf 30 = .ok (.iload_n 2, 1) := by decide +kernel
theorem dX1_untakenOf_31 : decode cX1_untakenOf 31 = .ok (.isub, 1) := by decide +kernel
theorem dX1_untakenOf_32 : decode cX1_untakenOf 32 = .ok (.invokestatic 9, 3) := by decide +kernel
theorem dX1_untakenOf_35 : decode cX1_untakenOf 35 = .ok (.lmul, 1) := by decide +kernel
theorem dX1_untakenOf_36 : decode cX1_untakenOf 36 = .ok (.lstore 4, 2) := by decide +kernel
theorem dX1_untakenOf_38 : decode cX1_untakenOf 38 = .ok (.lload 4, 2) := by decide +kernel
theorem dX1_untakenOf_40 : decode cX1_untakenOf 40 = .ok (.ldc2_w 13, 3) := by decide +kernel
theorem dX1_untakenOf_43 : decode cX1_untakenOf 43 = .ok (.iload_n 1, 1) := by decide +kernel
theorem dX1_untakenOf_44 : decode cX1_untakenOf 44 = .ok (.invokestatic 9, 3) := by decide +kernel
theorem dX1_untakenOf_47 : decode cX1_untakenOf 47 = .ok (.iload_n 3, 1) := by decide +kernel
theorem dX1_untakenOf_48 : decode cX1_untakenOf 48 = .ok (.invokestatic 15, 3) := by decide +kernel
theorem dX1_untakenOf_51 : decode cX1_untakenOf 51 = .ok (.lreturn, 1) := by decide +kernel
theorem dX1_meanDays_0 : decode cX1_meanDays 0 = .ok (.lconst 0, 1) := by decide +kernel
theorem dX1_meanDays_1 : decode cX1_meanDays 1 = .ok (.lstore_n 3, 1) := by decide +kernel
theorem dX1_meanDays_2 : decode cX1_meanDays 2 = .ok (.iconst 1, 1) := by decide +kernel
theorem dX1_meanDays_3 : decode cX1_meanDays 3 = .ok (.istore 5, 2) := by decide +kernel
theorem dX1_meanDays_5 : decode cX1_meanDays 5 = .ok (.iload 5, 2) := by decide +kernel
theorem dX1_meanDays_7 : decode cX1_meanDays 7 = .ok (.iload_n 1, 1) := by decide +kernel
theorem dX1_meanDays_8 : decode cX1_meanDays 8 = .ok (.if_icmp .gt 33, 3) := by decide +kernel
theorem dX1_meanDays_11 : decode cX1_meanDays 11 = .ok (.lload_n 3, 1) := by decide +kernel
theorem dX1_meanDays_12 : decode cX1_meanDays 12 = .ok (.bipush 100, 2) := by decide +kernel
theorem dX1_meanDays_14 : decode cX1_meanDays 14 = .ok (.iload_n 0, 1) := by decide +kernel
theorem dX1_meanDays_15 : decode cX1_meanDays 15 = .ok (.isub, 1) := by decide +kernel
theorem dX1_meanDays_16 : decode cX1_meanDays 16 = .ok (.i2l, 1) := by decide +kernel
theorem dX1_meanDays_17 : decode cX1_meanDays 17 = .ok (.iload 5, 2) := by decide +kernel
theorem dX1_meanDays_19 : decode cX1_meanDays 19 = .ok (.invokestatic 9, 3) := by decide +kernel
theorem dX1_meanDays_22 : decode cX1_meanDays 22 = .ok (.ldc2_w 13, 3) := by decide +kernel
theorem dX1_meanDays_25 : decode cX1_meanDays 25 = .ok (.iload_n 1, 1) := by decide +kernel
theorem dX1_meanDays_26 : decode cX1_meanDays 26 = .ok (.iload 5, 2) := by decide +kernel
theorem dX1_meanDays_28 : decode cX1_meanDays 28 = .ok (.isub, 1) := by decide +kernel
theorem dX1_meanDays_29 : decode cX1_meanDays 29 = .ok (.invokestatic 9, 3) := by decide +kernel
theorem dX1_meanDays_32 : decode cX1_meanDays 32 = .ok (.lmul, 1) := by decide +kernel
theorem dX1_meanDays_33 : decode cX1_meanDays 33 = .ok (.ladd, 1) := by decide +kernel
theorem dX1_meanDays_34 : decode cX1_meanDays 34 = .ok (.lstore_n 3, 1) := by decide +kernel
theorem dX1_meanDays_35 : decode cX1_meanDays 35 = .ok (.iinc 5 1, 3) := by decide +kernel
theorem dX1_meanDays_38 : decode cX1_meanDays 38 = .ok (.goto (-33), 3) := by decide +kernel
theorem dX1_meanDays_41 : decode cX1_meanDays 41 = .ok (.lload_n 3, 1) := by decide +kernel
theorem dX1_meanDays_42 : decode cX1_meanDays 42 = .ok (.ldc2_w 13, 3) := by decide +kernel
theorem dX1_meanDays_45 : decode cX1_meanDays 45 = .ok (.iload_n 1, 1) := by decide +kernel
theorem dX1_meanDays_46 : decode cX1_meanDays 46 = .ok (.invokestatic 9, 3) := by decide +kernel
theorem dX1_meanDays_49 : decode cX1_meanDays 49 = .ok (.iload_n 2, 1) := by decide +kernel
theorem dX1_meanDays_50 : decode cX1_meanDays 50 = .ok (.invokestatic 15, 3) := by decide +kernel
theorem dX1_meanDays_53 : decode cX1_meanDays 53 = .ok (.lreturn, 1) := by decide +kernel
theorem dX1_power_0 : decode cX1_power 0 = .ok (.lconst 1, 1) := by decide +kernel
theorem dX1_power_1 : decode cX1_power 1 = .ok (.lstore_n 3, 1) := by decide +kernel
theorem dX1_power_2 : decode cX1_power 2 = .ok (.iconst 0, 1) := by decide +kernel
theorem dX1_power_3 : decode cX1_power 3 = .ok (.istore 5, 2) := by decide +kernel
theorem dX1_power_5 : decode cX1_power 5 = .ok (.iload 5, 2) := by decide +kernel
theorem dX1_power_7 : decode cX1_power 7 = .ok (.iload_n 2, 1) := by decide +kernel
theorem dX1_power_8 : decode cX1_power 8 = .ok (.if_icmp .ge 13, 3) := by decide +kernel
theorem dX1_power_11 : decode cX1_power 11 = .ok (.lload_n 3, 1) := by decide +kernel
theorem dX1_power_12 : decode cX1_power 12 = .ok (.lload_n 0, 1) := by decide +kernel
theorem dX1_power_13 : decode cX1_power 13 = .ok (.lmul, 1) := by decide +kernel
theorem dX1_power_14 : decode cX1_power 14 = .ok (.lstore_n 3, 1) := by decide +kernel
theorem dX1_power_15 : decode cX1_power 15 = .ok (.iinc 5 1, 3) := by decide +kernel
theorem dX1_power_18 : decode cX1_power 18 = .ok (.goto (-13), 3) := by decide +kernel
theorem dX1_power_21 : decode cX1_power 21 = .ok (.lload_n 3, 1) := by decide +kernel
theorem dX1_power_22 : decode cX1_power 22 = .ok (.lreturn, 1) := by decide +kernel
theorem dX1_choices_0 : decode cX1_choices 0 = .ok (.lconst 1, 1) := by decide +kernel
theorem dX1_choices_1 : decode cX1_choices 1 = .ok (.lstore_n 2, 1) := by decide +kernel
theorem dX1_choices_2 : decode cX1_choices 2 = .ok (.iconst 1, 1) := by decide +kernel
theorem dX1_choices_3 : decode cX1_choices 3 = .ok (.istore 4, 2) := by decide +kernel
theorem dX1_choices_5 : decode cX1_choices 5 = .ok (.iload 4, 2) := by decide +kernel
theorem dX1_choices_7 : decode cX1_choices 7 = .ok (.iload_n 1, 1) := by decide +kernel
theorem dX1_choices_8 : decode cX1_choices 8 = .ok (.if_icmp .gt 23, 3) := by decide +kernel
theorem dX1_choices_11 : decode cX1_choices 11 = .ok (.lload_n 2, 1) := by decide +kernel
theorem dX1_choices_12 : decode cX1_choices 12 = .ok (.iload_n 0, 1) := by decide +kernel
theorem dX1_choices_13 : decode cX1_choices 13 = .ok (.iload_n 1, 1) := by decide +kernel
theorem dX1_choices_14 : decode cX1_choices 14 = .ok (.isub, 1) := by decide +kernel
theorem dX1_choices_15 : decode cX1_choices 15 = .ok (.iload 4, 2) := by decide +kernel
theorem dX1_choices_17 : decode cX1_choices 17 = .ok (.iadd, 1) := by decide +kernel
theorem dX1_choices_18 : decode cX1_choices 18 = .ok (.i2l, 1) := by decide +kernel
theorem dX1_choices_19 : decode cX1_choices 19 = .ok (.lmul, 1) := by decide +kernel
theorem dX1_choices_20 : decode cX1_choices 20 = .ok (.iload 4, 2) := by decide +kernel
theorem dX1_choices_22 : decode cX1_choices 22 = .ok (.i2l, 1) := by decide +kernel
theorem dX1_choices_23 : decode cX1_choices 23 = .ok (.ldiv, 1) := by decide +kernel
theorem dX1_choices_24 : decode cX1_choices 24 = .ok (.lstore_n 2, 1) := by decide +kernel
theorem dX1_choices_25 : decode cX1_choices 25 = .ok (.iinc 4 1, 3) := by decide +kernel
theorem dX1_choices_28 : decode cX1_choices 28 = .ok (.goto (-23), 3) := by decide +kernel
theorem dX1_choices_31 : decode cX1_choices 31 = .ok (.lload_n 2, 1) := by decide +kernel
theorem dX1_choices_32 : decode cX1_choices 32 = .ok (.lreturn, 1) := by decide +kernel
theorem dX1_term_0 : decode cX1_term 0 = .ok (.lload_n 0, 1) := by decide +kernel
theorem dX1_term_1 : decode cX1_term 1 = .ok (.lload_n 2, 1) := by decide +kernel
theorem dX1_term_2 : decode cX1_term 2 = .ok (.invokestatic 23, 3) := by decide +kernel
theorem dX1_term_5 : decode cX1_term 5 = .ok (.lstore 5, 2) := by decide +kernel
theorem dX1_term_7 : decode cX1_term 7 = .ok (.iload 4, 2) := by decide +kernel
theorem dX1_term_9 : decode cX1_term 9 = .ok (.ifCond .eq 7, 3) := by decide +kernel
theorem dX1_term_12 : decode cX1_term 12 = .ok (.lload_n 2, 1) := by decide +kernel
theorem dX1_term_13 : decode cX1_term 13 = .ok (.goto 4, 3) := by decide +kernel
theorem dX1_term_16 : decode cX1_term 16 = .ok (.lload_n 0, 1) := by decide +kernel
theorem dX1_term_17 : decode cX1_term 17 = .ok (.lstore 7, 2) := by decide +kernel
theorem dX1_term_19 : decode cX1_term 19 = .ok (.lload 5, 2) := by decide +kernel
theorem dX1_term_21 : decode cX1_term 21 = .ok (.lconst 0, 1) := by decide +kernel
theorem dX1_term_22 : decode cX1_term 22 = .ok (.lcmp, 1) := by decide +kernel
theorem dX1_term_23 : decode cX1_term 23 = .ok (.ifCond .ne 8, 3) := by decide +kernel
theorem dX1_term_26 : decode cX1_term 26 = .ok (.lload 7, 2) := by decide +kernel
theorem dX1_term_28 : decode cX1_term 28 = .ok (.goto 8, 3) := by decide +kernel
theorem dX1_term_31 : decode cX1_term 31 = .ok (.lload 7, 2) := by decide +kernel
theorem dX1_term_33 : decode cX1_term 33 = .ok (.lload 5, 2) := by decide +kernel
theorem dX1_term_35 : decode cX1_term 35 = .ok (.ldiv, 1) := by decide +kernel
theorem dX1_term_36 : decode cX1_term 36 = .ok (.lreturn, 1) := by decide +kernel
theorem dX1_commonDivisor_0 : decode cX1_commonDivisor 0 = .ok (.lload_n 0, 1) := by decide +kernel
theorem dX1_commonDivisor_1 : decode cX1_commonDivisor 1 = .ok (.lstore 4, 2) := by decide +kernel
theorem dX1_commonDivisor_3 : decode cX1_commonDivisor 3 = .ok (.lload_n 2, 1) := by decide +kernel
theorem dX1_commonDivisor_4 : decode cX1_commonDivisor 4 = .ok (.lstore 6, 2) := by decide +kernel
theorem dX1_commonDivisor_6 : decode cX1_commonDivisor 6 = .ok (.iconst 0, 1) := by decide +kernel
theorem dX1_commonDivisor_7 : decode cX1_commonDivisor 7 = .ok (.istore 8, 2) := by decide +kernel
theorem dX1_commonDivisor_9 : decode cX1_commonDivisor 9 = .ok (.iload 8, 2) := by decide +kernel
theorem dX1_commonDivisor_11 : decode cX1_commonDivisor 11 = .ok (.sipush 200, 3) := by decide +kernel
theorem dX1_commonDivisor_14 : decode cX1_commonDivisor 14 = .ok (.if_icmp .ge 31, 3) := by decide +kernel
theorem dX1_commonDivisor_17 : decode cX1_commonDivisor 17 = .ok (.lload 6, 2) := by decide +kernel
theorem dX1_commonDivisor_19 : decode cX1_commonDivisor 19 = .ok (.lconst 0, 1) := by decide +kernel
theorem dX1_commonDivisor_20 : decode cX1_commonDivisor 20 = .ok (.lcmp, 1) := by decide +kernel
theorem dX1_commonDivisor_21 : decode cX1_commonDivisor 21 = .ok (.ifCond .eq 24, 3) := by decide +kernel
theorem dX1_commonDivisor_24 : decode cX1_commonDivisor 24 = .ok (.lload 4, 2) := by decide +kernel
theorem dX1_commonDivisor_26 : decode cX1_commonDivisor 26 = .ok (.lload 6, 2) := by decide +kernel
theorem dX1_commonDivisor_28 : decode cX1_commonDivisor 28 = .ok (.lrem, 1) := by decide +kernel
theorem dX1_commonDivisor_29 : decode cX1_commonDivisor 29 = .ok (.lstore 9, 2) := by decide +kernel
theorem dX1_commonDivisor_31 : decode cX1_commonDivisor 31 = .ok (.lload 6, 2) := by decide +kernel
theorem dX1_commonDivisor_33 : decode cX1_commonDivisor 33 = .ok (.lstore 4, 2) := by decide +kernel
theorem dX1_commonDivisor_35 : decode cX1_commonDivisor 35 = .ok (.lload 9, 2) := by decide +kernel
theorem dX1_commonDivisor_37 : decode cX1_commonDivisor 37 = .ok (.lstore 6, 2) := by decide +kernel
theorem dX1_commonDivisor_39 : decode cX1_commonDivisor 39 = .ok (.iinc 8 1, 3) := by decide +kernel
theorem dX1_commonDivisor_42 : decode cX1_commonDivisor 42 = .ok (.goto (-33), 3) := by decide +kernel
theorem dX1_commonDivisor_45 : decode cX1_commonDivisor 45 = .ok (.lload 4, 2) := by decide +kernel
theorem dX1_commonDivisor_47 : decode cX1_commonDivisor 47 = .ok (.lreturn, 1) := by decide +kernel
theorem dX2_init_0 : decode cX2_init 0 = .ok (.aload_n 0, 1) := by decide +kernel
theorem dX2_init_1 : decode cX2_init 1 = .ok (.invokespecial 3, 3) := by decide +kernel
theorem dX2_init_4 : decode cX2_init 4 = .ok (.aload_n 0, 1) := by decide +kernel
theorem dX2_init_5 : decode cX2_init 5 = .ok (.bipush 16, 2) := by decide +kernel
theorem dX2_init_7 : decode cX2_init 7 = .ok (.anewarray 11, 3) := by decide +kernel
theorem dX2_init_10 : decode cX2_init 10 = .ok (.putfield 13, 3) := by decide +kernel
theorem dX2_init_13 : decode cX2_init 13 = .ok (.aload_n 0, 1) := by decide +kernel
theorem dX2_init_14 : decode cX2_init 14 = .ok (.iconst 3, 1) := by decide +kernel
theorem dX2_init_15 : decode cX2_init 15 = .ok (.anewarray 11, 3) := by decide +kernel
theorem dX2_init_18 : decode cX2_init 18 = .ok (.putfield 17, 3) := by decide +kernel
theorem dX2_init_21 : decode cX2_init 21 = .ok (.iconst 0, 1) := by decide +kernel
theorem dX2_init_22 : decode cX2_init 22 = .ok (.istore_n 1, 1) := by decide +kernel
theorem dX2_init_23 : decode cX2_init 23 = .ok (.iload_n 1, 1) := by decide +kernel
theorem dX2_init_24 : decode cX2_init 24 = .ok (.bipush 16, 2) := by decide +kernel
theorem dX2_init_26 : decode cX2_init 26 = .ok (.if_icmp .ge 22, 3) := by decide +kernel
theorem dX2_init_29 : decode cX2_init 29 = .ok (.aload_n 0, 1) := by decide +kernel
theorem dX2_init_30 : decode cX2_init 30 = .ok (.getfield 13, 3) := by decide +kernel
theorem dX2_init_33 : decode cX2_init 33 = .ok (.iload_n 1, 1) := by decide +kernel
theorem dX2_init_34 : decode cX2_init 34 = .ok (.new 11, 3) := by decide +kernel
theorem dX2_init_37 : decode cX2_init 37 = .ok (.dup, 1) := by decide +kernel
theorem dX2_init_38 : decode cX2_init 38 = .ok (.invokespecial 20, 3) := by decide +kernel
theorem dX2_init_41 : decode cX2_init 41 = .ok (.aastore, 1) := by decide +kernel
theorem dX2_init_42 : decode cX2_init 42 = .ok (.iinc 1 1, 3) := by decide +kernel
theorem dX2_init_45 : decode cX2_init 45 = .ok (.goto (-22), 3) := by decide +kernel
theorem dX2_init_48 : decode cX2_init 48 = .ok (.iconst 0, 1) := by decide +kernel
theorem dX2_init_49 : decode cX2_init 49 = .ok (.istore_n 1, 1) := by decide +kernel
theorem dX2_init_50 : decode cX2_init 50 = .ok (.iload_n 1, 1) := by decide +kernel
theorem dX2_init_51 : decode cX2_init 51 = .ok (.iconst 3, 1) := by decide +kernel
theorem dX2_init_52 : decode cX2_init 52 = .ok (.if_icmp .ge 22, 3) := by decide +kernel
theorem dX2_init_55 : decode cX2_init 55 = .ok (.aload_n 0, 1) := by decide +kernel
theorem dX2_init_56 : decode cX2_init 56 = .ok (.getfield 17, 3) := by decide +kernel
theorem dX2_init_59 : decode cX2_init 59 = .ok (.iload_n 1, 1) := by decide +kernel
theorem dX2_init_60 : decode cX2_init 60 = .ok (.new 11, 3) := by decide +kernel
theorem dX2_init_63 : decode cX2_init 63 = .ok (.dup, 1) := by decide +kernel
theorem dX2_init_64 : decode cX2_init 64 = .ok (.invokespecial 20, 3) := by decide +kernel
theorem dX2_init_67 : decode cX2_init 67 = .ok (.aastore, 1) := by decide +kernel
theorem dX2_init_68 : decode cX2_init 68 = .ok (.iinc 1 1, 3) := by decide +kernel
theorem dX2_init_71 : decode cX2_init 71 = .ok (.goto (-21), 3) := by decide +kernel
theorem dX2_init_74 : decode cX2_init 74 = .ok (.return_, 1) := by decide +kernel
theorem dX2_forget_0 : decode cX2_forget 0 = .ok (.aload_n 0, 1) := by decide +kernel
theorem dX2_forget_1 : decode cX2_forget 1 = .ok (.iconst 0, 1) := by decide +kernel
theorem dX2_forget_2 : decode cX2_forget 2 = .ok (.putfield 21, 3) := by decide +kernel
theorem dX2_forget_5 : decode cX2_forget 5 = .ok (.aload_n 0, 1) := by decide +kernel
theorem dX2_forget_6 : decode cX2_forget 6 = .ok (.iconst 0, 1) := by decide +kernel
theorem dX2_forget_7 : decode cX2_forget 7 = .ok (.putfield 25, 3) := by decide +kernel
theorem dX2_forget_10 : decode cX2_forget 10 = .ok (.return_, 1) := by decide +kernel
theorem dX2_keep_0 : decode cX2_keep 0 = .ok (.aload_n 0, 1) := by decide +kernel
theorem dX2_keep_1 : decode cX2_keep 1 = .ok (.getfield 13, 3) := by decide +kernel
theorem dX2_keep_4 : decode cX2_keep 4 = .ok (.aload_n 0, 1) := by decide +kernel
theorem dX2_keep_5 : decode cX2_keep 5 = .ok (.getfield 28, 3) := by decide +kernel
theorem dX2_keep_8 : decode cX2_keep 8 = .ok (.aaload, 1) := by decide +kernel
theorem dX2_keep_9 : decode cX2_keep 9 = .ok (.aload_n 1, 1) := by decide +kernel
theorem dX2_keep_10 : decode cX2_keep 10 = .ok (.invokevirtual 31, 3) := by decide +kernel
theorem dX2_keep_13 : decode cX2_keep 13 = .ok (.aload_n 0, 1) := by decide +kernel
theorem dX2_keep_14 : decode cX2_keep 14 = .ok (.aload_n 0, 1) := by decide +kernel
theorem dX2_keep_15 : decode cX2_keep 15 = .ok (.getfield 28, 3) := by decide +kernel
theorem dX2_keep_18 : decode cX2_keep 18 = .ok (.iconst 1, 1) := by decide +kernel
theorem dX2_keep_19 : decode cX2_keep 19 = .ok (.iadd, 1) := by decide +kernel
theorem dX2_keep_20 : decode cX2_keep 20 = .ok (.bipush 16, 2) := by decide +kernel
theorem dX2_keep_22 : decode cX2_keep 22 = .ok (.irem, 1) := by decide +kernel
theorem dX2_keep_23 : decode cX2_keep 23 = .ok (.putfield 28, 3) := by decide +kernel
theorem dX2_keep_26 : decode cX2_keep 26 = .ok (.aload_n 0, 1) := by decide +kernel
theorem dX2_keep_27 : decode cX2_keep 27 = .ok (.aload_n 0, 1) := by decide +kernel
theorem dX2_keep_28 : decode cX2_keep 28 = .ok (.getfield 21, 3) := by decide +kernel
theorem dX2_keep_31 : decode cX2_keep 31 = .ok (.iconst 1, 1) := by decide +kernel
theorem dX2_keep_32 : decode cX2_keep 32 = .ok (.iadd, 1) := by decide +kernel
theorem dX2_keep_33 : decode cX2_keep 33 = .ok (.bipush 16, 2) := by decide +kernel
theorem dX2_keep_35 : decode cX2_keep 35 = .ok (.invokestatic 35, 3) := by decide +kernel
theorem dX2_keep_38 : decode cX2_keep 38 = .ok (.putfield 21, 3) := by decide +kernel
theorem dX2_keep_41 : decode cX2_keep 41 = .ok (.return_, 1) := by decide +kernel
theorem dX2_takeBack_0 : decode cX2_takeBack 0 = .ok (.aload_n 0, 1) := by decide +kernel
theorem dX2_takeBack_1 : decode cX2_takeBack 1 = .ok (.getfield 21, 3) := by decide +kernel
theorem dX2_takeBack_4 : decode cX2_takeBack 4 = .ok (.ifCond .ne 5, 3) := by decide +kernel
theorem dX2_takeBack_7 : decode cX2_takeBack 7 = .ok (.iconst 0, 1) := by decide +kernel
theorem dX2_takeBack_8 : decode cX2_takeBack 8 = .ok (.ireturn, 1) := by decide +kernel
theorem dX2_takeBack_9 : decode cX2_takeBack 9 = .ok (.aload_n 0, 1) := by decide +kernel
theorem dX2_takeBack_10 : decode cX2_takeBack 10 = .ok (.dup, 1) := by decide +kernel
theorem dX2_takeBack_11 : decode cX2_takeBack 11 = .ok (.getfield 21, 3) := by decide +kernel
theorem dX2_takeBack_14 : decode cX2_takeBack 14 = .ok (.iconst 1, 1) := by decide +kernel
theorem dX2_takeBack_15 : decode cX2_takeBack 15 = .ok (.isub, 1) := by decide +kernel
theorem dX2_takeBack_16 : decode cX2_takeBack 16 = .ok (.putfield 21, 3) := by decide +kernel
theorem dX2_takeBack_19 : decode cX2_takeBack 19 = .ok (.aload_n 0, 1) := by decide +kernel
theorem dX2_takeBack_20 : decode cX2_takeBack 20 = .ok (.aload_n 0, 1) := by decide +kernel
theorem dX2_takeBack_21 : decode cX2_takeBack 21 = .ok (.getfield 28, 3) := by decide +kernel
theorem dX2_takeBack_24 : decode cX2_takeBack 24 = .ok (.bipush 16, 2) := by decide +kernel
theorem dX2_takeBack_26 : decode cX2_takeBack 26 = .ok (.iadd, 1) := by decide +kernel
theorem dX2_takeBack_27 : decode cX2_takeBack 27 = .ok (.iconst 1, 1) := by decide +kernel
theorem dX2_takeBack_28 : decode cX2_takeBack 28 = .ok (.isub, 1) := by decide +kernel
theorem dX2_takeBack_29 : decode cX2_takeBack 29 = .ok (.bipush 16, 2) := by decide +kernel
theorem dX2_takeBack_31 : decode cX2_takeBack 31 = .ok (.irem, 1) := by decide +kernel
theorem dX2_takeBack_32 : decode cX2_takeBack 32 = .ok (.putfield 28, 3) := by decide +kernel
theorem dX2_takeBack_35 : decode cX2_takeBack 35 = .ok (.aload_n 1, 1) := by decide +kernel
theorem dX2_takeBack_36 : decode cX2_takeBack 36 = .ok (.aload_n 0, 1) := by decide +kernel
theorem dX2_takeBack_37 : decode cX2_takeBack 37 = .ok (.getfield 13, 3) := by decide +kernel
theorem dX2_takeBack_40 : decode cX2_takeBack 40 = .ok (.aload_n 0, 1) := by decide +kernel
theorem dX2_takeBack_41 : decode cX2_takeBack 41 = .ok (.getfield 28, 3) := by decide +kernel
theorem dX2_takeBack_44 : decode cX2_takeBack 44 = .ok (.aaload, 1) := by decide +kernel
theorem dX2_takeBack_45 : decode cX2_takeBack 45 = .ok (.invokevirtual 31, 3) := by decide +kernel
theorem dX2_takeBack_48 : decode cX2_takeBack 48 = .ok (.iconst 1, 1) := by decide +kernel
theorem dX2_takeBack_49 : decode cX2_takeBack 49 = .ok (.ireturn, 1) := by decide +kernel
theorem dX2_draw_0 : decode cX2_draw 0 = .ok (.aload_n 0, 1) := by decide +kernel
theorem dX2_draw_1 : decode cX2_draw 1 = .ok (.getfield 25, 3) := by decide +kernel
theorem dX2_draw_4 : decode cX2_draw 4 = .ok (.iconst 3, 1) := by decide +kernel
theorem dX2_draw_5 : decode cX2_draw 5 = .ok (.if_icmp .lt 5, 3) := by decide +kernel
theorem dX2_draw_8 : decode cX2_draw 8 = .ok (.iconst (-1), 1) := by decide +kernel
theorem dX2_draw_9 : decode cX2_draw 9 = .ok (.ireturn, 1) := by decide +kernel
theorem dX2_draw_10 : decode cX2_draw 10 = .ok (.aload_n 0, 1) := by decide +kernel
theorem dX2_draw_11 : decode cX2_draw 11 = .ok (.getfield 17, 3) := by decide +kernel
theorem dX2_draw_14 : decode cX2_draw 14 = .ok (.aload_n 0, 1) := by decide +kernel
theorem dX2_draw_15 : decode cX2_draw 15 = .ok (.getfield 25, 3) := by decide +kernel
theorem dX2_draw_18 : decode cX2_draw 18 = .ok (.aaload, 1) := by decide +kernel
theorem dX2_draw_19 : decode cX2_draw 19 = .ok (.aload_n 1, 1) := by decide +kernel
theorem dX2_draw_20 : decode cX2_draw 20 = .ok (.invokevirtual 31, 3) := by decide +kernel
theorem dX2_draw_23 : decode cX2_draw 23 = .ok (.aload_n 0, 1) := by decide +kernel
theorem dX2_draw_24 : decode cX2_draw 24 = .ok (.dup, 1) := by decide +kernel
theorem dX2_draw_25 : decode cX2_draw 25 = .ok (.getfield 25, 3) := by decide +kernel
theorem dX2_draw_28 : decode cX2_draw 28 = .ok (.iconst 1, 1) := by decide +kernel
theorem dX2_draw_29 : decode cX2_draw 29 = .ok (.iadd, 1) := by decide +kernel
theorem dX2_draw_30 : decode cX2_draw 30 = .ok (.putfield 25, 3) := by decide +kernel
theorem dX2_draw_33 : decode cX2_draw 33 = .ok (.aload_n 0, 1) := by decide +kernel
theorem dX2_draw_34 : decode cX2_draw 34 = .ok (.getfield 25, 3) := by decide +kernel
theorem dX2_draw_37 : decode cX2_draw 37 = .ok (.iconst 1, 1) := by decide +kernel
theorem dX2_draw_38 : decode cX2_draw 38 = .ok (.isub, 1) := by decide +kernel
theorem dX2_draw_39 : decode cX2_draw 39 = .ok (.ireturn, 1) := by decide +kernel
theorem dX2_restore_0 : decode cX2_restore 0 = .ok (.iload_n 2, 1) := by decide +kernel
theorem dX2_restore_1 : decode cX2_restore 1 = .ok (.ifCond .lt 11, 3) := by decide +kernel
theorem dX2_restore_4 : decode cX2_restore 4 = .ok (.iload_n 2, 1) := by decide +kernel
theorem dX2_restore_5 : decode cX2_restore 5 = .ok (.aload_n 0, 1) := by decide +kernel
theorem dX2_restore_6 : decode cX2_restore 6 = .ok (.getfield 25, 3) := by decide +kernel
theorem dX2_restore_9 : decode cX2_restore 9 = .ok (.if_icmp .lt 5, 3) := by decide +kernel
theorem dX2_restore_12 : decode cX2_restore 12 = .ok (.iconst 0, 1) := by decide +kernel
theorem dX2_restore_13 : decode cX2_restore 13 = .ok (.ireturn, 1) := by decide +kernel
theorem dX2_restore_14 : decode cX2_restore 14 = .ok (.aload_n 1, 1) := by decide +kernel
theorem dX2_restore_15 : decode cX2_restore 15 = .ok (.aload_n 0, 1) := by decide +kernel
theorem dX2_restore_16 : decode cX2_restore 16 = .ok (.getfield 17, 3) := by decide +kernel
theorem dX2_restore_19 : decode cX2_restore 19 = .ok (.iload_n 2, 1) := by decide +kernel
theorem dX2_restore_20 : decode cX2_restore 20 = .ok (.aaload, 1) := by decide +kernel
theorem dX2_restore_21 : decode cX2_restore 21 = .ok (.invokevirtual 31, 3) := by decide +kernel
theorem dX2_restore_24 : decode cX2_restore 24 = .ok (.aload_n 0, 1) := by decide +kernel
theorem dX2_restore_25 : decode cX2_restore 25 = .ok (.iconst 0, 1) := by decide +kernel
theorem dX2_restore_26 : decode cX2_restore 26 = .ok (.putfield 21, 3) := by decide +kernel
theorem dX2_restore_29 : decode cX2_restore 29 = .ok (.iconst 1, 1) := by decide +kernel
theorem dX2_restore_30 : decode cX2_restore 30 = .ok (.ireturn, 1) := by decide +kernel
theorem dX3_init_0 : decode cX3_init 0 = .ok (.aload_n 0, 1) := by decide +kernel
theorem dX3_init_1 : decode cX3_init 1 = .ok (.invokespecial 3, 3) := by decide +kernel
theorem dX3_init_4 : decode cX3_init 4 = .ok (.aload_n 0, 1) := by decide +kernel
theorem dX3_init_5 : decode cX3_init 5 = .ok (.bipush 6, 2) := by decide +kernel
theorem dX3_init_7 : decode cX3_init 7 = .ok (.newarray .int, 2) := by decide +kernel
theorem dX3_init_9 : decode cX3_init 9 = .ok (.putfield 11, 3) := by decide +kernel
theorem dX3_init_12 : decode cX3_init 12 = .ok (.aload_n 0, 1) := by decide +kernel
theorem dX3_init_13 : decode cX3_init 13 = .ok (.bipush 6, 2) := by decide +kernel
theorem dX3_init_15 : decode cX3_init 15 = .ok (.newarray .int, 2) := by decide +kernel
theorem dX3_init_17 : decode cX3_init 17 = .ok (.putfield 17, 3) := by decide +kernel
theorem dX3_init_20 : decode cX3_init 20 = .ok (.aload_n 0, 1) := by decide +kernel
theorem dX3_init_21 : decode cX3_init 21 = .ok (.bipush 7, 2) := by decide +kernel
theorem dX3_init_23 : decode cX3_init 23 = .ok (.newarray .int, 2) := by decide +kernel
theorem dX3_init_25 : decode cX3_init 25 = .ok (.putfield 20, 3) := by decide +kernel
theorem dX3_init_28 : decode cX3_init 28 = .ok (.return_, 1) := by decide +kernel
theorem dX3_start_0 : decode cX3_start 0 = .ok (.aload_n 0, 1) := by decide +kernel
theorem dX3_start_1 : decode cX3_start 1 = .ok (.iconst 0, 1) := by decide +kernel
theorem dX3_start_2 : decode cX3_start 2 = .ok (.putfield 23, 3) := by decide +kernel
theorem dX3_start_5 : decode cX3_start 5 = .ok (.aload_n 0, 1) := by decide +kernel
theorem dX3_start_6 : decode cX3_start 6 = .ok (.iconst 0, 1) := by decide +kernel
theorem dX3_start_7 : decode cX3_start 7 = .ok (.putfield 27, 3) := by decide +kernel
theorem dX3_start_10 : decode cX3_start 10 = .ok (.aload_n 0, 1) := by decide +kernel
theorem dX3_start_11 : decode cX3_start 11 = .ok (.iconst 0, 1) := by decide +kernel
theorem dX3_start_12 : decode cX3_start 12 = .ok (.putfield 30, 3) := by decide +kernel
theorem dX3_start_15 : decode cX3_start 15 = .ok (.iconst 0, 1) := by decide +kernel
theorem dX3_start_16 : decode cX3_start 16 = .ok (.istore_n 2, 1) := by decide +kernel
theorem dX3_start_17 : decode cX3_start 17 = .ok (.iload_n 2, 1) := by decide +kernel
theorem dX3_start_18 : decode cX3_start 18 = .ok (.bipush 6, 2) := by decide +kernel
theorem dX3_start_20 : decode cX3_start 20 = .ok (.if_icmp .ge 28, 3) := by decide +kernel
theorem dX3_start_23 : decode cX3_start 23 = .ok (.aload_n 0, 1) := by decide +kernel
theorem dX3_start_24 : decode cX3_start 24 = .ok (.getfield 11, 3) := by decide +kernel
theorem dX3_start_27 : decode cX3_start 27 = .ok (.iload_n 2, 1) := by decide +kernel
theorem dX3_start_28 : decode cX3_start 28 = .ok (.aload_n 1, 1) := by decide +kernel
theorem dX3_start_29 : decode cX3_start 29 = .ok (.getfield 33, 3) := by decide +kernel
theorem dX3_start_32 : decode cX3_start 32 = .ok (.iload_n 2, 1) := by decide +kernel
theorem dX3_start_33 : decode cX3_start 33 = .ok (.iaload, 1) := by decide +kernel
theorem dX3_start_34 : decode cX3_start 34 = .ok (.iastore, 1) := by decide +kernel
theorem dX3_start_35 : decode cX3_start 35 = .ok (.aload_n 0, 1) := by decide +kernel
theorem dX3_start_36 : decode cX3_start 36 = .ok (.getfield 17, 3) := by decide +kernel
theorem dX3_start_39 : decode cX3_start 39 = .ok (.iload_n 2, 1) := by decide +kernel
theorem dX3_start_40 : decode cX3_start 40 = .ok (.iconst 0, 1) := by decide +kernel
theorem dX3_start_41 : decode cX3_start 41 = .ok (.iastore, 1) := by decide +kernel
theorem dX3_start_42 : decode cX3_start 42 = .ok (.iinc 2 1, 3) := by decide +kernel
theorem dX3_start_45 : decode cX3_start 45 = .ok (.goto (-28), 3) := by decide +kernel
theorem dX3_start_48 : decode cX3_start 48 = .ok (.iconst 0, 1) := by decide +kernel
theorem dX3_start_49 : decode cX3_start 49 = .ok (.istore_n 2, 1) := by decide +kernel
theorem dX3_start_50 : decode cX3_start 50 = .ok (.iload_n 2, 1) := by decide +kernel
theorem dX3_start_51 : decode cX3_start 51 = .ok (.bipush 7, 2) := by decide +kernel
theorem dX3_start_53 : decode cX3_start 53 = .ok (.if_icmp .ge 16, 3) := by decide +kernel
theorem dX3_start_56 : decode cX3_start 56 = .ok (.aload_n 0, 1) := by decide +kernel
theorem dX3_start_57 : decode cX3_start 57 = .ok (.getfield 20, 3) := by decide +kernel
theorem dX3_start_60 : decode cX3_start 60 = .ok (.iload_n 2, 1) := by decide +kernel
theorem dX3_start_61 : decode cX3_start 61 = .ok (.iconst 0, 1) := by decide +kernel
theorem dX3_start_62 : decode cX3_start 62 = .ok (.iastore, 1) := by decide +kernel
theorem dX3_start_63 : decode cX3_start 63 = .ok (.iinc 2 1, 3) := by decide +kernel
theorem dX3_start_66 : decode cX3_start 66 = .ok (.goto (-16), 3) := by decide +kernel
theorem dX3_start_69 : decode cX3_start 69 = .ok (.return_, 1) := by decide +kernel
theorem dX3_copy_0 : decode cX3_copy 0 = .ok (.aload_n 0, 1) := by decide +kernel
theorem dX3_copy_1 : decode cX3_copy 1 = .ok (.aload_n 1, 1) := by decide +kernel
theorem dX3_copy_2 : decode cX3_copy 2 = .ok (.getfield 23, 3) := by decide +kernel
theorem dX3_copy_5 : decode cX3_copy 5 = .ok (.putfield 23, 3) := by decide +kernel
theorem dX3_copy_8 : decode cX3_copy 8 = .ok (.aload_n 0, 1) := by decide +kernel
theorem dX3_copy_9 : decode cX3_copy 9 = .ok (.aload_n 1, 1) := by decide +kernel
theorem dX3_copy_10 : decode cX3_copy 10 = .ok (.getfield 27, 3) := by decide +kernel
theorem dX3_copy_13 : decode cX3_copy 13 = .ok (.putfield 27, 3) := by decide +kernel
theorem dX3_copy_16 : decode cX3_copy 16 = .ok (.aload_n 0, 1) := by decide +kernel
theorem dX3_copy_17 : decode cX3_copy 17 = .ok (.aload_n 1, 1) := by decide +kernel
theorem dX3_copy_18 : decode cX3_copy 18 = .ok (.getfield 30, 3) := by decide +kernel
theorem dX3_copy_21 : decode cX3_copy 21 = .ok (.putfield 30, 3) := by decide +kernel
theorem dX3_copy_24 : decode cX3_copy 24 = .ok (.aload_n 1, 1) := by decide +kernel
theorem dX3_copy_25 : decode cX3_copy 25 = .ok (.getfield 11, 3) := by decide +kernel
theorem dX3_copy_28 : decode cX3_copy 28 = .ok (.iconst 0, 1) := by decide +kernel
theorem dX3_copy_29 : decode cX3_copy 29 = .ok (.aload_n 0, 1) := by decide +kernel
theorem dX3_copy_30 : decode cX3_copy 30 = .ok (.getfield 11, 3) := by decide +kernel
theorem dX3_copy_33 : decode cX3_copy 33 = .ok (.iconst 0, 1) := by decide +kernel
theorem dX3_copy_34 : decode cX3_copy 34 = .ok (.bipush 6, 2) := by decide +kernel
theorem dX3_copy_36 : decode cX3_copy 36 = .ok (.invokestatic 34, 3) := by decide +kernel
theorem dX3_copy_39 : decode cX3_copy 39 = .ok (.aload_n 1, 1) := by decide +kernel
theorem dX3_copy_40 : decode cX3_copy 40 = .ok (.getfield 17, 3) := by decide +kernel
theorem dX3_copy_43 : decode cX3_copy 43 = .ok (.iconst 0, 1) := by decide +kernel
theorem dX3_copy_44 : decode cX3_copy 44 = .ok (.aload_n 0, 1) := by decide +kernel
theorem dX3_copy_45 : decode cX3_copy 45 = .ok (.getfield 17, 3) := by decide +kernel
theorem dX3_copy_48 : decode cX3_copy 48 = .ok (.iconst 0, 1) := by decide +kernel
theorem dX3_copy_49 : decode cX3_copy 49 = .ok (.bipush 6, 2) := by decide +kernel
theorem dX3_copy_51 : decode cX3_copy 51 = .ok (.invokestatic 34, 3) := by decide +kernel
theorem dX3_copy_54 : decode cX3_copy 54 = .ok (.aload_n 1, 1) := by decide +kernel
theorem dX3_copy_55 : decode cX3_copy 55 = .ok (.getfield 20, 3) := by decide +kernel
theorem dX3_copy_58 : decode cX3_copy 58 = .ok (.iconst 0, 1) := by decide +kernel
theorem dX3_copy_59 : decode cX3_copy 59 = .ok (.aload_n 0, 1) := by decide +kernel
theorem dX3_copy_60 : decode cX3_copy 60 = .ok (.getfield 20, 3) := by decide +kernel
theorem dX3_copy_63 : decode cX3_copy 63 = .ok (.iconst 0, 1) := by decide +kernel
theorem dX3_copy_64 : decode cX3_copy 64 = .ok (.bipush 7, 2) := by decide +kernel
theorem dX3_copy_66 : decode cX3_copy 66 = .ok (.invokestatic 34, 3) := by decide +kernel
theorem dX3_copy_69 : decode cX3_copy 69 = .ok (.return_, 1) := by decide +kernel
theorem dX3_isGone_0 : decode cX3_isGone 0 = .ok (.aload_n 0, 1) := by decide +kernel
theorem dX3_isGone_1 : decode cX3_isGone 1 = .ok (.getfield 30, 3) := by decide +kernel
theorem dX3_isGone_4 : decode cX3_isGone 4 = .ok (.iload_n 1, 1) := by decide +kernel
theorem dX3_isGone_5 : decode cX3_isGone 5 = .ok (.ishr, 1) := by decide +kernel
theorem dX3_isGone_6 : decode cX3_isGone 6 = .ok (.iconst 1, 1) := by decide +kernel
theorem dX3_isGone_7 : decode cX3_isGone 7 = .ok (.iand, 1) := by decide +kernel
theorem dX3_isGone_8 : decode cX3_isGone 8 = .ok (.ifCond .eq 7, 3) := by decide +kernel
theorem dX3_isGone_11 : decode cX3_isGone 11 = .ok (.iconst 1, 1) := by decide +kernel
theorem dX3_isGone_12 : decode cX3_isGone 12 = .ok (.goto 4, 3) := by decide +kernel
theorem dX3_isGone_15 : decode cX3_isGone 15 = .ok (.iconst 0, 1) := by decide +kernel
theorem dX3_isGone_16 : decode cX3_isGone 16 = .ok (.ireturn, 1) := by decide +kernel
theorem dX3_present_0 : decode cX3_present 0 = .ok (.iconst 1, 1) := by decide +kernel
theorem dX3_present_1 : decode cX3_present 1 = .ok (.aload_n 1, 1) := by decide +kernel
theorem dX3_present_2 : decode cX3_present 2 = .ok (.getfield 40, 3) := by decide +kernel
theorem dX3_present_5 : decode cX3_present 5 = .ok (.ishl, 1) := by decide +kernel
theorem dX3_present_6 : decode cX3_present 6 = .ok (.iconst 1, 1) := by decide +kernel
theorem dX3_present_7 : decode cX3_present 7 = .ok (.isub, 1) := by decide +kernel
theorem dX3_present_8 : decode cX3_present 8 = .ok (.aload_n 0, 1) := by decide +kernel
theorem dX3_present_9 : decode cX3_present 9 = .ok (.getfield 30, 3) := by decide +kernel
theorem dX3_present_12 : decode cX3_present 12 = .ok (.iconst (-1), 1) := by decide +kernel
theorem dX3_present_13 : decode cX3_present 13 = .ok (.ixor, 1) := by decide +kernel
theorem dX3_present_14 : decode cX3_present 14 = .ok (.iand, 1) := by decide +kernel
theorem dX3_present_15 : decode cX3_present 15 = .ok (.ireturn, 1) := by decide +kernel
theorem dX3_lacking_0 : decode cX3_lacking 0 = .ok (.aload_n 1, 1) := by decide +kernel
theorem dX3_lacking_1 : decode cX3_lacking 1 = .ok (.getfield 43, 3) := by decide +kernel
theorem dX3_lacking_4 : decode cX3_lacking 4 = .ok (.iload_n 2, 1) := by decide +kernel
theorem dX3_lacking_5 : decode cX3_lacking 5 = .ok (.iaload, 1) := by decide +kernel
theorem dX3_lacking_6 : decode cX3_lacking 6 = .ok (.aload_n 0, 1) := by decide +kernel
theorem dX3_lacking_7 : decode cX3_lacking 7 = .ok (.getfield 20, 3) := by decide +kernel
theorem dX3_lacking_10 : decode cX3_lacking 10 = .ok (.iload_n 2, 1) := by decide +kernel
theorem dX3_lacking_11 : decode cX3_lacking 11 = .ok (.iaload, 1) := by decide +kernel
theorem dX3_lacking_12 : decode cX3_lacking 12 = .ok (.isub, 1) := by decide +kernel
theorem dX3_lacking_13 : decode cX3_lacking 13 = .ok (.ireturn, 1) := by decide +kernel
theorem dX3_stateOn_0 : decode cX3_stateOn 0 = .ok (.aload_n 0, 1) := by decide +kernel
theorem dX3_stateOn_1 : decode cX3_stateOn 1 = .ok (.iload_n 2, 1) := by decide +kernel
theorem dX3_stateOn_2 : decode cX3_stateOn 2 = .ok (.invokevirtual 46, 3) := by decide +kernel
theorem dX3_stateOn_5 : decode cX3_stateOn 5 = .ok (.ifCond .eq 5, 3) := by decide +kernel
theorem dX3_stateOn_8 : decode cX3_stateOn 8 = .ok (.iconst 3, 1) := by decide +kernel
theorem dX3_stateOn_9 : decode cX3_stateOn 9 = .ok (.ireturn, 1) := by decide +kernel
theorem dX3_stateOn_10 : decode cX3_stateOn 10 = .ok (.iload_n 3, 1) := by decide +kernel
theorem dX3_stateOn_11 : decode cX3_stateOn 11 = .ok (.aload_n 1, 1) := by decide +kernel
theorem dX3_stateOn_12 : decode cX3_stateOn 12 = .ok (.getfield 50, 3) := by decide +kernel
theorem dX3_stateOn_15 : decode cX3_stateOn 15 = .ok (.iload_n 2, 1) := by decide +kernel
theorem dX3_stateOn_16 : decode cX3_stateOn 16 = .ok (.iaload, 1) := by decide +kernel
theorem dX3_stateOn_17 : decode cX3_stateOn 17 = .ok (.if_icmp .ge 5, 3) := by decide +kernel
theorem dX3_stateOn_20 : decode cX3_stateOn 20 = .ok (.iconst 0, 1) := by decide +kernel
theorem dX3_stateOn_21 : decode cX3_stateOn 21 = .ok (.ireturn, 1) := by decide +kernel
theorem dX3_stateOn_22 : decode cX3_stateOn 22 = .ok (.iload_n 3, 1) := by decide +kernel
theorem dX3_stateOn_23 : decode cX3_stateOn 23 = .ok (.aload_n 1, 1) := by decide +kernel
theorem dX3_stateOn_24 : decode cX3_stateOn 24 = .ok (.iload_n 2, 1) := by decide +kernel
theorem dX3_stateOn_25 : decode cX3_stateOn 25 = .ok (.invokevirtual 53, 3) := by decide +kernel
theorem dX3_stateOn_28 : decode cX3_stateOn 28 = .ok (.if_icmp .ge 7, 3) := by decide +kernel
theorem dX3_stateOn_31 : decode cX3_stateOn 31 = .ok (.iconst 1, 1) := by decide +kernel
theorem dX3_stateOn_32 : decode cX3_stateOn 32 = .ok (.goto 4, 3) := by decide +kernel
theorem dX3_stateOn_35 : decode cX3_stateOn 35 = .ok (.iconst 2, 1) := by decide +kernel
theorem dX3_stateOn_36 : decode cX3_stateOn 36 = .ok (.ireturn, 1) := by decide +kernel
theorem dX3_sitsOn_0 : decode cX3_sitsOn 0 = .ok (.aload_n 0, 1) := by decide +kernel
theorem dX3_sitsOn_1 : decode cX3_sitsOn 1 = .ok (.aload_n 1, 1) := by decide +kernel
theorem dX3_sitsOn_2 : decode cX3_sitsOn 2 = .ok (.iload_n 2, 1) := by decide +kernel
theorem dX3_sitsOn_3 : decode cX3_sitsOn 3 = .ok (.iload_n 3, 1) := by decide +kernel
theorem dX3_sitsOn_4 : decode cX3_sitsOn 4 = .ok (.invokevirtual 57, 3) := by decide +kernel
theorem dX3_sitsOn_7 : decode cX3_sitsOn 7 = .ok (.iconst 2, 1) := by decide +kernel
theorem dX3_sitsOn_8 : decode cX3_sitsOn 8 = .ok (.if_icmp .ne 7, 3) := by decide +kernel
theorem dX3_sitsOn_11 : decode cX3_sitsOn 11 = .ok (.iconst 1, 1) := by decide +kernel
theorem dX3_sitsOn_12 : decode cX3_sitsOn 12 = .ok (.goto 4, 3) := by decide +kernel
theorem dX3_sitsOn_15 : decode cX3_sitsOn 15 = .ok (.iconst 0, 1) := by decide +kernel
theorem dX3_sitsOn_16 : decode cX3_sitsOn 16 = .ok (.ireturn, 1) := by decide +kernel
theorem dX3_sitters_0 : decode cX3_sitters 0 = .ok (.iconst 0, 1) := by decide +kernel
theorem dX3_sitters_1 : decode cX3_sitters 1 = .ok (.istore 4, 2) := by decide +kernel
theorem dX3_sitters_3 : decode cX3_sitters 3 = .ok (.iconst 0, 1) := by decide +kernel
theorem dX3_sitters_4 : decode cX3_sitters 4 = .ok (.istore 5, 2) := by decide +kernel
theorem dX3_sitters_6 : decode cX3_sitters 6 = .ok (.iload 5, 2) := by decide +kernel
theorem dX3_sitters_8 : decode cX3_sitters 8 = .ok (.aload_n 1, 1) := by decide +kernel
theorem dX3_sitters_9 : decode cX3_sitters 9 = .ok (.getfield 40, 3) := by decide +kernel
theorem dX3_sitters_12 : decode cX3_sitters 12 = .ok (.if_icmp .ge 40, 3) := by decide +kernel
theorem dX3_sitters_15 : decode cX3_sitters 15 = .ok (.aload_n 1, 1) := by decide +kernel
theorem dX3_sitters_16 : decode cX3_sitters 16 = .ok (.getfield 61, 3) := by decide +kernel
theorem dX3_sitters_19 : decode cX3_sitters 19 = .ok (.iload 5, 2) := by decide +kernel
theorem dX3_sitters_21 : decode cX3_sitters 21 = .ok (.iaload, 1) := by decide +kernel
theorem dX3_sitters_22 : decode cX3_sitters 22 = .ok (.iload_n 2, 1) := by decide +kernel
theorem dX3_sitters_23 : decode cX3_sitters 23 = .ok (.if_icmp .ne 23, 3) := by decide +kernel
theorem dX3_sitters_26 : decode cX3_sitters 26 = .ok (.aload_n 0, 1) := by decide +kernel
theorem dX3_sitters_27 : decode cX3_sitters 27 = .ok (.aload_n 1, 1) := by decide +kernel
theorem dX3_sitters_28 : decode cX3_sitters 28 = .ok (.iload 5, 2) := by decide +kernel
theorem dX3_sitters_30 : decode cX3_sitters 30 = .ok (.iload_n 3, 1) := by decide +kernel
theorem dX3_sitters_31 : decode cX3_sitters 31 = .ok (.invokevirtual 64, 3) := by decide +kernel
theorem dX3_sitters_34 : decode cX3_sitters 34 = .ok (.ifCond .eq 12, 3) := by decide +kernel
theorem dX3_sitters_37 : decode cX3_sitters 37 = .ok (.iload 4, 2) := by decide +kernel
theorem dX3_sitters_39 : decode cX3_sitters 39 = .ok (.iconst 1, 1) := by decide +kernel
theorem dX3_sitters_40 : decode cX3_sitters 40 = .ok (.iload 5, 2) := by decide +kernel
theorem dX3_sitters_42 : decode cX3_sitters 42 = .ok (.ishl, 1) := by decide +kernel
theorem dX3_sitters_43 : decode cX3_sitters 43 = .ok (.ior, 1) := by decide +kernel
theorem dX3_sitters_44 : decode cX3_sitters 44 = .ok (.istore 4, 2) := by decide +kernel
theorem dX3_sitters_46 : decode cX3_sitters 46 = .ok (.iinc 5 1, 3) := by decide +kernel
theorem dX3_sitters_49 : decode cX3_sitters 49 = .ok (.goto (-43), 3) := by decide +kernel
theorem dX3_sitters_52 : decode cX3_sitters 52 = .ok (.iload 4, 2) := by decide +kernel
theorem dX3_sitters_54 : decode cX3_sitters 54 = .ok (.ireturn, 1) := by decide +kernel
theorem dX3_birdsFor_0 : decode cX3_birdsFor 0 = .ok (.iconst 0, 1) := by decide +kernel
theorem dX3_birdsFor_1 : decode cX3_birdsFor 1 = .ok (.istore_n 3, 1) := by decide +kernel
theorem dX3_birdsFor_2 : decode cX3_birdsFor 2 = .ok (.iconst 0, 1) := by decide +kernel
theorem dX3_birdsFor_3 : decode cX3_birdsFor 3 = .ok (.istore 4, 2) := by decide +kernel
theorem dX3_birdsFor_5 : decode cX3_birdsFor 5 = .ok (.iload 4, 2) := by decide +kernel
theorem dX3_birdsFor_7 : decode cX3_birdsFor 7 = .ok (.aload_n 1, 1) := by decide +kernel
theorem dX3_birdsFor_8 : decode cX3_birdsFor 8 = .ok (.getfield 40, 3) := by decide +kernel
theorem dX3_birdsFor_11 : decode cX3_birdsFor 11 = .ok (.if_icmp .ge 36, 3) := by decide +kernel
theorem dX3_birdsFor_14 : decode cX3_birdsFor 14 = .ok (.aload_n 1, 1) := by decide +kernel
theorem dX3_birdsFor_15 : decode cX3_birdsFor 15 = .ok (.getfield 68, 3) := by decide +kernel
theorem dX3_birdsFor_18 : decode cX3_birdsFor 18 = .ok (.iload 4, 2) := by decide +kernel
theorem dX3_birdsFor_20 : decode cX3_birdsFor 20 = .ok (.iaload, 1) := by decide +kernel
theorem dX3_birdsFor_21 : decode cX3_birdsFor 21 = .ok (.iload_n 2, 1) := by decide +kernel
theorem dX3_birdsFor_22 : decode cX3_birdsFor 22 = .ok (.if_icmp .ne 19, 3) := by decide +kernel
theorem dX3_birdsFor_25 : decode cX3_birdsFor 25 = .ok (.aload_n 0, 1) := by decide +kernel
theorem dX3_birdsFor_26 : decode cX3_birdsFor 26 = .ok (.iload 4, 2) := by decide +kernel
theorem dX3_birdsFor_28 : decode cX3_birdsFor 28 = .ok (.invokevirtual 46, 3) := by decide +kernel
theorem dX3_birdsFor_31 : decode cX3_birdsFor 31 = .ok (.ifCond .ne 10, 3) := by decide +kernel
theorem dX3_birdsFor_34 : decode cX3_birdsFor 34 = .ok (.iload_n 3, 1) := by decide +kernel
theorem dX3_birdsFor_35 : decode cX3_birdsFor 35 = .ok (.iconst 1, 1) := by decide +kernel
theorem dX3_birdsFor_36 : decode cX3_birdsFor 36 = .ok (.iload 4, 2) := by decide +kernel
theorem dX3_birdsFor_38 : decode cX3_birdsFor 38 = .ok (.ishl, 1) := by decide +kernel
theorem dX3_birdsFor_39 : decode cX3_birdsFor 39 = .ok (.ior, 1) := by decide +kernel
theorem dX3_birdsFor_40 : decode cX3_birdsFor 40 = .ok (.istore_n 3, 1) := by decide +kernel
theorem dX3_birdsFor_41 : decode cX3_birdsFor 41 = .ok (.iinc 4 1, 3) := by decide +kernel
theorem dX3_birdsFor_44 : decode cX3_birdsFor 44 = .ok (.goto (-39), 3) := by decide +kernel
theorem dX3_birdsFor_47 : decode cX3_birdsFor 47 = .ok (.iload_n 3, 1) := by decide +kernel
theorem dX3_birdsFor_48 : decode cX3_birdsFor 48 = .ok (.ireturn, 1) := by decide +kernel
theorem dX3_fullestHouse_0 : decode cX3_fullestHouse 0 = .ok (.iconst 0, 1) := by decide +kernel
theorem dX3_fullestHouse_1 : decode cX3_fullestHouse 1 = .ok (.istore_n 2, 1) := by decide +kernel
theorem dX3_fullestHouse_2 : decode cX3_fullestHouse 2 = .ok (.iconst 0, 1) := by decide +kernel
theorem dX3_fullestHouse_3 : decode cX3_fullestHouse 3 = .ok (.istore_n 3, 1) := by decide +kernel
theorem dX3_fullestHouse_4 : decode cX3_fullestHouse 4 = .ok (.iconst 0, 1) := by decide +kernel
theorem dX3_fullestHouse_5 : decode cX3_fullestHouse 5 = .ok (.istore 4, 2) := by decide +kernel
theorem dX3_fullestHouse_7 : decode cX3_fullestHouse 7 = .ok (.iload 4, 2) := by decide +kernel
theorem dX3_fullestHouse_9 : decode cX3_fullestHouse 9 = .ok (.aload_n 1, 1) := by decide +kernel
theorem dX3_fullestHouse_10 : decode cX3_fullestHouse 10 = .ok (.getfield 71, 3) := by decide +kernel
theorem dX3_fullestHouse_13 : decode cX3_fullestHouse 13 = .ok (.if_icmp .ge 37, 3) := by decide +kernel
theorem dX3_fullestHouse_16 : decode cX3_fullestHouse 16 = .ok (.aload_n 0, 1) := by decide +kernel
theorem dX3_fullestHouse_17 : decode cX3_fullestHouse 17 = .ok (.aload_n 1, 1) := by decide +kernel
theorem dX3_fullestHouse_18 : decode cX3_fullestHouse 18 = .ok (.iload 4, 2) := by decide +kernel
theorem dX3_fullestHouse_20 : decode cX3_fullestHouse 20 = .ok (.aload_n 0, 1) := by decide +kernel
theorem dX3_fullestHouse_21 : decode cX3_fullestHouse 21 = .ok (.getfield 23, 3) := by decide +kernel
theorem dX3_fullestHouse_24 : decode cX3_fullestHouse 24 = .ok (.invokevirtual 74, 3) := by decide +kernel
theorem dX3_fullestHouse_27 : decode cX3_fullestHouse 27 = .ok (.invokestatic 77, 3) := by decide +kernel
theorem dX3_fullestHouse_30 : decode cX3_fullestHouse 30 = .ok (.istore 5, 2) := by decide +kernel
theorem dX3_fullestHouse_32 : decode cX3_fullestHouse 32 = .ok (.iload 5, 2) := by decide +kernel
theorem dX3_fullestHouse_34 : decode cX3_fullestHouse 34 = .ok (.iload_n 3, 1) := by decide +kernel
theorem dX3_fullestHouse_35 : decode cX3_fullestHouse 35 = .ok (.if_icmp .le 9, 3) := by decide +kernel
theorem dX3_fullestHouse_38 : decode cX3_fullestHouse 38 = .ok (.iload 4, 2) := by decide +kernel
theorem dX3_fullestHouse_40 : decode cX3_fullestHouse 40 = .ok (.istore_n 2, 1) := by decide +kernel
theorem dX3_fullestHouse_41 : decode cX3_fullestHouse 41 = .ok (.iload 5, 2) := by decide +kernel
theorem dX3_fullestHouse_43 : decode cX3_fullestHouse 43 = .ok (.istore_n 3, 1) := by decide +kernel
theorem dX3_fullestHouse_44 : decode cX3_fullestHouse 44 = .ok (.iinc 4 1, 3) := by decide +kernel
theorem dX3_fullestHouse_47 : decode cX3_fullestHouse 47 = .ok (.goto (-40), 3) := by decide +kernel
theorem dX3_fullestHouse_50 : decode cX3_fullestHouse 50 = .ok (.iload_n 2, 1) := by decide +kernel
theorem dX3_fullestHouse_51 : decode cX3_fullestHouse 51 = .ok (.ireturn, 1) := by decide +kernel
theorem dX3_housesWithoutGrudge_0 : decode cX3_housesWithoutGrudge 0 = .ok (.iconst 0, 1) := by decide +kernel
theorem dX3_housesWithoutGrudge_1 : decode cX3_housesWithoutGrudge 1 = .ok (.istore_n 2, 1) := by decide +kernel
theorem dX3_housesWithoutGrudge_2 : decode cX3_housesWithoutGrudge 2 = .ok (.iconst 0, 1) := by decide +kernel
theorem dX3_housesWithoutGrudge_3 : decode cX3_housesWithoutGrudge 3 = .ok (.istore_n 3, 1) := by decide +kernel
theorem dX3_housesWithoutGrudge_4 : decode cX3_housesWithoutGrudge 4 = .ok (.iload_n 3, 1) := by decide +kernel
theorem dX3_housesWithoutGrudge_5 : decode cX3_housesWithoutGrudge 5 = .ok (.aload_n 1, 1) := by decide +kernel
theorem dX3_housesWithoutGrudge_6 : decode cX3_housesWithoutGrudge 6 = .ok (.getfield 71, 3) := by decide +kernel
theorem dX3_housesWithoutGrudge_9 : decode cX3_housesWithoutGrudge 9 = .ok (.if_icmp .ge 24, 3) := by decide +kernel
theorem dX3_housesWithoutGrudge_12 : decode cX3_housesWithoutGrudge 12 = .ok (.aload_n 0, 1) := by decide +kernel
theorem dX3_housesWithoutGrudge_13 : decode cX3_housesWithoutGrudge 13 = .ok (.aload_n 1, 1) := by decide +kernel
theorem dX3_housesWithoutGrudge_14 : decode cX3_housesWithoutGrudge 14 = .ok (.iload_n 3, 1) := by decide +kernel
theorem dX3_housesWithoutGrudge_15 : decode cX3_housesWithoutGrudge 15 = .ok (.invokevirtual 82, 3) := by decide +kernel
theorem dX3_housesWithoutGrudge_18 : decode cX3_housesWithoutGrudge 18 = .ok (.ifCond .ne 9, 3) := by decide +kernel
theorem dX3_housesWithoutGrudge_21 : decode cX3_housesWithoutGrudge 21 = .ok (.iload_n 2, 1) := by decide +kernel
theorem dX3_housesWithoutGrudge_22 : decode cX3_housesWithoutGrudge 22 = .ok (.iconst 1, 1) := by decide +kernel
theorem dX3_housesWithoutGrudge_23 : decode cX3_housesWithoutGrudge 23 = .ok (.iload_n 3, 1) := by decide +kernel
theorem dX3_housesWithoutGrudge_24 : decode cX3_housesWithoutGrudge 24 = .ok (.ishl, 1) := by decide +kernel
theorem dX3_housesWithoutGrudge_25 : decode cX3_housesWithoutGrudge 25 = .ok (.ior, 1) := by decide +kernel
theorem dX3_housesWithoutGrudge_26 : decode cX3_housesWithoutGrudge 26 = .ok (.istore_n 2, 1) := by decide +kernel
theorem dX3_housesWithoutGrudge_27 : decode cX3_housesWithoutGrudge 27 = .ok (.iinc 3 1, 3) := by decide +kernel
theorem dX3_housesWithoutGrudge_30 : decode cX3_housesWithoutGrudge 30 = .ok (.goto (-26), 3) := by decide +kernel
theorem dX3_housesWithoutGrudge_33 : decode cX3_housesWithoutGrudge 33 = .ok (.iload_n 2, 1) := by decide +kernel
theorem dX3_housesWithoutGrudge_34 : decode cX3_housesWithoutGrudge 34 = .ok (.ireturn, 1) := by decide +kernel
theorem dX3_whiteBehind_0 : decode cX3_whiteBehind 0 = .ok (.aload_n 0, 1) := by decide +kernel
theorem dX3_whiteBehind_1 : decode cX3_whiteBehind 1 = .ok (.getfield 17, 3) := by decide +kernel
theorem dX3_whiteBehind_4 : decode cX3_whiteBehind 4 = .ok (.iload_n 2, 1) := by decide +kernel
theorem dX3_whiteBehind_5 : decode cX3_whiteBehind 5 = .ok (.iaload, 1) := by decide +kernel
theorem dX3_whiteBehind_6 : decode cX3_whiteBehind 6 = .ok (.istore 4, 2) := by decide +kernel
theorem dX3_whiteBehind_8 : decode cX3_whiteBehind 8 = .ok (.iconst 0, 1) := by decide +kernel
theorem dX3_whiteBehind_9 : decode cX3_whiteBehind 9 = .ok (.istore 5, 2) := by decide +kernel
theorem dX3_whiteBehind_11 : decode cX3_whiteBehind 11 = .ok (.iload 5, 2) := by decide +kernel
theorem dX3_whiteBehind_13 : decode cX3_whiteBehind 13 = .ok (.aload_n 1, 1) := by decide +kernel
theorem dX3_whiteBehind_14 : decode cX3_whiteBehind 14 = .ok (.getfield 40, 3) := by decide +kernel
theorem dX3_whiteBehind_17 : decode cX3_whiteBehind 17 = .ok (.if_icmp .ge 61, 3) := by decide +kernel
theorem dX3_whiteBehind_20 : decode cX3_whiteBehind 20 = .ok (.aload_n 1, 1) := by decide +kernel
theorem dX3_whiteBehind_21 : decode cX3_whiteBehind 21 = .ok (.getfield 61, 3) := by decide +kernel
theorem dX3_whiteBehind_24 : decode cX3_whiteBehind 24 = .ok (.iload 5, 2) := by decide +kernel
theorem dX3_whiteBehind_26 : decode cX3_whiteBehind 26 = .ok (.iaload, 1) := by decide +kernel
theorem dX3_whiteBehind_27 : decode cX3_whiteBehind 27 = .ok (.iload_n 2, 1) := by decide +kernel
theorem dX3_whiteBehind_28 : decode cX3_whiteBehind 28 = .ok (.if_icmp .ne 44, 3) := by decide +kernel
theorem dX3_whiteBehind_31 : decode cX3_whiteBehind 31 = .ok (.aload_n 0, 1) := by decide +kernel
theorem dX3_whiteBehind_32 : decode cX3_whiteBehind 32 = .ok (.iload 5, 2) := by decide +kernel
theorem dX3_whiteBehind_34 : decode cX3_whiteBehind 34 = .ok (.invokevirtual 46, 3) := by decide +kernel
theorem dX3_whiteBehind_37 : decode cX3_whiteBehind 37 = .ok (.ifCond .ne 35, 3) := by decide +kernel
theorem dX3_whiteBehind_40 : decode cX3_whiteBehind 40 = .ok (.aload_n 0, 1) := by decide +kernel
theorem dX3_whiteBehind_41 : decode cX3_whiteBehind 41 = .ok (.getfield 23, 3) := by decide +kernel
theorem dX3_whiteBehind_44 : decode cX3_whiteBehind 44 = .ok (.iload_n 3, 1) := by decide +kernel
theorem dX3_whiteBehind_45 : decode cX3_whiteBehind 45 = .ok (.iadd, 1) := by decide +kernel
theorem dX3_whiteBehind_46 : decode cX3_whiteBehind 46 = .ok (.aload_n 1, 1) := by decide +kernel
theorem dX3_whiteBehind_47 : decode cX3_whiteBehind 47 = .ok (.iload 5, 2) := by decide +kernel
theorem dX3_whiteBehind_49 : decode cX3_whiteBehind 49 = .ok (.invokevirtual 53, 3) := by decide +kernel
theorem dX3_whiteBehind_52 : decode cX3_whiteBehind 52 = .ok (.isub, 1) := by decide +kernel
theorem dX3_whiteBehind_53 : decode cX3_whiteBehind 53 = .ok (.iconst 1, 1) := by decide +kernel
theorem dX3_whiteBehind_54 : decode cX3_whiteBehind 54 = .ok (.iadd, 1) := by decide +kernel
theorem dX3_whiteBehind_55 : decode cX3_whiteBehind 55 = .ok (.istore 6, 2) := by decide +kernel
theorem dX3_whiteBehind_57 : decode cX3_whiteBehind 57 = .ok (.iload 4, 2) := by decide +kernel
theorem dX3_whiteBehind_59 : decode cX3_whiteBehind 59 = .ok (.iconst 0, 1) := by decide +kernel
theorem dX3_whiteBehind_60 : decode cX3_whiteBehind 60 = .ok (.iload_n 3, 1) := by decide +kernel
theorem dX3_whiteBehind_61 : decode cX3_whiteBehind 61 = .ok (.iload 6, 2) := by decide +kernel
theorem dX3_whiteBehind_63 : decode cX3_whiteBehind 63 = .ok (.invokestatic 86, 3) := by decide +kernel
theorem dX3_whiteBehind_66 : decode cX3_whiteBehind 66 = .ok (.invokestatic 92, 3) := by decide +kernel
theorem dX3_whiteBehind_69 : decode cX3_whiteBehind 69 = .ok (.iadd, 1) := by decide +kernel
theorem dX3_whiteBehind_70 : decode cX3_whiteBehind 70 = .ok (.istore 4, 2) := by decide +kernel
theorem dX3_whiteBehind_72 : decode cX3_whiteBehind 72 = .ok (.iinc 5 1, 3) := by decide +kernel
theorem dX3_whiteBehind_75 : decode cX3_whiteBehind 75 = .ok (.goto (-64), 3) := by decide +kernel
theorem dX3_whiteBehind_78 : decode cX3_whiteBehind 78 = .ok (.iload 4, 2) := by decide +kernel
theorem dX3_whiteBehind_80 : decode cX3_whiteBehind 80 = .ok (.ireturn, 1) := by decide +kernel
theorem dX3_whitestHouse_0 : decode cX3_whitestHouse 0 = .ok (.iconst 0, 1) := by decide +kernel
theorem dX3_whitestHouse_1 : decode cX3_whitestHouse 1 = .ok (.istore_n 3, 1) := by decide +kernel
theorem dX3_whitestHouse_2 : decode cX3_whitestHouse 2 = .ok (.iconst 1, 1) := by decide +kernel
theorem dX3_whitestHouse_3 : decode cX3_whitestHouse 3 = .ok (.istore 4, 2) := by decide +kernel
theorem dX3_whitestHouse_5 : decode cX3_whitestHouse 5 = .ok (.iload 4, 2) := by decide +kernel
theorem dX3_whitestHouse_7 : decode cX3_whitestHouse 7 = .ok (.aload_n 1, 1) := by decide +kernel
theorem dX3_whitestHouse_8 : decode cX3_whitestHouse 8 = .ok (.getfield 71, 3) := by decide +kernel
theorem dX3_whitestHouse_11 : decode cX3_whitestHouse 11 = .ok (.if_icmp .ge 30, 3) := by decide +kernel
theorem dX3_whitestHouse_14 : decode cX3_whitestHouse 14 = .ok (.aload_n 0, 1) := by decide +kernel
theorem dX3_whitestHouse_15 : decode cX3_whitestHouse 15 = .ok (.aload_n 1, 1) := by decide +kernel
theorem dX3_whitestHouse_16 : decode cX3_whitestHouse 16 = .ok (.iload 4, 2) := by decide +kernel
theorem dX3_whitestHouse_18 : decode cX3_whitestHouse 18 = .ok (.iload_n 2, 1) := by decide +kernel
theorem dX3_whitestHouse_19 : decode cX3_whitestHouse 19 = .ok (.invokevirtual 95, 3) := by decide +kernel
theorem dX3_whitestHouse_22 : decode cX3_whitestHouse 22 = .ok (.aload_n 0, 1) := by decide +kernel
theorem dX3_whitestHouse_23 : decode cX3_whitestHouse 23 = .ok (.aload_n 1, 1) := by decide +kernel
theorem dX3_whitestHouse_24 : decode cX3_whitestHouse 24 = .ok (.iload_n 3, 1) := by decide +kernel
theorem dX3_whitestHouse_25 : decode cX3_whitestHouse 25 = .ok (.iload_n 2, 1) := by decide +kernel
theorem dX3_whitestHouse_26 : decode cX3_whitestHouse 26 = .ok (.invokevirtual 95, 3) := by decide +kernel
theorem dX3_whitestHouse_29 : decode cX3_whitestHouse 29 = .ok (.if_icmp .le 6, 3) := by decide +kernel
theorem dX3_whitestHouse_32 : decode cX3_whitestHouse 32 = .ok (.iload 4, 2) := by decide +kernel
theorem dX3_whitestHouse_34 : decode cX3_whitestHouse 34 = .ok (.istore_n 3, 1) := by decide +kernel
theorem dX3_whitestHouse_35 : decode cX3_whitestHouse 35 = .ok (.iinc 4 1, 3) := by decide +kernel
theorem dX3_whitestHouse_38 : decode cX3_whitestHouse 38 = .ok (.goto (-33), 3) := by decide +kernel
theorem dX3_whitestHouse_41 : decode cX3_whitestHouse 41 = .ok (.iload_n 3, 1) := by decide +kernel
theorem dX3_whitestHouse_42 : decode cX3_whitestHouse 42 = .ok (.ireturn, 1) := by decide +kernel
theorem dX3_daysTillSitting_0 : decode cX3_daysTillSitting 0 = .ok (.iconst 0, 1) := by decide +kernel
theorem dX3_daysTillSitting_1 : decode cX3_daysTillSitting 1 = .ok (.aload_n 1, 1) := by decide +kernel
theorem dX3_daysTillSitting_2 : decode cX3_daysTillSitting 2 = .ok (.iload_n 2, 1) := by decide +kernel
theorem dX3_daysTillSitting_3 : decode cX3_daysTillSitting 3 = .ok (.invokevirtual 53, 3) := by decide +kernel
theorem dX3_daysTillSitting_6 : decode cX3_daysTillSitting 6 = .ok (.aload_n 0, 1) := by decide +kernel
theorem dX3_daysTillSitting_7 : decode cX3_daysTillSitting 7 = .ok (.getfield 23, 3) := by decide +kernel
theorem dX3_daysTillSitting_10 : decode cX3_daysTillSitting 10 = .ok (.isub, 1) := by decide +kernel
theorem dX3_daysTillSitting_11 : decode cX3_daysTillSitting 11 = .ok (.invokestatic 92, 3) := by decide +kernel
theorem dX3_daysTillSitting_14 : decode cX3_daysTillSitting 14 = .ok (.istore 4, 2) := by decide +kernel
theorem dX3_daysTillSitting_16 : decode cX3_daysTillSitting 16 = .ok (.aload_n 0, 1) := by decide +kernel
theorem dX3_daysTillSitting_17 : decode cX3_daysTillSitting 17 = .ok (.iload_n 2, 1) := by decide +kernel
theorem dX3_daysTillSitting_18 : decode cX3_daysTillSitting 18 = .ok (.invokevirtual 46, 3) := by decide +kernel
theorem dX3_daysTillSitting_21 : decode cX3_daysTillSitting 21 = .ok (.ifCond .ne 9, 3) := by decide +kernel
theorem dX3_daysTillSitting_24 : decode cX3_daysTillSitting 24 = .ok (.iload 4, 2) := by decide +kernel
theorem dX3_daysTillSitting_26 : decode cX3_daysTillSitting 26 = .ok (.iload_n 3, 1) := by decide +kernel
theorem dX3_daysTillSitting_27 : decode cX3_daysTillSitting 27 = .ok (.if_icmp .le 8, 3) := by decide +kernel
theorem dX3_daysTillSitting_30 : decode cX3_daysTillSitting 30 = .ok (.bipush (-2), 2) := by decide +kernel
theorem dX3_daysTillSitting_32 : decode cX3_daysTillSitting 32 = .ok (.goto 5, 3) := by decide +kernel
theorem dX3_daysTillSitting_35 : decode cX3_daysTillSitting 35 = .ok (.iload 4, 2) := by decide +kernel
theorem dX3_daysTillSitting_37 : decode cX3_daysTillSitting 37 = .ok (.ireturn, 1) := by decide +kernel
theorem dX3_daysTillAllSit_0 : decode cX3_daysTillAllSit 0 = .ok (.iconst 0, 1) := by decide +kernel
theorem dX3_daysTillAllSit_1 : decode cX3_daysTillAllSit 1 = .ok (.istore_n 3, 1) := by decide +kernel
theorem dX3_daysTillAllSit_2 : decode cX3_daysTillAllSit 2 = .ok (.iconst 0, 1) := by decide +kernel
theorem dX3_daysTillAllSit_3 : decode cX3_daysTillAllSit 3 = .ok (.istore 4, 2) := by decide +kernel
theorem dX3_daysTillAllSit_5 : decode cX3_daysTillAllSit 5 = .ok (.iload 4, 2) := by decide +kernel
theorem dX3_daysTillAllSit_7 : decode cX3_daysTillAllSit 7 = .ok (.aload_n 1, 1) := by decide +kernel
theorem dX3_daysTillAllSit_8 : decode cX3_daysTillAllSit 8 = .ok (.getfield 40, 3) := by decide +kernel
theorem dX3_daysTillAllSit_11 : decode cX3_daysTillAllSit 11 = .ok (.if_icmp .ge 45, 3) := by decide +kernel
theorem dX3_daysTillAllSit_14 : decode cX3_daysTillAllSit 14 = .ok (.aload_n 0, 1) := by decide +kernel
theorem dX3_daysTillAllSit_15 : decode cX3_daysTillAllSit 15 = .ok (.iload 4, 2) := by decide +kernel
theorem dX3_daysTillAllSit_17 : decode cX3_daysTillAllSit 17 = .ok (.invokevirtual 46, 3) := by decide +kernel
theorem dX3_daysTillAllSit_20 : decode cX3_daysTillAllSit 20 = .ok (.ifCond .ne 30, 3) := by decide +kernel
theorem dX3_daysTillAllSit_23 : decode cX3_daysTillAllSit 23 = .ok (.aload_n 0, 1) := by decide +kernel
theorem dX3_daysTillAllSit_24 : decode cX3_daysTillAllSit 24 = .ok (.aload_n 1, 1) := by decide +kernel
theorem dX3_daysTillAllSit_25 : decode cX3_daysTillAllSit 25 = .ok (.iload 4, 2) := by decide +kernel
theorem dX3_daysTillAllSit_27 : decode cX3_daysTillAllSit 27 = .ok (.iload_n 2, 1) := by decide +kernel
theorem dX3_daysTillAllSit_28 : decode cX3_daysTillAllSit 28 = .ok (.invokevirtual 98, 3) := by decide +kernel
theorem dX3_daysTillAllSit_31 : decode cX3_daysTillAllSit 31 = .ok (.istore 5, 2) := by decide +kernel
theorem dX3_daysTillAllSit_33 : decode cX3_daysTillAllSit 33 = .ok (.iload 5, 2) := by decide +kernel
theorem dX3_daysTillAllSit_35 : decode cX3_daysTillAllSit 35 = .ok (.bipush (-2), 2) := by decide +kernel
theorem dX3_daysTillAllSit_37 : decode cX3_daysTillAllSit 37 = .ok (.if_icmp .ne 6, 3) := by decide +kernel
theorem dX3_daysTillAllSit_40 : decode cX3_daysTillAllSit 40 = .ok (.bipush (-2), 2) := by decide +kernel
theorem dX3_daysTillAllSit_42 : decode cX3_daysTillAllSit 42 = .ok (.ireturn, 1) := by decide +kernel
theorem dX3_daysTillAllSit_43 : decode cX3_daysTillAllSit 43 = .ok (.iload_n 3, 1) := by decide +kernel
theorem dX3_daysTillAllSit_44 : decode cX3_daysTillAllSit 44 = .ok (.iload 5, 2) := by decide +kernel
theorem dX3_daysTillAllSit_46 : decode cX3_daysTillAllSit 46 = .ok (.invokestatic 92, 3) := by decide +kernel
theorem dX3_daysTillAllSit_49 : decode cX3_daysTillAllSit 49 = .ok (.istore_n 3, 1) := by decide +kernel
theorem dX3_daysTillAllSit_50 : decode cX3_daysTillAllSit 50 = .ok (.iinc 4 1, 3) := by decide +kernel
theorem dX3_daysTillAllSit_53 : decode cX3_daysTillAllSit 53 = .ok (.goto (-48), 3) := by decide +kernel
theorem dX3_daysTillAllSit_56 : decode cX3_daysTillAllSit 56 = .ok (.iload_n 3, 1) := by decide +kernel
theorem dX3_daysTillAllSit_57 : decode cX3_daysTillAllSit 57 = .ok (.ireturn, 1) := by decide +kernel
theorem dX3_mostCrowded_0 : decode cX3_mostCrowded 0 = .ok (.iconst 0, 1) := by decide +kernel
theorem dX3_mostCrowded_1 : decode cX3_mostCrowded 1 = .ok (.istore_n 3, 1) := by decide +kernel
theorem dX3_mostCrowded_2 : decode cX3_mostCrowded 2 = .ok (.iconst 0, 1) := by decide +kernel
theorem dX3_mostCrowded_3 : decode cX3_mostCrowded 3 = .ok (.istore 4, 2) := by decide +kernel
theorem dX3_mostCrowded_5 : decode cX3_mostCrowded 5 = .ok (.iconst 0, 1) := by decide +kernel
theorem dX3_mostCrowded_6 : decode cX3_mostCrowded 6 = .ok (.istore 5, 2) := by decide +kernel
theorem dX3_mostCrowded_8 : decode cX3_mostCrowded 8 = .ok (.iload 5, 2) := by decide +kernel
theorem dX3_mostCrowded_10 : decode cX3_mostCrowded 10 = .ok (.iload_n 2, 1) := by decide +kernel
theorem dX3_mostCrowded_11 : decode cX3_mostCrowded 11 = .ok (.if_icmp .gt 60, 3) := by decide +kernel
theorem dX3_mostCrowded_14 : decode cX3_mostCrowded 14 = .ok (.iconst 0, 1) := by decide +kernel
theorem dX3_mostCrowded_15 : decode cX3_mostCrowded 15 = .ok (.istore 6, 2) := by decide +kernel
theorem dX3_mostCrowded_17 : decode cX3_mostCrowded 17 = .ok (.iload 6, 2) := by decide +kernel
theorem dX3_mostCrowded_19 : decode cX3_mostCrowded 19 = .ok (.aload_n 1, 1) := by decide +kernel
theorem dX3_mostCrowded_20 : decode cX3_mostCrowded 20 = .ok (.getfield 71, 3) := by decide +kernel
theorem dX3_mostCrowded_23 : decode cX3_mostCrowded 23 = .ok (.if_icmp .ge 42, 3) := by decide +kernel
theorem dX3_mostCrowded_26 : decode cX3_mostCrowded 26 = .ok (.aload_n 0, 1) := by decide +kernel
theorem dX3_mostCrowded_27 : decode cX3_mostCrowded 27 = .ok (.aload_n 1, 1) := by decide +kernel
theorem dX3_mostCrowded_28 : decode cX3_mostCrowded 28 = .ok (.iload 6, 2) := by decide +kernel
theorem dX3_mostCrowded_30 : decode cX3_mostCrowded 30 = .ok (.aload_n 0, 1) := by decide +kernel
theorem dX3_mostCrowded_31 : decode cX3_mostCrowded 31 = .ok (.getfield 23, 3) := by decide +kernel
theorem dX3_mostCrowded_34 : decode cX3_mostCrowded 34 = .ok (.iload 5, 2) := by decide +kernel
theorem dX3_mostCrowded_36 : decode cX3_mostCrowded 36 = .ok (.iadd, 1) := by decide +kernel
theorem dX3_mostCrowded_37 : decode cX3_mostCrowded 37 = .ok (.invokevirtual 74, 3) := by decide +kernel
theorem dX3_mostCrowded_40 : decode cX3_mostCrowded 40 = .ok (.invokestatic 77, 3) := by decide +kernel
theorem dX3_mostCrowded_43 : decode cX3_mostCrowded 43 = .ok (.istore 7, 2) := by decide +kernel
theorem dX3_mostCrowded_45 : decode cX3_mostCrowded 45 = .ok (.iload 7, 2) := by decide +kernel
theorem dX3_mostCrowded_47 : decode cX3_mostCrowded 47 = .ok (.iload 4, 2) := by decide +kernel
theorem dX3_mostCrowded_49 : decode cX3_mostCrowded 49 = .ok (.if_icmp .le 10, 3) := by decide +kernel
theorem dX3_mostCrowded_52 : decode cX3_mostCrowded 52 = .ok (.iload 5, 2) := by decide +kernel
theorem dX3_mostCrowded_54 : decode cX3_mostCrowded 54 = .ok (.istore_n 3, 1) := by decide +kernel
theorem dX3_mostCrowded_55 : decode cX3_mostCrowded 55 = .ok (.iload 7, 2) := by decide +kernel
theorem dX3_mostCrowded_57 : decode cX3_mostCrowded 57 = .ok (.istore 4, 2) := by decide +kernel
theorem dX3_mostCrowded_59 : decode cX3_mostCrowded 59 = .ok (.iinc 6 1, 3) := by decide +kernel
theorem dX3_mostCrowded_62 : decode cX3_mostCrowded 62 = .ok (.goto (-45), 3) := by decide +kernel
theorem dX3_mostCrowded_65 : decode cX3_mostCrowded 65 = .ok (.iinc 5 1, 3) := by decide +kernel
theorem dX3_mostCrowded_68 : decode cX3_mostCrowded 68 = .ok (.goto (-60), 3) := by decide +kernel
theorem dX3_mostCrowded_71 : decode cX3_mostCrowded 71 = .ok (.iload_n 3, 1) := by decide +kernel
theorem dX3_mostCrowded_72 : decode cX3_mostCrowded 72 = .ok (.ireturn, 1) := by decide +kernel
theorem dX3_emptyDays_0 : decode cX3_emptyDays 0 = .ok (.iconst 0, 1) := by decide +kernel
theorem dX3_emptyDays_1 : decode cX3_emptyDays 1 = .ok (.istore 4, 2) := by decide +kernel
theorem dX3_emptyDays_3 : decode cX3_emptyDays 3 = .ok (.iconst 0, 1) := by decide +kernel
theorem dX3_emptyDays_4 : decode cX3_emptyDays 4 = .ok (.istore 5, 2) := by decide +kernel
theorem dX3_emptyDays_6 : decode cX3_emptyDays 6 = .ok (.iload 5, 2) := by decide +kernel
theorem dX3_emptyDays_8 : decode cX3_emptyDays 8 = .ok (.iload_n 3, 1) := by decide +kernel
theorem dX3_emptyDays_9 : decode cX3_emptyDays 9 = .ok (.if_icmp .gt 28, 3) := by decide +kernel
theorem dX3_emptyDays_12 : decode cX3_emptyDays 12 = .ok (.aload_n 0, 1) := by decide +kernel
theorem dX3_emptyDays_13 : decode cX3_emptyDays 13 = .ok (.aload_n 1, 1) := by decide +kernel
theorem dX3_emptyDays_14 : decode cX3_emptyDays 14 = .ok (.iload_n 2, 1) := by decide +kernel
theorem dX3_emptyDays_15 : decode cX3_emptyDays 15 = .ok (.aload_n 0, 1) := by decide +kernel
theorem dX3_emptyDays_16 : decode cX3_emptyDays 16 = .ok (.getfield 23, 3) := by decide +kernel
theorem dX3_emptyDays_19 : decode cX3_emptyDays 19 = .ok (.iload 5, 2) := by decide +kernel
theorem dX3_emptyDays_21 : decode cX3_emptyDays 21 = .ok (.iadd, 1) := by decide +kernel
theorem dX3_emptyDays_22 : decode cX3_emptyDays 22 = .ok (.invokevirtual 74, 3) := by decide +kernel
theorem dX3_emptyDays_25 : decode cX3_emptyDays 25 = .ok (.ifCond .ne 6, 3) := by decide +kernel
theorem dX3_emptyDays_28 : decode cX3_emptyDays 28 = .ok (.iinc 4 1, 3) := by decide +kernel
theorem dX3_emptyDays_31 : decode cX3_emptyDays 31 = .ok (.iinc 5 1, 3) := by decide +kernel
theorem dX3_emptyDays_34 : decode cX3_emptyDays 34 = .ok (.goto (-28), 3) := by decide +kernel
theorem dX3_emptyDays_37 : decode cX3_emptyDays 37 = .ok (.iload 4, 2) := by decide +kernel
theorem dX3_emptyDays_39 : decode cX3_emptyDays 39 = .ok (.ireturn, 1) := by decide +kernel
theorem dX3_debt_0 : decode cX3_debt 0 = .ok (.iconst 0, 1) := by decide +kernel
theorem dX3_debt_1 : decode cX3_debt 1 = .ok (.istore_n 3, 1) := by decide +kernel
theorem dX3_debt_2 : decode cX3_debt 2 = .ok (.iconst 0, 1) := by decide +kernel
theorem dX3_debt_3 : decode cX3_debt 3 = .ok (.istore 4, 2) := by decide +kernel
theorem dX3_debt_5 : decode cX3_debt 5 = .ok (.iload 4, 2) := by decide +kernel
theorem dX3_debt_7 : decode cX3_debt 7 = .ok (.aload_n 1, 1) := by decide +kernel
theorem dX3_debt_8 : decode cX3_debt 8 = .ok (.getfield 40, 3) := by decide +kernel
theorem dX3_debt_11 : decode cX3_debt 11 = .ok (.if_icmp .ge 39, 3) := by decide +kernel
theorem dX3_debt_14 : decode cX3_debt 14 = .ok (.aload_n 1, 1) := by decide +kernel
theorem dX3_debt_15 : decode cX3_debt 15 = .ok (.getfield 68, 3) := by decide +kernel
theorem dX3_debt_18 : decode cX3_debt 18 = .ok (.iload 4, 2) := by decide +kernel
theorem dX3_debt_20 : decode cX3_debt 20 = .ok (.iaload, 1) := by decide +kernel
theorem dX3_debt_21 : decode cX3_debt 21 = .ok (.iload_n 2, 1) := by decide +kernel
theorem dX3_debt_22 : decode cX3_debt 22 = .ok (.if_icmp .ne 22, 3) := by decide +kernel
theorem dX3_debt_25 : decode cX3_debt 25 = .ok (.aload_n 0, 1) := by decide +kernel
theorem dX3_debt_26 : decode cX3_debt 26 = .ok (.iload 4, 2) := by decide +kernel
theorem dX3_debt_28 : decode cX3_debt 28 = .ok (.invokevirtual 46, 3) := by decide +kernel
theorem dX3_debt_31 : decode cX3_debt 31 = .ok (.ifCond .ne 13, 3) := by decide +kernel
theorem dX3_debt_34 : decode cX3_debt 34 = .ok (.iload_n 3, 1) := by decide +kernel
theorem dX3_debt_35 : decode cX3_debt 35 = .ok (.aload_n 0, 1) := by decide +kernel
theorem dX3_debt_36 : decode cX3_debt 36 = .ok (.aload_n 1, 1) := by decide +kernel
theorem dX3_debt_37 : decode cX3_debt 37 = .ok (.iload 4, 2) := by decide +kernel
theorem dX3_debt_39 : decode cX3_debt 39 = .ok (.invokevirtual 101, 3) := by decide +kernel
theorem dX3_debt_42 : decode cX3_debt 42 = .ok (.iadd, 1) := by decide +kernel
theorem dX3_debt_43 : decode cX3_debt 43 = .ok (.istore_n 3, 1) := by decide +kernel
theorem dX3_debt_44 : decode cX3_debt 44 = .ok (.iinc 4 1, 3) := by decide +kernel
theorem dX3_debt_47 : decode cX3_debt 47 = .ok (.goto (-42), 3) := by decide +kernel
theorem dX3_debt_50 : decode cX3_debt 50 = .ok (.iload_n 3, 1) := by decide +kernel
theorem dX3_debt_51 : decode cX3_debt 51 = .ok (.ireturn, 1) := by decide +kernel
theorem dX3_housesInDebt_0 : decode cX3_housesInDebt 0 = .ok (.iconst 0, 1) := by decide +kernel
theorem dX3_housesInDebt_1 : decode cX3_housesInDebt 1 = .ok (.istore_n 2, 1) := by decide +kernel
theorem dX3_housesInDebt_2 : decode cX3_housesInDebt 2 = .ok (.iconst 0, 1) := by decide +kernel
theorem dX3_housesInDebt_3 : decode cX3_housesInDebt 3 = .ok (.istore_n 3, 1) := by decide +kernel
theorem dX3_housesInDebt_4 : decode cX3_housesInDebt 4 = .ok (.iload_n 3, 1) := by decide +kernel
theorem dX3_housesInDebt_5 : decode cX3_housesInDebt 5 = .ok (.aload_n 1, 1) := by decide +kernel
theorem dX3_housesInDebt_6 : decode cX3_housesInDebt 6 = .ok (.getfield 71, 3) := by decide +kernel
theorem dX3_housesInDebt_9 : decode cX3_housesInDebt 9 = .ok (.if_icmp .ge 30, 3) := by decide +kernel
theorem dX3_housesInDebt_12 : decode cX3_housesInDebt 12 = .ok (.aload_n 0, 1) := by decide +kernel
theorem dX3_housesInDebt_13 : decode cX3_housesInDebt 13 = .ok (.getfield 11, 3) := by decide +kernel
theorem dX3_housesInDebt_16 : decode cX3_housesInDebt 16 = .ok (.iload_n 3, 1) := by decide +kernel
theorem dX3_housesInDebt_17 : decode cX3_housesInDebt 17 = .ok (.iaload, 1) := by decide +kernel
theorem dX3_housesInDebt_18 : decode cX3_housesInDebt 18 = .ok (.aload_n 0, 1) := by decide +kernel
theorem dX3_housesInDebt_19 : decode cX3_housesInDebt 19 = .ok (.aload_n 1, 1) := by decide +kernel
theorem dX3_housesInDebt_20 : decode cX3_housesInDebt 20 = .ok (.iload_n 3, 1) := by decide +kernel
theorem dX3_housesInDebt_21 : decode cX3_housesInDebt 21 = .ok (.invokevirtual 104, 3) := by decide +kernel
theorem dX3_housesInDebt_24 : decode cX3_housesInDebt 24 = .ok (.if_icmp .ge 9, 3) := by decide +kernel
theorem dX3_housesInDebt_27 : decode cX3_housesInDebt 27 = .ok (.iload_n 2, 1) := by decide +kernel
theorem dX3_housesInDebt_28 : decode cX3_housesInDebt 28 = .ok (.iconst 1, 1) := by decide +kernel
theorem dX3_housesInDebt_29 : decode cX3_housesInDebt 29 = .ok (.iload_n 3, 1) := by decide +kernel
theorem dX3_housesInDebt_30 : decode cX3_housesInDebt 30 = .ok (.ishl, 1) := by decide +kernel
theorem dX3_housesInDebt_31 : decode cX3_housesInDebt 31 = .ok (.ior, 1) := by decide +kernel
theorem dX3_housesInDebt_32 : decode cX3_housesInDebt 32 = .ok (.istore_n 2, 1) := by decide +kernel
theorem dX3_housesInDebt_33 : decode cX3_housesInDebt 33 = .ok (.iinc 3 1, 3) := by decide +kernel
theorem dX3_housesInDebt_36 : decode cX3_housesInDebt 36 = .ok (.goto (-32), 3) := by decide +kernel
theorem dX3_housesInDebt_39 : decode cX3_housesInDebt 39 = .ok (.iload_n 2, 1) := by decide +kernel
theorem dX3_housesInDebt_40 : decode cX3_housesInDebt 40 = .ok (.ireturn, 1) := by decide +kernel
theorem dX3_grudges_0 : decode cX3_grudges 0 = .ok (.iconst 0, 1) := by decide +kernel
theorem dX3_grudges_1 : decode cX3_grudges 1 = .ok (.istore 4, 2) := by decide +kernel
theorem dX3_grudges_3 : decode cX3_grudges 3 = .ok (.iconst 0, 1) := by decide +kernel
theorem dX3_grudges_4 : decode cX3_grudges 4 = .ok (.istore 5, 2) := by decide +kernel
theorem dX3_grudges_6 : decode cX3_grudges 6 = .ok (.iload 5, 2) := by decide +kernel
theorem dX3_grudges_8 : decode cX3_grudges 8 = .ok (.aload_n 1, 1) := by decide +kernel
theorem dX3_grudges_9 : decode cX3_grudges 9 = .ok (.getfield 40, 3) := by decide +kernel
theorem dX3_grudges_12 : decode cX3_grudges 12 = .ok (.if_icmp .ge 52, 3) := by decide +kernel
theorem dX3_grudges_15 : decode cX3_grudges 15 = .ok (.aload_n 1, 1) := by decide +kernel
theorem dX3_grudges_16 : decode cX3_grudges 16 = .ok (.getfield 107, 3) := by decide +kernel
theorem dX3_grudges_19 : decode cX3_grudges 19 = .ok (.iload 5, 2) := by decide +kernel
theorem dX3_grudges_21 : decode cX3_grudges 21 = .ok (.iaload, 1) := by decide +kernel
theorem dX3_grudges_22 : decode cX3_grudges 22 = .ok (.iload_n 2, 1) := by decide +kernel
theorem dX3_grudges_23 : decode cX3_grudges 23 = .ok (.if_icmp .ne 35, 3) := by decide +kernel
theorem dX3_grudges_26 : decode cX3_grudges 26 = .ok (.aload_n 1, 1) := by decide +kernel
theorem dX3_grudges_27 : decode cX3_grudges 27 = .ok (.getfield 68, 3) := by decide +kernel
theorem dX3_grudges_30 : decode cX3_grudges 30 = .ok (.iload 5, 2) := by decide +kernel
theorem dX3_grudges_32 : decode cX3_grudges 32 = .ok (.iaload, 1) := by decide +kernel
theorem dX3_grudges_33 : decode cX3_grudges 33 = .ok (.iload_n 3, 1) := by decide +kernel
theorem dX3_grudges_34 : decode cX3_grudges 34 = .ok (.if_icmp .ne 24, 3) := by decide +kernel
theorem dX3_grudges_37 : decode cX3_grudges 37 = .ok (.aload_n 0, 1) := by decide +kernel
theorem dX3_grudges_38 : decode cX3_grudges 38 = .ok (.iload 5, 2) := by decide +kernel
theorem dX3_grudges_40 : decode cX3_grudges 40 = .ok (.invokevirtual 46, 3) := by decide +kernel
theorem dX3_grudges_43 : decode cX3_grudges 43 = .ok (.ifCond .ne 15, 3) := by decide +kernel
theorem dX3_grudges_46 : decode cX3_grudges 46 = .ok (.iload 4, 2) := by decide +kernel
theorem dX3_grudges_48 : decode cX3_grudges 48 = .ok (.aload_n 0, 1) := by decide +kernel
theorem dX3_grudges_49 : decode cX3_grudges 49 = .ok (.aload_n 1, 1) := by decide +kernel
theorem dX3_grudges_50 : decode cX3_grudges 50 = .ok (.iload 5, 2) := by decide +kernel
theorem dX3_grudges_52 : decode cX3_grudges 52 = .ok (.invokevirtual 101, 3) := by decide +kernel
theorem dX3_grudges_55 : decode cX3_grudges 55 = .ok (.iadd, 1) := by decide +kernel
theorem dX3_grudges_56 : decode cX3_grudges 56 = .ok (.istore 4, 2) := by decide +kernel
theorem dX3_grudges_58 : decode cX3_grudges 58 = .ok (.iinc 5 1, 3) := by decide +kernel
theorem dX3_grudges_61 : decode cX3_grudges 61 = .ok (.goto (-55), 3) := by decide +kernel
theorem dX3_grudges_64 : decode cX3_grudges 64 = .ok (.iload 4, 2) := by decide +kernel
theorem dX3_grudges_66 : decode cX3_grudges 66 = .ok (.ireturn, 1) := by decide +kernel
theorem dX3_canPair_0 : decode cX3_canPair 0 = .ok (.aload_n 0, 1) := by decide +kernel
theorem dX3_canPair_1 : decode cX3_canPair 1 = .ok (.iload_n 2, 1) := by decide +kernel
theorem dX3_canPair_2 : decode cX3_canPair 2 = .ok (.invokevirtual 46, 3) := by decide +kernel
theorem dX3_canPair_5 : decode cX3_canPair 5 = .ok (.ifCond .ne 45, 3) := by decide +kernel
theorem dX3_canPair_8 : decode cX3_canPair 8 = .ok (.aload_n 0, 1) := by decide +kernel
theorem dX3_canPair_9 : decode cX3_canPair 9 = .ok (.iload_n 3, 1) := by decide +kernel
theorem dX3_canPair_10 : decode cX3_canPair 10 = .ok (.invokevirtual 46, 3) := by decide +kernel
theorem dX3_canPair_13 : decode cX3_canPair 13 = .ok (.ifCond .ne 37, 3) := by decide +kernel
theorem dX3_canPair_16 : decode cX3_canPair 16 = .ok (.aload_n 1, 1) := by decide +kernel
theorem dX3_canPair_17 : decode cX3_canPair 17 = .ok (.getfield 107, 3) := by decide +kernel
theorem dX3_canPair_20 : decode cX3_canPair 20 = .ok (.iload_n 2, 1) := by decide +kernel
theorem dX3_canPair_21 : decode cX3_canPair 21 = .ok (.iaload, 1) := by decide +kernel
theorem dX3_canPair_22 : decode cX3_canPair 22 = .ok (.aload_n 1, 1) := by decide +kernel
theorem dX3_canPair_23 : decode cX3_canPair 23 = .ok (.getfield 68, 3) := by decide +kernel
theorem dX3_canPair_26 : decode cX3_canPair 26 = .ok (.iload_n 3, 1) := by decide +kernel
theorem dX3_canPair_27 : decode cX3_canPair 27 = .ok (.iaload, 1) := by decide +kernel
theorem dX3_canPair_28 : decode cX3_canPair 28 = .ok (.if_icmp .ne 22, 3) := by decide +kernel
theorem dX3_canPair_31 : decode cX3_canPair 31 = .ok (.aload_n 1, 1) := by decide +kernel
theorem dX3_canPair_32 : decode cX3_canPair 32 = .ok (.getfield 107, 3) := by decide +kernel
theorem dX3_canPair_35 : decode cX3_canPair 35 = .ok (.iload_n 3, 1) := by decide +kernel
theorem dX3_canPair_36 : decode cX3_canPair 36 = .ok (.iaload, 1) := by decide +kernel
theorem dX3_canPair_37 : decode cX3_canPair 37 = .ok (.aload_n 1, 1) := by decide +kernel
theorem dX3_canPair_38 : decode cX3_canPair 38 = .ok (.getfield 68, 3) := by decide +kernel
theorem dX3_canPair_41 : decode cX3_canPair 41 = .ok (.iload_n 2, 1) := by decide +kernel
theorem dX3_canPair_42 : decode cX3_canPair 42 = .ok (.iaload, 1) := by decide +kernel
theorem dX3_canPair_43 : decode cX3_canPair 43 = .ok (.if_icmp .ne 7, 3) := by decide +kernel
theorem dX3_canPair_46 : decode cX3_canPair 46 = .ok (.iconst 1, 1) := by decide +kernel
theorem dX3_canPair_47 : decode cX3_canPair 47 = .ok (.goto 4, 3) := by decide +kernel
theorem dX3_canPair_50 : decode cX3_canPair 50 = .ok (.iconst 0, 1) := by decide +kernel
theorem dX3_canPair_51 : decode cX3_canPair 51 = .ok (.ireturn, 1) := by decide +kernel
theorem dX3_pairCost_0 : decode cX3_pairCost 0 = .ok (.aload_n 0, 1) := by decide +kernel
theorem dX3_pairCost_1 : decode cX3_pairCost 1 = .ok (.aload_n 1, 1) := by decide +kernel
theorem dX3_pairCost_2 : decode cX3_pairCost 2 = .ok (.iload_n 2, 1) := by decide +kernel
theorem dX3_pairCost_3 : decode cX3_pairCost 3 = .ok (.invokevirtual 101, 3) := by decide +kernel
theorem dX3_pairCost_6 : decode cX3_pairCost 6 = .ok (.aload_n 0, 1) := by decide +kernel
theorem dX3_pairCost_7 : decode cX3_pairCost 7 = .ok (.aload_n 1, 1) := by decide +kernel
theorem dX3_pairCost_8 : decode cX3_pairCost 8 = .ok (.iload_n 3, 1) := by decide +kernel
theorem dX3_pairCost_9 : decode cX3_pairCost 9 = .ok (.invokevirtual 101, 3) := by decide +kernel
theorem dX3_pairCost_12 : decode cX3_pairCost 12 = .ok (.isub, 1) := by decide +kernel
theorem dX3_pairCost_13 : decode cX3_pairCost 13 = .ok (.invokestatic 110, 3) := by decide +kernel
theorem dX3_pairCost_16 : decode cX3_pairCost 16 = .ok (.ireturn, 1) := by decide +kernel
theorem dX3_pairPayer_0 : decode cX3_pairPayer 0 = .ok (.aload_n 0, 1) := by decide +kernel
theorem dX3_pairPayer_1 : decode cX3_pairPayer 1 = .ok (.aload_n 1, 1) := by decide +kernel
theorem dX3_pairPayer_2 : decode cX3_pairPayer 2 = .ok (.iload_n 2, 1) := by decide +kernel
theorem dX3_pairPayer_3 : decode cX3_pairPayer 3 = .ok (.invokevirtual 101, 3) := by decide +kernel
theorem dX3_pairPayer_6 : decode cX3_pairPayer 6 = .ok (.aload_n 0, 1) := by decide +kernel
theorem dX3_pairPayer_7 : decode cX3_pairPayer 7 = .ok (.aload_n 1, 1) := by decide +kernel
theorem dX3_pairPayer_8 : decode cX3_pairPayer 8 = .ok (.iload_n 3, 1) := by decide +kernel
theorem dX3_pairPayer_9 : decode cX3_pairPayer 9 = .ok (.invokevirtual 101, 3) := by decide +kernel
theorem dX3_pairPayer_12 : decode cX3_pairPayer 12 = .ok (.if_icmp .lt 12, 3) := by decide +kernel
theorem dX3_pairPayer_15 : decode cX3_pairPayer 15 = .ok (.aload_n 1, 1) := by decide +kernel
theorem dX3_pairPayer_16 : decode cX3_pairPayer 16 = .ok (.getfield 68, 3) := by decide +kernel
theorem dX3_pairPayer_19 : decode cX3_pairPayer 19 = .ok (.iload_n 2, 1) := by decide +kernel
theorem dX3_pairPayer_20 : decode cX3_pairPayer 20 = .ok (.iaload, 1) := by decide +kernel
theorem dX3_pairPayer_21 : decode cX3_pairPayer 21 = .ok (.goto 9, 3) := by decide +kernel
theorem dX3_pairPayer_24 : decode cX3_pairPayer 24 = .ok (.aload_n 1, 1) := by decide +kernel
theorem dX3_pairPayer_25 : decode cX3_pairPayer 25 = .ok (.getfield 68, 3) := by decide +kernel
theorem dX3_pairPayer_28 : decode cX3_pairPayer 28 = .ok (.iload_n 3, 1) := by decide +kernel
theorem dX3_pairPayer_29 : decode cX3_pairPayer 29 = .ok (.iaload, 1) := by decide +kernel
theorem dX3_pairPayer_30 : decode cX3_pairPayer 30 = .ok (.ireturn, 1) := by decide +kernel
theorem dX3_passDay_0 : decode cX3_passDay 0 = .ok (.aload_n 0, 1) := by decide +kernel
theorem dX3_passDay_1 : decode cX3_passDay 1 = .ok (.dup, 1) := by decide +kernel
theorem dX3_passDay_2 : decode cX3_passDay 2 = .ok (.getfield 23, 3) := by decide +kernel
theorem dX3_passDay_5 : decode cX3_passDay 5 = .ok (.iconst 1, 1) := by decide +kernel
theorem dX3_passDay_6 : decode cX3_passDay 6 = .ok (.iadd, 1) := by decide +kernel
theorem dX3_passDay_7 : decode cX3_passDay 7 = .ok (.putfield 23, 3) := by decide +kernel
theorem dX3_passDay_10 : decode cX3_passDay 10 = .ok (.iconst 0, 1) := by decide +kernel
theorem dX3_passDay_11 : decode cX3_passDay 11 = .ok (.istore_n 2, 1) := by decide +kernel
theorem dX3_passDay_12 : decode cX3_passDay 12 = .ok (.iconst 0, 1) := by decide +kernel
theorem dX3_passDay_13 : decode cX3_passDay 13 = .ok (.istore_n 3, 1) := by decide +kernel
theorem dX3_passDay_14 : decode cX3_passDay 14 = .ok (.iload_n 3, 1) := by decide +kernel
theorem dX3_passDay_15 : decode cX3_passDay 15 = .ok (.aload_n 1, 1) := by decide +kernel
theorem dX3_passDay_16 : decode cX3_passDay 16 = .ok (.getfield 40, 3) := by decide +kernel
theorem dX3_passDay_19 : decode cX3_passDay 19 = .ok (.if_icmp .ge 40, 3) := by decide +kernel
theorem dX3_passDay_22 : decode cX3_passDay 22 = .ok (.aload_n 0, 1) := by decide +kernel
theorem dX3_passDay_23 : decode cX3_passDay 23 = .ok (.aload_n 1, 1) := by decide +kernel
theorem dX3_passDay_24 : decode cX3_passDay 24 = .ok (.iload_n 3, 1) := by decide +kernel
theorem dX3_passDay_25 : decode cX3_passDay 25 = .ok (.aload_n 0, 1) := by decide +kernel
theorem dX3_passDay_26 : decode cX3_passDay 26 = .ok (.getfield 23, 3) := by decide +kernel
theorem dX3_passDay_29 : decode cX3_passDay 29 = .ok (.invokevirtual 64, 3) := by decide +kernel
theorem dX3_passDay_32 : decode cX3_passDay 32 = .ok (.ifCond .eq 21, 3) := by decide +kernel
theorem dX3_passDay_35 : decode cX3_passDay 35 = .ok (.aload_n 0, 1) := by decide +kernel
theorem dX3_passDay_36 : decode cX3_passDay 36 = .ok (.getfield 17, 3) := by decide +kernel
theorem dX3_passDay_39 : decode cX3_passDay 39 = .ok (.aload_n 1, 1) := by decide +kernel
theorem dX3_passDay_40 : decode cX3_passDay 40 = .ok (.getfield 61, 3) := by decide +kernel
theorem dX3_passDay_43 : decode cX3_passDay 43 = .ok (.iload_n 3, 1) := by decide +kernel
theorem dX3_passDay_44 : decode cX3_passDay 44 = .ok (.iaload, 1) := by decide +kernel
theorem dX3_passDay_45 : decode cX3_passDay 45 = .ok (.dup2, 1) := by decide +kernel
theorem dX3_passDay_46 : decode cX3_passDay 46 = .ok (.iaload, 1) := by decide +kernel
theorem dX3_passDay_47 : decode cX3_passDay 47 = .ok (.iconst 1, 1) := by decide +kernel
theorem dX3_passDay_48 : decode cX3_passDay 48 = .ok (.iadd, 1) := by decide +kernel
theorem dX3_passDay_49 : decode cX3_passDay 49 = .ok (.iastore, 1) := by decide +kernel
theorem dX3_passDay_50 : decode cX3_passDay 50 = .ok (.iinc 2 1, 3) := by decide +kernel
theorem dX3_passDay_53 : decode cX3_passDay 53 = .ok (.iinc 3 1, 3) := by decide +kernel
theorem dX3_passDay_56 : decode cX3_passDay 56 = .ok (.goto (-42), 3) := by decide +kernel
theorem dX3_passDay_59 : decode cX3_passDay 59 = .ok (.iload_n 2, 1) := by decide +kernel
theorem dX3_passDay_60 : decode cX3_passDay 60 = .ok (.ireturn, 1) := by decide +kernel
theorem dX3_payFor_0 : decode cX3_payFor 0 = .ok (.aload_n 0, 1) := by decide +kernel
theorem dX3_payFor_1 : decode cX3_payFor 1 = .ok (.getfield 11, 3) := by decide +kernel
theorem dX3_payFor_4 : decode cX3_payFor 4 = .ok (.aload_n 1, 1) := by decide +kernel
theorem dX3_payFor_5 : decode cX3_payFor 5 = .ok (.getfield 68, 3) := by decide +kernel
theorem dX3_payFor_8 : decode cX3_payFor 8 = .ok (.iload_n 2, 1) := by decide +kernel
theorem dX3_payFor_9 : decode cX3_payFor 9 = .ok (.iaload, 1) := by decide +kernel
theorem dX3_payFor_10 : decode cX3_payFor 10 = .ok (.dup2, 1) := by decide +kernel
theorem dX3_payFor_11 : decode cX3_payFor 11 = .ok (.iaload, 1) := by decide +kernel
theorem dX3_payFor_12 : decode cX3_payFor 12 = .ok (.iload_n 3, 1) := by decide +kernel
theorem dX3_payFor_13 : decode cX3_payFor 13 = .ok (.isub, 1) := by decide +kernel
theorem dX3_payFor_14 : decode cX3_payFor 14 = .ok (.iastore, 1) := by decide +kernel
theorem dX3_payFor_15 : decode cX3_payFor 15 = .ok (.aload_n 0, 1) := by decide +kernel
theorem dX3_payFor_16 : decode cX3_payFor 16 = .ok (.dup, 1) := by decide +kernel
theorem dX3_payFor_17 : decode cX3_payFor 17 = .ok (.getfield 27, 3) := by decide +kernel
theorem dX3_payFor_20 : decode cX3_payFor 20 = .ok (.iload_n 3, 1) := by decide +kernel
theorem dX3_payFor_21 : decode cX3_payFor 21 = .ok (.iadd, 1) := by decide +kernel
theorem dX3_payFor_22 : decode cX3_payFor 22 = .ok (.putfield 27, 3) := by decide +kernel
theorem dX3_payFor_25 : decode cX3_payFor 25 = .ok (.aload_n 0, 1) := by decide +kernel
theorem dX3_payFor_26 : decode cX3_payFor 26 = .ok (.getfield 20, 3) := by decide +kernel
theorem dX3_payFor_29 : decode cX3_payFor 29 = .ok (.iload_n 2, 1) := by decide +kernel
theorem dX3_payFor_30 : decode cX3_payFor 30 = .ok (.dup2, 1) := by decide +kernel
theorem dX3_payFor_31 : decode cX3_payFor 31 = .ok (.iaload, 1) := by decide +kernel
theorem dX3_payFor_32 : decode cX3_payFor 32 = .ok (.iload_n 3, 1) := by decide +kernel
theorem dX3_payFor_33 : decode cX3_payFor 33 = .ok (.iadd, 1) := by decide +kernel
theorem dX3_payFor_34 : decode cX3_payFor 34 = .ok (.iastore, 1) := by decide +kernel
theorem dX3_payFor_35 : decode cX3_payFor 35 = .ok (.aload_n 0, 1) := by decide +kernel
theorem dX3_payFor_36 : decode cX3_payFor 36 = .ok (.aload_n 1, 1) := by decide +kernel
theorem dX3_payFor_37 : decode cX3_payFor 37 = .ok (.iload_n 2, 1) := by decide +kernel
theorem dX3_payFor_38 : decode cX3_payFor 38 = .ok (.invokevirtual 101, 3) := by decide +kernel
theorem dX3_payFor_41 : decode cX3_payFor 41 = .ok (.ifCond .ne 15, 3) := by decide +kernel
theorem dX3_payFor_44 : decode cX3_payFor 44 = .ok (.aload_n 0, 1) := by decide +kernel
theorem dX3_payFor_45 : decode cX3_payFor 45 = .ok (.dup, 1) := by decide +kernel
theorem dX3_payFor_46 : decode cX3_payFor 46 = .ok (.getfield 30, 3) := by decide +kernel
theorem dX3_payFor_49 : decode cX3_payFor 49 = .ok (.iconst 1, 1) := by decide +kernel
theorem dX3_payFor_50 : decode cX3_payFor 50 = .ok (.iload_n 2, 1) := by decide +kernel
theorem dX3_payFor_51 : decode cX3_payFor 51 = .ok (.ishl, 1) := by decide +kernel
theorem dX3_payFor_52 : decode cX3_payFor 52 = .ok (.ior, 1) := by decide +kernel
theorem dX3_payFor_53 : decode cX3_payFor 53 = .ok (.putfield 30, 3) := by decide +kernel
theorem dX3_payFor_56 : decode cX3_payFor 56 = .ok (.return_, 1) := by decide +kernel
theorem dX3_pair_0 : decode cX3_pair 0 = .ok (.aload_n 0, 1) := by decide +kernel
theorem dX3_pair_1 : decode cX3_pair 1 = .ok (.aload_n 1, 1) := by decide +kernel
theorem dX3_pair_2 : decode cX3_pair 2 = .ok (.iload_n 2, 1) := by decide +kernel
theorem dX3_pair_3 : decode cX3_pair 3 = .ok (.iload_n 3, 1) := by decide +kernel
theorem dX3_pair_4 : decode cX3_pair 4 = .ok (.invokevirtual 113, 3) := by decide +kernel
theorem dX3_pair_7 : decode cX3_pair 7 = .ok (.istore 4, 2) := by decide +kernel
theorem dX3_pair_9 : decode cX3_pair 9 = .ok (.aload_n 0, 1) := by decide +kernel
theorem dX3_pair_10 : decode cX3_pair 10 = .ok (.getfield 11, 3) := by decide +kernel
theorem dX3_pair_13 : decode cX3_pair 13 = .ok (.aload_n 0, 1) := by decide +kernel
theorem dX3_pair_14 : decode cX3_pair 14 = .ok (.aload_n 1, 1) := by decide +kernel
theorem dX3_pair_15 : decode cX3_pair 15 = .ok (.iload_n 2, 1) := by decide +kernel
theorem dX3_pair_16 : decode cX3_pair 16 = .ok (.iload_n 3, 1) := by decide +kernel
theorem dX3_pair_17 : decode cX3_pair 17 = .ok (.invokevirtual 116, 3) := by decide +kernel
theorem dX3_pair_20 : decode cX3_pair 20 = .ok (.dup2, 1) := by decide +kernel
theorem dX3_pair_21 : decode cX3_pair 21 = .ok (.iaload, 1) := by decide +kernel
theorem dX3_pair_22 : decode cX3_pair 22 = .ok (.iload 4, 2) := by decide +kernel
theorem dX3_pair_24 : decode cX3_pair 24 = .ok (.isub, 1) := by decide +kernel
theorem dX3_pair_25 : decode cX3_pair 25 = .ok (.iastore, 1) := by decide +kernel
theorem dX3_pair_26 : decode cX3_pair 26 = .ok (.aload_n 0, 1) := by decide +kernel
theorem dX3_pair_27 : decode cX3_pair 27 = .ok (.dup, 1) := by decide +kernel
theorem dX3_pair_28 : decode cX3_pair 28 = .ok (.getfield 27, 3) := by decide +kernel
theorem dX3_pair_31 : decode cX3_pair 31 = .ok (.iload 4, 2) := by decide +kernel
theorem dX3_pair_33 : decode cX3_pair 33 = .ok (.iadd, 1) := by decide +kernel
theorem dX3_pair_34 : decode cX3_pair 34 = .ok (.putfield 27, 3) := by decide +kernel
theorem dX3_pair_37 : decode cX3_pair 37 = .ok (.aload_n 0, 1) := by decide +kernel
theorem dX3_pair_38 : decode cX3_pair 38 = .ok (.dup, 1) := by decide +kernel
theorem dX3_pair_39 : decode cX3_pair 39 = .ok (.getfield 30, 3) := by decide +kernel
theorem dX3_pair_42 : decode cX3_pair 42 = .ok (.iconst 1, 1) := by decide +kernel
theorem dX3_pair_43 : decode cX3_pair 43 = .ok (.iload_n 2, 1) := by decide +kernel
theorem dX3_pair_44 : decode cX3_pair 44 = .ok (.ishl, 1) := by decide +kernel
theorem dX3_pair_45 : decode cX3_pair 45 = .ok (.iconst 1, 1) := by decide +kernel
theorem dX3_pair_46 : decode cX3_pair 46 = .ok (.iload_n 3, 1) := by decide +kernel
theorem dX3_pair_47 : decode cX3_pair 47 = .ok (.ishl, 1) := by decide +kernel
theorem dX3_pair_48 : decode cX3_pair 48 = .ok (.ior, 1) := by decide +kernel
theorem dX3_pair_49 : decode cX3_pair 49 = .ok (.ior, 1) := by decide +kernel
theorem dX3_pair_50 : decode cX3_pair 50 = .ok (.putfield 30, 3) := by decide +kernel
theorem dX3_pair_53 : decode cX3_pair 53 = .ok (.return_, 1) := by decide +kernel
theorem dX4_init_0 : decode cX4_init 0 = .ok (.aload_n 0, 1) := by decide +kernel
theorem dX4_init_1 : decode cX4_init 1 = .ok (.invokespecial 7, 3) := by decide +kernel
theorem dX4_init_4 : decode cX4_init 4 = .ok (.aload_n 0, 1) := by decide +kernel
theorem dX4_init_5 : decode cX4_init 5 = .ok (.new 13, 3) := by decide +kernel
theorem dX4_init_8 : decode cX4_init 8 = .ok (.dup, 1) := by decide +kernel
theorem dX4_init_9 : decode cX4_init 9 = .ok (.invokespecial 15, 3) := by decide +kernel
theorem dX4_init_12 : decode cX4_init 12 = .ok (.putfield 16, 3) := by decide +kernel
theorem dX4_init_15 : decode cX4_init 15 = .ok (.aload_n 0, 1) := by decide +kernel
theorem dX4_init_16 : decode cX4_init 16 = .ok (.bipush 16, 2) := by decide +kernel
theorem dX4_init_18 : decode cX4_init 18 = .ok (.newarray .long, 2) := by decide +kernel
theorem dX4_init_20 : decode cX4_init 20 = .ok (.putfield 22, 3) := by decide +kernel
theorem dX4_init_23 : decode cX4_init 23 = .ok (.aload_n 0, 1) := by decide +kernel
theorem dX4_init_24 : decode cX4_init 24 = .ok (.bipush 16, 2) := by decide +kernel
theorem dX4_init_26 : decode cX4_init 26 = .ok (.newarray .int, 2) := by decide +kernel
theorem dX4_init_28 : decode cX4_init 28 = .ok (.putfield 26, 3) := by decide +kernel
theorem dX4_init_31 : decode cX4_init 31 = .ok (.aload_n 0, 1) := by decide +kernel
theorem dX4_init_32 : decode cX4_init 32 = .ok (.new 1, 3) := by decide +kernel
theorem dX4_init_35 : decode cX4_init 35 = .ok (.dup, 1) := by decide +kernel
theorem dX4_init_36 : decode cX4_init 36 = .ok (.invokespecial 30, 3) := by decide +kernel
theorem dX4_init_39 : decode cX4_init 39 = .ok (.putfield 31, 3) := by decide +kernel
theorem dX4_init_42 : decode cX4_init 42 = .ok (.return_, 1) := by decide +kernel
theorem dX4_read_0 : decode cX4_read 0 = .ok (.aload_n 0, 1) := by decide +kernel
theorem dX4_read_1 : decode cX4_read 1 = .ok (.iconst 0, 1) := by decide +kernel
theorem dX4_read_2 : decode cX4_read 2 = .ok (.putfield 35, 3) := by decide +kernel
theorem dX4_read_5 : decode cX4_read 5 = .ok (.aload_n 0, 1) := by decide +kernel
theorem dX4_read_6 : decode cX4_read 6 = .ok (.iconst 0, 1) := by decide +kernel
theorem dX4_read_7 : decode cX4_read 7 = .ok (.putfield 39, 3) := by decide +kernel
theorem dX4_read_10 : decode cX4_read 10 = .ok (.aload_n 0, 1) := by decide +kernel
theorem dX4_read_11 : decode cX4_read 11 = .ok (.iconst 0, 1) := by decide +kernel
theorem dX4_read_12 : decode cX4_read 12 = .ok (.putfield 42, 3) := by decide +kernel
theorem dX4_read_15 : decode cX4_read 15 = .ok (.aload_n 0, 1) := by decide +kernel
theorem dX4_read_16 : decode cX4_read 16 = .ok (.iconst 0, 1) := by decide +kernel
theorem dX4_read_17 : decode cX4_read 17 = .ok (.putfield 45, 3) := by decide +kernel
theorem dX4_read_20 : decode cX4_read 20 = .ok (.aload_n 0, 1) := by decide +kernel
theorem dX4_read_21 : decode cX4_read 21 = .ok (.getfield 31, 3) := by decide +kernel
theorem dX4_read_24 : decode cX4_read 24 = .ok (.invokevirtual 49, 3) := by decide +kernel
theorem dX4_read_27 : decode cX4_read 27 = .ok (.aload_n 0, 1) := by decide +kernel
theorem dX4_read_28 : decode cX4_read 28 = .ok (.getfield 16, 3) := by decide +kernel
theorem dX4_read_31 : decode cX4_read 31 = .ok (.iload_n 1, 1) := by decide +kernel
theorem dX4_read_32 : decode cX4_read 32 = .ok (.invokevirtual 52, 3) := by decide +kernel
theorem dX4_read_35 : decode cX4_read 35 = .ok (.aload_n 0, 1) := by decide +kernel
theorem dX4_read_36 : decode cX4_read 36 = .ok (.invokevirtual 56, 3) := by decide +kernel
theorem dX4_read_39 : decode cX4_read 39 = .ok (.istore_n 2, 1) := by decide +kernel
theorem dX4_read_40 : decode cX4_read 40 = .ok (.iconst 0, 1) := by decide +kernel
theorem dX4_read_41 : decode cX4_read 41 = .ok (.istore_n 3, 1) := by decide +kernel
theorem dX4_read_42 : decode cX4_read 42 = .ok (.iload_n 3, 1) := by decide +kernel
theorem dX4_read_43 : decode cX4_read 43 = .ok (.sipush 900, 3) := by decide +kernel
theorem dX4_read_46 : decode cX4_read 46 = .ok (.if_icmp .ge 36, 3) := by decide +kernel
theorem dX4_read_49 : decode cX4_read 49 = .ok (.iload_n 2, 1) := by decide +kernel
theorem dX4_read_50 : decode cX4_read 50 = .ok (.ifCond .eq 32, 3) := by decide +kernel
theorem dX4_read_53 : decode cX4_read 53 = .ok (.aload_n 0, 1) := by decide +kernel
theorem dX4_read_54 : decode cX4_read 54 = .ok (.getfield 16, 3) := by decide +kernel
theorem dX4_read_57 : decode cX4_read 57 = .ok (.getfield 60, 3) := by decide +kernel
theorem dX4_read_60 : decode cX4_read 60 = .ok (.iconst 3, 1) := by decide +kernel
theorem dX4_read_61 : decode cX4_read 61 = .ok (.if_icmp .ne 21, 3) := by decide +kernel
theorem dX4_read_64 : decode cX4_read 64 = .ok (.aload_n 0, 1) := by decide +kernel
theorem dX4_read_65 : decode cX4_read 65 = .ok (.getfield 16, 3) := by decide +kernel
theorem dX4_read_68 : decode cX4_read 68 = .ok (.invokevirtual 63, 3) := by decide +kernel
theorem dX4_read_71 : decode cX4_read 71 = .ok (.aload_n 0, 1) := by decide +kernel
theorem dX4_read_72 : decode cX4_read 72 = .ok (.invokevirtual 56, 3) := by decide +kernel
theorem dX4_read_75 : decode cX4_read 75 = .ok (.istore_n 2, 1) := by decide +kernel
theorem dX4_read_76 : decode cX4_read 76 = .ok (.iinc 3 1, 3) := by decide +kernel
theorem dX4_read_79 : decode cX4_read 79 = .ok (.goto (-37), 3) := by decide +kernel
theorem dX4_read_82 : decode cX4_read 82 = .ok (.iload_n 2, 1) := by decide +kernel
theorem dX4_read_83 : decode cX4_read 83 = .ok (.ifCond .ne 5, 3) := by decide +kernel
theorem dX4_read_86 : decode cX4_read 86 = .ok (.iconst 0, 1) := by decide +kernel
theorem dX4_read_87 : decode cX4_read 87 = .ok (.ireturn, 1) := by decide +kernel
theorem dX4_read_88 : decode cX4_read 88 = .ok (.aload_n 0, 1) := by decide +kernel
theorem dX4_read_89 : decode cX4_read 89 = .ok (.getfield 16, 3) := by decide +kernel
theorem dX4_read_92 : decode cX4_read 92 = .ok (.getfield 60, 3) := by decide +kernel
theorem dX4_read_95 : decode cX4_read 95 = .ok (.ifCond .eq 9, 3) := by decide +kernel
theorem dX4_read_98 : decode cX4_read 98 = .ok (.aload_n 0, 1) := by decide +kernel
theorem dX4_read_99 : decode cX4_read 99 = .ok (.iconst 1, 1) := by decide +kernel
theorem dX4_read_100 : decode cX4_read 100 = .ok (.invokevirtual 66, 3) := by decide +kernel
theorem dX4_read_103 : decode cX4_read 103 = .ok (.ireturn, 1) := by decide +kernel
theorem dX4_read_104 : decode cX4_read 104 = .ok (.aload_n 0, 1) := by decide +kernel
theorem dX4_read_105 : decode cX4_read 105 = .ok (.getfield 31, 3) := by decide +kernel
theorem dX4_read_108 : decode cX4_read 108 = .ok (.getfield 70, 3) := by decide +kernel
theorem dX4_read_111 : decode cX4_read 111 = .ok (.iconst 2, 1) := by decide +kernel
theorem dX4_read_112 : decode cX4_read 112 = .ok (.if_icmp .ge 10, 3) := by decide +kernel
theorem dX4_read_115 : decode cX4_read 115 = .ok (.aload_n 0, 1) := by decide +kernel
theorem dX4_read_116 : decode cX4_read 116 = .ok (.bipush 6, 2) := by decide +kernel
theorem dX4_read_118 : decode cX4_read 118 = .ok (.invokevirtual 66, 3) := by decide +kernel
theorem dX4_read_121 : decode cX4_read 121 = .ok (.ireturn, 1) := by decide +kernel
theorem dX4_read_122 : decode cX4_read 122 = .ok (.aload_n 0, 1) := by decide +kernel
theorem dX4_read_123 : decode cX4_read 123 = .ok (.getfield 31, 3) := by decide +kernel
theorem dX4_read_126 : decode cX4_read 126 = .ok (.invokevirtual 73, 3) := by decide +kernel
theorem dX4_read_129 : decode cX4_read 129 = .ok (.iconst 1, 1) := by decide +kernel
theorem dX4_read_130 : decode cX4_read 130 = .ok (.ireturn, 1) := by decide +kernel
theorem dX4_fail_0 : decode cX4_fail 0 = .ok (.aload_n 0, 1) := by decide +kernel
theorem dX4_fail_1 : decode cX4_fail 1 = .ok (.iload_n 1, 1) := by decide +kernel
theorem dX4_fail_2 : decode cX4_fail 2 = .ok (.putfield 35, 3) := by decide +kernel
theorem dX4_fail_5 : decode cX4_fail 5 = .ok (.aload_n 0, 1) := by decide +kernel
theorem dX4_fail_6 : decode cX4_fail 6 = .ok (.aload_n 0, 1) := by decide +kernel
theorem dX4_fail_7 : decode cX4_fail 7 = .ok (.getfield 16, 3) := by decide +kernel
theorem dX4_fail_10 : decode cX4_fail 10 = .ok (.getfield 76, 3) := by decide +kernel
theorem dX4_fail_13 : decode cX4_fail 13 = .ok (.putfield 39, 3) := by decide +kernel
theorem dX4_fail_16 : decode cX4_fail 16 = .ok (.iconst 0, 1) := by decide +kernel
theorem dX4_fail_17 : decode cX4_fail 17 = .ok (.ireturn, 1) := by decide +kernel
theorem dX4_readLine_0 : decode cX4_readLine 0 = .ok (.aload_n 0, 1) := by decide +kernel
theorem dX4_readLine_1 : decode cX4_readLine 1 = .ok (.getfield 16, 3) := by decide +kernel
theorem dX4_readLine_4 : decode cX4_readLine 4 = .ok (.ldc 79, 2) := by decide +kernel
theorem dX4_readLine_6 : decode cX4_readLine 6 = .ok (.invokevirtual 81, 3) := by decide +kernel
theorem dX4_readLine_9 : decode cX4_readLine 9 = .ok (.ifCond .eq 23, 3) := by decide +kernel
theorem dX4_readLine_12 : decode cX4_readLine 12 = .ok (.aload_n 0, 1) := by decide +kernel
theorem dX4_readLine_13 : decode cX4_readLine 13 = .ok (.getfield 45, 3) := by decide +kernel
theorem dX4_readLine_16 : decode cX4_readLine 16 = .ok (.ifCond .eq 11, 3) := by decide +kernel
theorem dX4_readLine_19 : decode cX4_readLine 19 = .ok (.aload_n 0, 1) := by decide +kernel
theorem dX4_readLine_20 : decode cX4_readLine 20 = .ok (.iconst 3, 1) := by decide +kernel
theorem dX4_readLine_21 : decode cX4_readLine 21 = .ok (.invokevirtual 66, 3) := by decide +kernel
theorem dX4_readLine_24 : decode cX4_readLine 24 = .ok (.goto 7, 3) := by decide +kernel
theorem dX4_readLine_27 : decode cX4_readLine 27 = .ok (.aload_n 0, 1) := by decide +kernel
theorem dX4_readLine_28 : decode cX4_readLine 28 = .ok (.invokevirtual 85, 3) := by decide +kernel
theorem dX4_readLine_31 : decode cX4_readLine 31 = .ok (.ireturn, 1) := by decide +kernel
theorem dX4_readLine_32 : decode cX4_readLine 32 = .ok (.aload_n 0, 1) := by decide +kernel
theorem dX4_readLine_33 : decode cX4_readLine 33 = .ok (.getfield 16, 3) := by decide +kernel
theorem dX4_readLine_36 : decode cX4_readLine 36 = .ok (.ldc 88, 2) := by decide +kernel
theorem dX4_readLine_38 : decode cX4_readLine 38 = .ok (.invokevirtual 81, 3) := by decide +kernel
theorem dX4_readLine_41 : decode cX4_readLine 41 = .ok (.ifCond .eq 32, 3) := by decide +kernel
theorem dX4_readLine_44 : decode cX4_readLine 44 = .ok (.aload_n 0, 1) := by decide +kernel
theorem dX4_readLine_45 : decode cX4_readLine 45 = .ok (.aload_n 0, 1) := by decide +kernel
theorem dX4_readLine_46 : decode cX4_readLine 46 = .ok (.getfield 31, 3) := by decide +kernel
theorem dX4_readLine_49 : decode cX4_readLine 49 = .ok (.getfield 70, 3) := by decide +kernel
theorem dX4_readLine_52 : decode cX4_readLine 52 = .ok (.bipush 6, 2) := by decide +kernel
theorem dX4_readLine_54 : decode cX4_readLine 54 = .ok (.invokevirtual 90, 3) := by decide +kernel
theorem dX4_readLine_57 : decode cX4_readLine 57 = .ok (.ifCond .eq 14, 3) := by decide +kernel
theorem dX4_readLine_60 : decode cX4_readLine 60 = .ok (.aload_n 0, 1) := by decide +kernel
theorem dX4_readLine_61 : decode cX4_readLine 61 = .ok (.invokevirtual 94, 3) := by decide +kernel
theorem dX4_readLine_64 : decode cX4_readLine 64 = .ok (.ifCond .eq 7, 3) := by decide +kernel
theorem dX4_readLine_67 : decode cX4_readLine 67 = .ok (.iconst 1, 1) := by decide +kernel
theorem dX4_readLine_68 : decode cX4_readLine 68 = .ok (.goto 4, 3) := by decide +kernel
theorem dX4_readLine_71 : decode cX4_readLine 71 = .ok (.iconst 0, 1) := by decide +kernel
theorem dX4_readLine_72 : decode cX4_readLine 72 = .ok (.ireturn, 1) := by decide +kernel
theorem dX4_readLine_73 : decode cX4_readLine 73 = .ok (.aload_n 0, 1) := by decide +kernel
theorem dX4_readLine_74 : decode cX4_readLine 74 = .ok (.getfield 16, 3) := by decide +kernel
theorem dX4_readLine_77 : decode cX4_readLine 77 = .ok (.ldc 97, 2) := by decide +kernel
theorem dX4_readLine_79 : decode cX4_readLine 79 = .ok (.invokevirtual 81, 3) := by decide +kernel
theorem dX4_readLine_82 : decode cX4_readLine 82 = .ok (.ifCond .eq 32, 3) := by decide +kernel
theorem dX4_readLine_85 : decode cX4_readLine 85 = .ok (.aload_n 0, 1) := by decide +kernel
theorem dX4_readLine_86 : decode cX4_readLine 86 = .ok (.aload_n 0, 1) := by decide +kernel
theorem dX4_readLine_87 : decode cX4_readLine 87 = .ok (.getfield 31, 3) := by decide +kernel
theorem dX4_readLine_90 : decode cX4_readLine 90 = .ok (.getfield 99, 3) := by decide +kernel
theorem dX4_readLine_93 : decode cX4_readLine 93 = .ok (.bipush 7, 2) := by decide +kernel
theorem dX4_readLine_95 : decode cX4_readLine 95 = .ok (.invokevirtual 90, 3) := by decide +kernel
theorem dX4_readLine_98 : decode cX4_readLine 98 = .ok (.ifCond .eq 14, 3) := by decide +kernel
theorem dX4_readLine_101 : decode cX4_readLine 101 = .ok (.aload_n 0, 1) := by decide +kernel
theorem dX4_readLine_102 : decode cX4_readLine 102 = .ok (.invokevirtual 102, 3) := by decide +kernel
theorem dX4_readLine_105 : decode cX4_readLine 105 = .ok (.ifCond .eq 7, 3) := by decide +kernel
theorem dX4_readLine_108 : decode cX4_readLine 108 = .ok (.iconst 1, 1) := by decide +kernel
theorem dX4_readLine_109 : decode cX4_readLine 109 = .ok (.goto 4, 3) := by decide +kernel
theorem dX4_readLine_112 : decode cX4_readLine 112 = .ok (.iconst 0, 1) := by decide +kernel
theorem dX4_readLine_113 : decode cX4_readLine 113 = .ok (.ireturn, 1) := by decide +kernel
theorem dX4_readLine_114 : decode cX4_readLine 114 = .ok (.aload_n 0, 1) := by decide +kernel
theorem dX4_readLine_115 : decode cX4_readLine 115 = .ok (.getfield 16, 3) := by decide +kernel
theorem dX4_readLine_118 : decode cX4_readLine 118 = .ok (.ldc 105, 2) := by decide +kernel
theorem dX4_readLine_120 : decode cX4_readLine 120 = .ok (.invokevirtual 81, 3) := by decide +kernel
theorem dX4_readLine_123 : decode cX4_readLine 123 = .ok (.ifCond .eq 34, 3) := by decide +kernel
theorem dX4_readLine_126 : decode cX4_readLine 126 = .ok (.aload_n 0, 1) := by decide +kernel
theorem dX4_readLine_127 : decode cX4_readLine 127 = .ok (.aload_n 0, 1) := by decide +kernel
theorem dX4_readLine_128 : decode cX4_readLine 128 = .ok (.getfield 31, 3) := by decide +kernel
theorem dX4_readLine_131 : decode cX4_readLine 131 = .ok (.getfield 107, 3) := by decide +kernel
theorem dX4_readLine_134 : decode cX4_readLine 134 = .ok (.getfield 111, 3) := by decide +kernel
theorem dX4_readLine_137 : decode cX4_readLine 137 = .ok (.iconst 3, 1) := by decide +kernel
theorem dX4_readLine_138 : decode cX4_readLine 138 = .ok (.invokevirtual 90, 3) := by decide +kernel
theorem dX4_readLine_141 : decode cX4_readLine 141 = .ok (.ifCond .eq 14, 3) := by decide +kernel
theorem dX4_readLine_144 : decode cX4_readLine 144 = .ok (.aload_n 0, 1) := by decide +kernel
theorem dX4_readLine_145 : decode cX4_readLine 145 = .ok (.invokevirtual 114, 3) := by decide +kernel
theorem dX4_readLine_148 : decode cX4_readLine 148 = .ok (.ifCond .eq 7, 3) := by decide +kernel
theorem dX4_readLine_151 : decode cX4_readLine 151 = .ok (.iconst 1, 1) := by decide +kernel
theorem dX4_readLine_152 : decode cX4_readLine 152 = .ok (.goto 4, 3) := by decide +kernel
theorem dX4_readLine_155 : decode cX4_readLine 155 = .ok (.iconst 0, 1) := by decide +kernel
theorem dX4_readLine_156 : decode cX4_readLine 156 = .ok (.ireturn, 1) := by decide +kernel
theorem dX4_readLine_157 : decode cX4_readLine 157 = .ok (.aload_n 0, 1) := by decide +kernel
theorem dX4_readLine_158 : decode cX4_readLine 158 = .ok (.getfield 16, 3) := by decide +kernel
theorem dX4_readLine_161 : decode cX4_readLine 161 = .ok (.ldc 117, 2) := by decide +kernel
theorem dX4_readLine_163 : decode cX4_readLine 163 = .ok (.invokevirtual 81, 3) := by decide +kernel
theorem dX4_readLine_166 : decode cX4_readLine 166 = .ok (.ifCond .eq 34, 3) := by decide +kernel
theorem dX4_readLine_169 : decode cX4_readLine 169 = .ok (.aload_n 0, 1) := by decide +kernel
theorem dX4_readLine_170 : decode cX4_readLine 170 = .ok (.aload_n 0, 1) := by decide +kernel
theorem dX4_readLine_171 : decode cX4_readLine 171 = .ok (.getfield 31, 3) := by decide +kernel
theorem dX4_readLine_174 : decode cX4_readLine 174 = .ok (.getfield 107, 3) := by decide +kernel
theorem dX4_readLine_177 : decode cX4_readLine 177 = .ok (.getfield 119, 3) := by decide +kernel
theorem dX4_readLine_180 : decode cX4_readLine 180 = .ok (.iconst 5, 1) := by decide +kernel
theorem dX4_readLine_181 : decode cX4_readLine 181 = .ok (.invokevirtual 90, 3) := by decide +kernel
theorem dX4_readLine_184 : decode cX4_readLine 184 = .ok (.ifCond .eq 14, 3) := by decide +kernel
theorem dX4_readLine_187 : decode cX4_readLine 187 = .ok (.aload_n 0, 1) := by decide +kernel
theorem dX4_readLine_188 : decode cX4_readLine 188 = .ok (.invokevirtual 121, 3) := by decide +kernel
theorem dX4_readLine_191 : decode cX4_readLine 191 = .ok (.ifCond .eq 7, 3) := by decide +kernel
theorem dX4_readLine_194 : decode cX4_readLine 194 = .ok (.iconst 1, 1) := by decide +kernel
theorem dX4_readLine_195 : decode cX4_readLine 195 = .ok (.goto 4, 3) := by decide +kernel
theorem dX4_readLine_198 : decode cX4_readLine 198 = .ok (.iconst 0, 1) := by decide +kernel
theorem dX4_readLine_199 : decode cX4_readLine 199 = .ok (.ireturn, 1) := by decide +kernel
theorem dX4_readLine_200 : decode cX4_readLine 200 = .ok (.aload_n 0, 1) := by decide +kernel
theorem dX4_readLine_201 : decode cX4_readLine 201 = .ok (.iconst 1, 1) := by decide +kernel
theorem dX4_readLine_202 : decode cX4_readLine 202 = .ok (.invokevirtual 66, 3) := by decide +kernel
theorem dX4_readLine_205 : decode cX4_readLine 205 = .ok (.ireturn, 1) := by decide +kernel
theorem dX4_mayTell_0 : decode cX4_mayTell 0 = .ok (.aload_n 0, 1) := by decide +kernel
theorem dX4_mayTell_1 : decode cX4_mayTell 1 = .ok (.getfield 45, 3) := by decide +kernel
theorem dX4_mayTell_4 : decode cX4_mayTell 4 = .ok (.ifCond .ne 10, 3) := by decide +kernel
theorem dX4_mayTell_7 : decode cX4_mayTell 7 = .ok (.aload_n 0, 1) := by decide +kernel
theorem dX4_mayTell_8 : decode cX4_mayTell 8 = .ok (.bipush 6, 2) := by decide +kernel
theorem dX4_mayTell_10 : decode cX4_mayTell 10 = .ok (.invokevirtual 66, 3) := by decide +kernel
theorem dX4_mayTell_13 : decode cX4_mayTell 13 = .ok (.ireturn, 1) := by decide +kernel
theorem dX4_mayTell_14 : decode cX4_mayTell 14 = .ok (.iload_n 1, 1) := by decide +kernel
theorem dX4_mayTell_15 : decode cX4_mayTell 15 = .ok (.iload_n 2, 1) := by decide +kernel
theorem dX4_mayTell_16 : decode cX4_mayTell 16 = .ok (.if_icmp .lt 11, 3) := by decide +kernel
theorem dX4_mayTell_19 : decode cX4_mayTell 19 = .ok (.aload_n 0, 1) := by decide +kernel
theorem dX4_mayTell_20 : decode cX4_mayTell 20 = .ok (.iconst 5, 1) := by decide +kernel
theorem dX4_mayTell_21 : decode cX4_mayTell 21 = .ok (.invokevirtual 66, 3) := by decide +kernel
theorem dX4_mayTell_24 : decode cX4_mayTell 24 = .ok (.ifCond .eq 7, 3) := by decide +kernel
theorem dX4_mayTell_27 : decode cX4_mayTell 27 = .ok (.iconst 1, 1) := by decide +kernel
theorem dX4_mayTell_28 : decode cX4_mayTell 28 = .ok (.goto 4, 3) := by decide +kernel
theorem dX4_mayTell_31 : decode cX4_mayTell 31 = .ok (.iconst 0, 1) := by decide +kernel
theorem dX4_mayTell_32 : decode cX4_mayTell 32 = .ok (.ireturn, 1) := by decide +kernel
theorem dX4_readLoft_0 : decode cX4_readLoft 0 = .ok (.aload_n 0, 1) := by decide +kernel
theorem dX4_readLoft_1 : decode cX4_readLoft 1 = .ok (.getfield 16, 3) := by decide +kernel
theorem dX4_readLoft_4 : decode cX4_readLoft 4 = .ok (.invokevirtual 63, 3) := by decide +kernel
theorem dX4_readLoft_7 : decode cX4_readLoft 7 = .ok (.aload_n 0, 1) := by decide +kernel
theorem dX4_readLoft_8 : decode cX4_readLoft 8 = .ok (.ldc 124, 2) := by decide +kernel
theorem dX4_readLoft_10 : decode cX4_readLoft 10 = .ok (.iconst 1, 1) := by decide +kernel
theorem dX4_readLoft_11 : decode cX4_readLoft 11 = .ok (.bipush 50, 2) := by decide +kernel
theorem dX4_readLoft_13 : decode cX4_readLoft 13 = .ok (.invokevirtual 126, 3) := by decide +kernel
theorem dX4_readLoft_16 : decode cX4_readLoft 16 = .ok (.ifCond .ne 5, 3) := by decide +kernel
theorem dX4_readLoft_19 : decode cX4_readLoft 19 = .ok (.iconst 0, 1) := by decide +kernel
theorem dX4_readLoft_20 : decode cX4_readLoft 20 = .ok (.ireturn, 1) := by decide +kernel
theorem dX4_readLoft_21 : decode cX4_readLoft 21 = .ok (.aload_n 0, 1) := by decide +kernel
theorem dX4_readLoft_22 : decode cX4_readLoft 22 = .ok (.getfield 31, 3) := by decide +kernel
theorem dX4_readLoft_25 : decode cX4_readLoft 25 = .ok (.aload_n 0, 1) := by decide +kernel
theorem dX4_readLoft_26 : decode cX4_readLoft 26 = .ok (.getfield 130, 3) := by decide +kernel
theorem dX4_readLoft_29 : decode cX4_readLoft 29 = .ok (.putfield 133, 3) := by decide +kernel
theorem dX4_readLoft_32 : decode cX4_readLoft 32 = .ok (.aload_n 0, 1) := by decide +kernel
theorem dX4_readLoft_33 : decode cX4_readLoft 33 = .ok (.ldc 135, 2) := by decide +kernel
theorem dX4_readLoft_35 : decode cX4_readLoft 35 = .ok (.iconst 0, 1) := by decide +kernel
theorem dX4_readLoft_36 : decode cX4_readLoft 36 = .ok (.bipush 100, 2) := by decide +kernel
theorem dX4_readLoft_38 : decode cX4_readLoft 38 = .ok (.invokevirtual 126, 3) := by decide +kernel
theorem dX4_readLoft_41 : decode cX4_readLoft 41 = .ok (.ifCond .ne 5, 3) := by decide +kernel
theorem dX4_readLoft_44 : decode cX4_readLoft 44 = .ok (.iconst 0, 1) := by decide +kernel
theorem dX4_readLoft_45 : decode cX4_readLoft 45 = .ok (.ireturn, 1) := by decide +kernel
theorem dX4_readLoft_46 : decode cX4_readLoft 46 = .ok (.aload_n 0, 1) := by decide +kernel
theorem dX4_readLoft_47 : decode cX4_readLoft 47 = .ok (.getfield 31, 3) := by decide +kernel
theorem dX4_readLoft_50 : decode cX4_readLoft 50 = .ok (.aload_n 0, 1) := by decide +kernel
theorem dX4_readLoft_51 : decode cX4_readLoft 51 = .ok (.getfield 130, 3) := by decide +kernel
theorem dX4_readLoft_54 : decode cX4_readLoft 54 = .ok (.putfield 137, 3) := by decide +kernel
theorem dX4_readLoft_57 : decode cX4_readLoft 57 = .ok (.aload_n 0, 1) := by decide +kernel
theorem dX4_readLoft_58 : decode cX4_readLoft 58 = .ok (.ldc 139, 2) := by decide +kernel
theorem dX4_readLoft_60 : decode cX4_readLoft 60 = .ok (.iconst 0, 1) := by decide +kernel
theorem dX4_readLoft_61 : decode cX4_readLoft 61 = .ok (.bipush 100, 2) := by decide +kernel
theorem dX4_readLoft_63 : decode cX4_readLoft 63 = .ok (.invokevirtual 126, 3) := by decide +kernel
theorem dX4_readLoft_66 : decode cX4_readLoft 66 = .ok (.ifCond .ne 5, 3) := by decide +kernel
theorem dX4_readLoft_69 : decode cX4_readLoft 69 = .ok (.iconst 0, 1) := by decide +kernel
theorem dX4_readLoft_70 : decode cX4_readLoft 70 = .ok (.ireturn, 1) := by decide +kernel
theorem dX4_readLoft_71 : decode cX4_readLoft 71 = .ok (.aload_n 0, 1) := by decide +kernel
theorem dX4_readLoft_72 : decode cX4_readLoft 72 = .ok (.getfield 31, 3) := by decide +kernel
theorem dX4_readLoft_75 : decode cX4_readLoft 75 = .ok (.aload_n 0, 1) := by decide +kernel
theorem dX4_readLoft_76 : decode cX4_readLoft 76 = .ok (.getfield 130, 3) := by decide +kernel
theorem dX4_readLoft_79 : decode cX4_readLoft 79 = .ok (.putfield 141, 3) := by decide +kernel
theorem dX4_readLoft_82 : decode cX4_readLoft 82 = .ok (.aload_n 0, 1) := by decide +kernel
theorem dX4_readLoft_83 : decode cX4_readLoft 83 = .ok (.iconst 1, 1) := by decide +kernel
theorem dX4_readLoft_84 : decode cX4_readLoft 84 = .ok (.putfield 45, 3) := by decide +kernel
theorem dX4_readLoft_87 : decode cX4_readLoft 87 = .ok (.iconst 1, 1) := by decide +kernel
theorem dX4_readLoft_88 : decode cX4_readLoft 88 = .ok (.ireturn, 1) := by decide +kernel
theorem dX4_readHouse_0 : decode cX4_readHouse 0 = .ok (.aload_n 0, 1) := by decide +kernel
theorem dX4_readHouse_1 : decode cX4_readHouse 1 = .ok (.getfield 31, 3) := by decide +kernel
theorem dX4_readHouse_4 : decode cX4_readHouse 4 = .ok (.getfield 70, 3) := by decide +kernel
theorem dX4_readHouse_7 : decode cX4_readHouse 7 = .ok (.istore_n 1, 1) := by decide +kernel
theorem dX4_readHouse_8 : decode cX4_readHouse 8 = .ok (.aload_n 0, 1) := by decide +kernel
theorem dX4_readHouse_9 : decode cX4_readHouse 9 = .ok (.getfield 16, 3) := by decide +kernel
theorem dX4_readHouse_12 : decode cX4_readHouse 12 = .ok (.invokevirtual 63, 3) := by decide +kernel
theorem dX4_readHouse_15 : decode cX4_readHouse 15 = .ok (.aload_n 0, 1) := by decide +kernel
theorem dX4_readHouse_16 : decode cX4_readHouse 16 = .ok (.iload_n 1, 1) := by decide +kernel
theorem dX4_readHouse_17 : decode cX4_readHouse 17 = .ok (.invokevirtual 143, 3) := by decide +kernel
theorem dX4_readHouse_20 : decode cX4_readHouse 20 = .ok (.ifCond .eq 15, 3) := by decide +kernel
theorem dX4_readHouse_23 : decode cX4_readHouse 23 = .ok (.aload_n 0, 1) := by decide +kernel
theorem dX4_readHouse_24 : decode cX4_readHouse 24 = .ok (.ldc 146, 2) := by decide +kernel
theorem dX4_readHouse_26 : decode cX4_readHouse 26 = .ok (.iconst 0, 1) := by decide +kernel
theorem dX4_readHouse_27 : decode cX4_readHouse 27 = .ok (.bipush 99, 2) := by decide +kernel
theorem dX4_readHouse_29 : decode cX4_readHouse 29 = .ok (.invokevirtual 126, 3) := by decide +kernel
theorem dX4_readHouse_32 : decode cX4_readHouse 32 = .ok (.ifCond .ne 5, 3) := by decide +kernel
theorem dX4_readHouse_35 : decode cX4_readHouse 35 = .ok (.iconst 0, 1) := by decide +kernel
theorem dX4_readHouse_36 : decode cX4_readHouse 36 = .ok (.ireturn, 1) := by decide +kernel
theorem dX4_readHouse_37 : decode cX4_readHouse 37 = .ok (.aload_n 0, 1) := by decide +kernel
theorem dX4_readHouse_38 : decode cX4_readHouse 38 = .ok (.getfield 31, 3) := by decide +kernel
theorem dX4_readHouse_41 : decode cX4_readHouse 41 = .ok (.getfield 148, 3) := by decide +kernel
theorem dX4_readHouse_44 : decode cX4_readHouse 44 = .ok (.iload_n 1, 1) := by decide +kernel
theorem dX4_readHouse_45 : decode cX4_readHouse 45 = .ok (.aload_n 0, 1) := by decide +kernel
theorem dX4_readHouse_46 : decode cX4_readHouse 46 = .ok (.getfield 130, 3) := by decide +kernel
theorem dX4_readHouse_49 : decode cX4_readHouse 49 = .ok (.iastore, 1) := by decide +kernel
theorem dX4_readHouse_50 : decode cX4_readHouse 50 = .ok (.aload_n 0, 1) := by decide +kernel
theorem dX4_readHouse_51 : decode cX4_readHouse 51 = .ok (.ldc 150, 2) := by decide +kernel
theorem dX4_readHouse_53 : decode cX4_readHouse 53 = .ok (.iconst 0, 1) := by decide +kernel
theorem dX4_readHouse_54 : decode cX4_readHouse 54 = .ok (.sipush 300, 3) := by decide +kernel
theorem dX4_readHouse_57 : decode cX4_readHouse 57 = .ok (.invokevirtual 126, 3) := by decide +kernel
theorem dX4_readHouse_60 : decode cX4_readHouse 60 = .ok (.ifCond .ne 5, 3) := by decide +kernel
theorem dX4_readHouse_63 : decode cX4_readHouse 63 = .ok (.iconst 0, 1) := by decide +kernel
theorem dX4_readHouse_64 : decode cX4_readHouse 64 = .ok (.ireturn, 1) := by decide +kernel
theorem dX4_readHouse_65 : decode cX4_readHouse 65 = .ok (.aload_n 0, 1) := by decide +kernel
theorem dX4_readHouse_66 : decode cX4_readHouse 66 = .ok (.getfield 31, 3) := by decide +kernel
theorem dX4_readHouse_69 : decode cX4_readHouse 69 = .ok (.getfield 152, 3) := by decide +kernel
theorem dX4_readHouse_72 : decode cX4_readHouse 72 = .ok (.iload_n 1, 1) := by decide +kernel
theorem dX4_readHouse_73 : decode cX4_readHouse 73 = .ok (.aload_n 0, 1) := by decide +kernel
theorem dX4_readHouse_74 : decode cX4_readHouse 74 = .ok (.getfield 130, 3) := by decide +kernel
theorem dX4_readHouse_77 : decode cX4_readHouse 77 = .ok (.iastore, 1) := by decide +kernel
theorem dX4_readHouse_78 : decode cX4_readHouse 78 = .ok (.aload_n 0, 1) := by decide +kernel
theorem dX4_readHouse_79 : decode cX4_readHouse 79 = .ok (.getfield 31, 3) := by decide +kernel
theorem dX4_readHouse_82 : decode cX4_readHouse 82 = .ok (.dup, 1) := by decide +kernel
theorem dX4_readHouse_83 : decode cX4_readHouse 83 = .ok (.getfield 70, 3) := by decide +kernel
theorem dX4_readHouse_86 : decode cX4_readHouse 86 = .ok (.iconst 1, 1) := by decide +kernel
theorem dX4_readHouse_87 : decode cX4_readHouse 87 = .ok (.iadd, 1) := by decide +kernel
theorem dX4_readHouse_88 : decode cX4_readHouse 88 = .ok (.putfield 70, 3) := by decide +kernel
theorem dX4_readHouse_91 : decode cX4_readHouse 91 = .ok (.iconst 1, 1) := by decide +kernel
theorem dX4_readHouse_92 : decode cX4_readHouse 92 = .ok (.ireturn, 1) := by decide +kernel
theorem dX4_readBird_0 : decode cX4_readBird 0 = .ok (.aload_n 0, 1) := by decide +kernel
theorem dX4_readBird_1 : decode cX4_readBird 1 = .ok (.getfield 31, 3) := by decide +kernel
theorem dX4_readBird_4 : decode cX4_readBird 4 = .ok (.getfield 99, 3) := by decide +kernel
theorem dX4_readBird_7 : decode cX4_readBird 7 = .ok (.istore_n 1, 1) := by decide +kernel
theorem dX4_readBird_8 : decode cX4_readBird 8 = .ok (.aload_n 0, 1) := by decide +kernel
theorem dX4_readBird_9 : decode cX4_readBird 9 = .ok (.getfield 16, 3) := by decide +kernel
theorem dX4_readBird_12 : decode cX4_readBird 12 = .ok (.invokevirtual 63, 3) := by decide +kernel
theorem dX4_readBird_15 : decode cX4_readBird 15 = .ok (.aload_n 0, 1) := by decide +kernel
theorem dX4_readBird_16 : decode cX4_readBird 16 = .ok (.iconst (-1), 1) := by decide +kernel
theorem dX4_readBird_17 : decode cX4_readBird 17 = .ok (.invokevirtual 143, 3) := by decide +kernel
theorem dX4_readBird_20 : decode cX4_readBird 20 = .ok (.ifCond .eq 10, 3) := by decide +kernel
theorem dX4_readBird_23 : decode cX4_readBird 23 = .ok (.aload_n 0, 1) := by decide +kernel
theorem dX4_readBird_24 : decode cX4_readBird 24 = .ok (.invokevirtual 154, 3) := by decide +kernel
theorem dX4_readBird_27 : decode cX4_readBird 27 = .ok (.ifCond .ne 5, 3) := by decide +kernel
theorem dX4_readBird_30 : decode cX4_readBird 30 = .ok (.iconst 0, 1) := by decide +kernel
theorem dX4_readBird_31 : decode cX4_readBird 31 = .ok (.ireturn, 1) := by decide +kernel
theorem dX4_readBird_32 : decode cX4_readBird 32 = .ok (.aload_n 0, 1) := by decide +kernel
theorem dX4_readBird_33 : decode cX4_readBird 33 = .ok (.getfield 31, 3) := by decide +kernel
theorem dX4_readBird_36 : decode cX4_readBird 36 = .ok (.getfield 157, 3) := by decide +kernel
theorem dX4_readBird_39 : decode cX4_readBird 39 = .ok (.iload_n 1, 1) := by decide +kernel
theorem dX4_readBird_40 : decode cX4_readBird 40 = .ok (.aload_n 0, 1) := by decide +kernel
theorem dX4_readBird_41 : decode cX4_readBird 41 = .ok (.getfield 130, 3) := by decide +kernel
theorem dX4_readBird_44 : decode cX4_readBird 44 = .ok (.iastore, 1) := by decide +kernel
theorem dX4_readBird_45 : decode cX4_readBird 45 = .ok (.aload_n 0, 1) := by decide +kernel
theorem dX4_readBird_46 : decode cX4_readBird 46 = .ok (.ldc 160, 2) := by decide +kernel
theorem dX4_readBird_48 : decode cX4_readBird 48 = .ok (.invokevirtual 162, 3) := by decide +kernel
theorem dX4_readBird_51 : decode cX4_readBird 51 = .ok (.ifCond .eq 11, 3) := by decide +kernel
theorem dX4_readBird_54 : decode cX4_readBird 54 = .ok (.aload_n 0, 1) := by decide +kernel
theorem dX4_readBird_55 : decode cX4_readBird 55 = .ok (.iconst (-1), 1) := by decide +kernel
theorem dX4_readBird_56 : decode cX4_readBird 56 = .ok (.invokevirtual 165, 3) := by decide +kernel
theorem dX4_readBird_59 : decode cX4_readBird 59 = .ok (.ifCond .ne 5, 3) := by decide +kernel
theorem dX4_readBird_62 : decode cX4_readBird 62 = .ok (.iconst 0, 1) := by decide +kernel
theorem dX4_readBird_63 : decode cX4_readBird 63 = .ok (.ireturn, 1) := by decide +kernel
theorem dX4_readBird_64 : decode cX4_readBird 64 = .ok (.aload_n 0, 1) := by decide +kernel
theorem dX4_readBird_65 : decode cX4_readBird 65 = .ok (.getfield 31, 3) := by decide +kernel
theorem dX4_readBird_68 : decode cX4_readBird 68 = .ok (.getfield 168, 3) := by decide +kernel
theorem dX4_readBird_71 : decode cX4_readBird 71 = .ok (.iload_n 1, 1) := by decide +kernel
theorem dX4_readBird_72 : decode cX4_readBird 72 = .ok (.aload_n 0, 1) := by decide +kernel
theorem dX4_readBird_73 : decode cX4_readBird 73 = .ok (.getfield 130, 3) := by decide +kernel
theorem dX4_readBird_76 : decode cX4_readBird 76 = .ok (.iastore, 1) := by decide +kernel
theorem dX4_readBird_77 : decode cX4_readBird 77 = .ok (.aload_n 0, 1) := by decide +kernel
theorem dX4_readBird_78 : decode cX4_readBird 78 = .ok (.ldc 170, 2) := by decide +kernel
theorem dX4_readBird_80 : decode cX4_readBird 80 = .ok (.invokevirtual 162, 3) := by decide +kernel
theorem dX4_readBird_83 : decode cX4_readBird 83 = .ok (.ifCond .eq 19, 3) := by decide +kernel
theorem dX4_readBird_86 : decode cX4_readBird 86 = .ok (.aload_n 0, 1) := by decide +kernel
theorem dX4_readBird_87 : decode cX4_readBird 87 = .ok (.aload_n 0, 1) := by decide +kernel
theorem dX4_readBird_88 : decode cX4_readBird 88 = .ok (.getfield 31, 3) := by decide +kernel
theorem dX4_readBird_91 : decode cX4_readBird 91 = .ok (.getfield 168, 3) := by decide +kernel
theorem dX4_readBird_94 : decode cX4_readBird 94 = .ok (.iload_n 1, 1) := by decide +kernel
theorem dX4_readBird_95 : decode cX4_readBird 95 = .ok (.iaload, 1) := by decide +kernel
theorem dX4_readBird_96 : decode cX4_readBird 96 = .ok (.invokevirtual 165, 3) := by decide +kernel
theorem dX4_readBird_99 : decode cX4_readBird 99 = .ok (.ifCond .ne 5, 3) := by decide +kernel
theorem dX4_readBird_102 : decode cX4_readBird 102 = .ok (.iconst 0, 1) := by decide +kernel
theorem dX4_readBird_103 : decode cX4_readBird 103 = .ok (.ireturn, 1) := by decide +kernel
theorem dX4_readBird_104 : decode cX4_readBird 104 = .ok (.aload_n 0, 1) := by decide +kernel
theorem dX4_readBird_105 : decode cX4_readBird 105 = .ok (.getfield 31, 3) := by decide +kernel
theorem dX4_readBird_108 : decode cX4_readBird 108 = .ok (.getfield 172, 3) := by decide +kernel
theorem dX4_readBird_111 : decode cX4_readBird 111 = .ok (.iload_n 1, 1) := by decide +kernel
theorem dX4_readBird_112 : decode cX4_readBird 112 = .ok (.aload_n 0, 1) := by decide +kernel
theorem dX4_readBird_113 : decode cX4_readBird 113 = .ok (.getfield 130, 3) := by decide +kernel
theorem dX4_readBird_116 : decode cX4_readBird 116 = .ok (.iastore, 1) := by decide +kernel
theorem dX4_readBird_117 : decode cX4_readBird 117 = .ok (.aload_n 0, 1) := by decide +kernel
theorem dX4_readBird_118 : decode cX4_readBird 118 = .ok (.ldc 175, 2) := by decide +kernel
theorem dX4_readBird_120 : decode cX4_readBird 120 = .ok (.iconst 0, 1) := by decide +kernel
theorem dX4_readBird_121 : decode cX4_readBird 121 = .ok (.bipush 30, 2) := by decide +kernel
theorem dX4_readBird_123 : decode cX4_readBird 123 = .ok (.invokevirtual 126, 3) := by decide +kernel
theorem dX4_readBird_126 : decode cX4_readBird 126 = .ok (.ifCond .ne 5, 3) := by decide +kernel
theorem dX4_readBird_129 : decode cX4_readBird 129 = .ok (.iconst 0, 1) := by decide +kernel
theorem dX4_readBird_130 : decode cX4_readBird 130 = .ok (.ireturn, 1) := by decide +kernel
theorem dX4_readBird_131 : decode cX4_readBird 131 = .ok (.aload_n 0, 1) := by decide +kernel
theorem dX4_readBird_132 : decode cX4_readBird 132 = .ok (.getfield 31, 3) := by decide +kernel
theorem dX4_readBird_135 : decode cX4_readBird 135 = .ok (.getfield 177, 3) := by decide +kernel
theorem dX4_readBird_138 : decode cX4_readBird 138 = .ok (.iload_n 1, 1) := by decide +kernel
theorem dX4_readBird_139 : decode cX4_readBird 139 = .ok (.aload_n 0, 1) := by decide +kernel
theorem dX4_readBird_140 : decode cX4_readBird 140 = .ok (.getfield 130, 3) := by decide +kernel
theorem dX4_readBird_143 : decode cX4_readBird 143 = .ok (.iastore, 1) := by decide +kernel
theorem dX4_readBird_144 : decode cX4_readBird 144 = .ok (.aload_n 0, 1) := by decide +kernel
theorem dX4_readBird_145 : decode cX4_readBird 145 = .ok (.ldc 180, 2) := by decide +kernel
theorem dX4_readBird_147 : decode cX4_readBird 147 = .ok (.iconst 1, 1) := by decide +kernel
theorem dX4_readBird_148 : decode cX4_readBird 148 = .ok (.bipush 60, 2) := by decide +kernel
theorem dX4_readBird_150 : decode cX4_readBird 150 = .ok (.invokevirtual 126, 3) := by decide +kernel
theorem dX4_readBird_153 : decode cX4_readBird 153 = .ok (.ifCond .ne 5, 3) := by decide +kernel
theorem dX4_readBird_156 : decode cX4_readBird 156 = .ok (.iconst 0, 1) := by decide +kernel
theorem dX4_readBird_157 : decode cX4_readBird 157 = .ok (.ireturn, 1) := by decide +kernel
theorem dX4_readBird_158 : decode cX4_readBird 158 = .ok (.aload_n 0, 1) := by decide +kernel
theorem dX4_readBird_159 : decode cX4_readBird 159 = .ok (.getfield 31, 3) := by decide +kernel
theorem dX4_readBird_162 : decode cX4_readBird 162 = .ok (.getfield 182, 3) := by decide +kernel
theorem dX4_readBird_165 : decode cX4_readBird 165 = .ok (.iload_n 1, 1) := by decide +kernel
theorem dX4_readBird_166 : decode cX4_readBird 166 = .ok (.aload_n 0, 1) := by decide +kernel
theorem dX4_readBird_167 : decode cX4_readBird 167 = .ok (.getfield 31, 3) := by decide +kernel
theorem dX4_readBird_170 : decode cX4_readBird 170 = .ok (.getfield 157, 3) := by decide +kernel
theorem dX4_readBird_173 : decode cX4_readBird 173 = .ok (.iload_n 1, 1) := by decide +kernel
theorem dX4_readBird_174 : decode cX4_readBird 174 = .ok (.iaload, 1) := by decide +kernel
theorem dX4_readBird_175 : decode cX4_readBird 175 = .ok (.aload_n 0, 1) := by decide +kernel
theorem dX4_readBird_176 : decode cX4_readBird 176 = .ok (.getfield 130, 3) := by decide +kernel
theorem dX4_readBird_179 : decode cX4_readBird 179 = .ok (.invokestatic 185, 3) := by decide +kernel
theorem dX4_readBird_182 : decode cX4_readBird 182 = .ok (.iastore, 1) := by decide +kernel
theorem dX4_readBird_183 : decode cX4_readBird 183 = .ok (.aload_n 0, 1) := by decide +kernel
theorem dX4_readBird_184 : decode cX4_readBird 184 = .ok (.getfield 31, 3) := by decide +kernel
theorem dX4_readBird_187 : decode cX4_readBird 187 = .ok (.dup, 1) := by decide +kernel
theorem dX4_readBird_188 : decode cX4_readBird 188 = .ok (.getfield 99, 3) := by decide +kernel
theorem dX4_readBird_191 : decode cX4_readBird 191 = .ok (.iconst 1, 1) := by decide +kernel
theorem dX4_readBird_192 : decode cX4_readBird 192 = .ok (.iadd, 1) := by decide +kernel
theorem dX4_readBird_193 : decode cX4_readBird 193 = .ok (.putfield 99, 3) := by decide +kernel
theorem dX4_readBird_196 : decode cX4_readBird 196 = .ok (.iconst 1, 1) := by decide +kernel
theorem dX4_readBird_197 : decode cX4_readBird 197 = .ok (.ireturn, 1) := by decide +kernel
theorem dX4_readStray_0 : decode cX4_readStray 0 = .ok (.aload_n 0, 1) := by decide +kernel
theorem dX4_readStray_1 : decode cX4_readStray 1 = .ok (.getfield 31, 3) := by decide +kernel
theorem dX4_readStray_4 : decode cX4_readStray 4 = .ok (.getfield 107, 3) := by decide +kernel
theorem dX4_readStray_7 : decode cX4_readStray 7 = .ok (.getfield 111, 3) := by decide +kernel
theorem dX4_readStray_10 : decode cX4_readStray 10 = .ok (.istore_n 1, 1) := by decide +kernel
theorem dX4_readStray_11 : decode cX4_readStray 11 = .ok (.aload_n 0, 1) := by decide +kernel
theorem dX4_readStray_12 : decode cX4_readStray 12 = .ok (.getfield 16, 3) := by decide +kernel
theorem dX4_readStray_15 : decode cX4_readStray 15 = .ok (.invokevirtual 63, 3) := by decide +kernel
theorem dX4_readStray_18 : decode cX4_readStray 18 = .ok (.aload_n 0, 1) := by decide +kernel
theorem dX4_readStray_19 : decode cX4_readStray 19 = .ok (.iconst (-1), 1) := by decide +kernel
theorem dX4_readStray_20 : decode cX4_readStray 20 = .ok (.invokevirtual 143, 3) := by decide +kernel
theorem dX4_readStray_23 : decode cX4_readStray 23 = .ok (.ifCond .eq 20, 3) := by decide +kernel
theorem dX4_readStray_26 : decode cX4_readStray 26 = .ok (.aload_n 0, 1) := by decide +kernel
theorem dX4_readStray_27 : decode cX4_readStray 27 = .ok (.ldc 160, 2) := by decide +kernel
theorem dX4_readStray_29 : decode cX4_readStray 29 = .ok (.invokevirtual 162, 3) := by decide +kernel
theorem dX4_readStray_32 : decode cX4_readStray 32 = .ok (.ifCond .eq 11, 3) := by decide +kernel
theorem dX4_readStray_35 : decode cX4_readStray 35 = .ok (.aload_n 0, 1) := by decide +kernel
theorem dX4_readStray_36 : decode cX4_readStray 36 = .ok (.iconst (-1), 1) := by decide +kernel
theorem dX4_readStray_37 : decode cX4_readStray 37 = .ok (.invokevirtual 165, 3) := by decide +kernel
theorem dX4_readStray_40 : decode cX4_readStray 40 = .ok (.ifCond .ne 5, 3) := by decide +kernel
theorem dX4_readStray_43 : decode cX4_readStray 43 = .ok (.iconst 0, 1) := by decide +kernel
theorem dX4_readStray_44 : decode cX4_readStray 44 = .ok (.ireturn, 1) := by decide +kernel
theorem dX4_readStray_45 : decode cX4_readStray 45 = .ok (.aload_n 0, 1) := by decide +kernel
theorem dX4_readStray_46 : decode cX4_readStray 46 = .ok (.getfield 31, 3) := by decide +kernel
theorem dX4_readStray_49 : decode cX4_readStray 49 = .ok (.getfield 107, 3) := by decide +kernel
theorem dX4_readStray_52 : decode cX4_readStray 52 = .ok (.getfield 189, 3) := by decide +kernel
theorem dX4_readStray_55 : decode cX4_readStray 55 = .ok (.iload_n 1, 1) := by decide +kernel
theorem dX4_readStray_56 : decode cX4_readStray 56 = .ok (.aload_n 0, 1) := by decide +kernel
theorem dX4_readStray_57 : decode cX4_readStray 57 = .ok (.getfield 130, 3) := by decide +kernel
theorem dX4_readStray_60 : decode cX4_readStray 60 = .ok (.iastore, 1) := by decide +kernel
theorem dX4_readStray_61 : decode cX4_readStray 61 = .ok (.aload_n 0, 1) := by decide +kernel
theorem dX4_readStray_62 : decode cX4_readStray 62 = .ok (.ldc 175, 2) := by decide +kernel
theorem dX4_readStray_64 : decode cX4_readStray 64 = .ok (.iconst 0, 1) := by decide +kernel
theorem dX4_readStray_65 : decode cX4_readStray 65 = .ok (.bipush 30, 2) := by decide +kernel
theorem dX4_readStray_67 : decode cX4_readStray 67 = .ok (.invokevirtual 126, 3) := by decide +kernel
theorem dX4_readStray_70 : decode cX4_readStray 70 = .ok (.ifCond .ne 5, 3) := by decide +kernel
theorem dX4_readStray_73 : decode cX4_readStray 73 = .ok (.iconst 0, 1) := by decide +kernel
theorem dX4_readStray_74 : decode cX4_readStray 74 = .ok (.ireturn, 1) := by decide +kernel
theorem dX4_readStray_75 : decode cX4_readStray 75 = .ok (.aload_n 0, 1) := by decide +kernel
theorem dX4_readStray_76 : decode cX4_readStray 76 = .ok (.getfield 31, 3) := by decide +kernel
theorem dX4_readStray_79 : decode cX4_readStray 79 = .ok (.getfield 107, 3) := by decide +kernel
theorem dX4_readStray_82 : decode cX4_readStray 82 = .ok (.getfield 190, 3) := by decide +kernel
theorem dX4_readStray_85 : decode cX4_readStray 85 = .ok (.iload_n 1, 1) := by decide +kernel
theorem dX4_readStray_86 : decode cX4_readStray 86 = .ok (.aload_n 0, 1) := by decide +kernel
theorem dX4_readStray_87 : decode cX4_readStray 87 = .ok (.getfield 130, 3) := by decide +kernel
theorem dX4_readStray_90 : decode cX4_readStray 90 = .ok (.iastore, 1) := by decide +kernel
theorem dX4_readStray_91 : decode cX4_readStray 91 = .ok (.aload_n 0, 1) := by decide +kernel
theorem dX4_readStray_92 : decode cX4_readStray 92 = .ok (.getfield 31, 3) := by decide +kernel
theorem dX4_readStray_95 : decode cX4_readStray 95 = .ok (.getfield 107, 3) := by decide +kernel
theorem dX4_readStray_98 : decode cX4_readStray 98 = .ok (.dup, 1) := by decide +kernel
theorem dX4_readStray_99 : decode cX4_readStray 99 = .ok (.getfield 111, 3) := by decide +kernel
theorem dX4_readStray_102 : decode cX4_readStray 102 = .ok (.iconst 1, 1) := by decide +kernel
theorem dX4_readStray_103 : decode cX4_readStray 103 = .ok (.iadd, 1) := by decide +kernel
theorem dX4_readStray_104 : decode cX4_readStray 104 = .ok (.putfield 111, 3) := by decide +kernel
theorem dX4_readStray_107 : decode cX4_readStray 107 = .ok (.iconst 1, 1) := by decide +kernel
theorem dX4_readStray_108 : decode cX4_readStray 108 = .ok (.ireturn, 1) := by decide +kernel
theorem dX4_readSeen_0 : decode cX4_readSeen 0 = .ok (.aload_n 0, 1) := by decide +kernel
theorem dX4_readSeen_1 : decode cX4_readSeen 1 = .ok (.getfield 31, 3) := by decide +kernel
theorem dX4_readSeen_4 : decode cX4_readSeen 4 = .ok (.getfield 107, 3) := by decide +kernel
theorem dX4_readSeen_7 : decode cX4_readSeen 7 = .ok (.getfield 119, 3) := by decide +kernel
theorem dX4_readSeen_10 : decode cX4_readSeen 10 = .ok (.istore_n 1, 1) := by decide +kernel
theorem dX4_readSeen_11 : decode cX4_readSeen 11 = .ok (.aload_n 0, 1) := by decide +kernel
theorem dX4_readSeen_12 : decode cX4_readSeen 12 = .ok (.getfield 16, 3) := by decide +kernel
theorem dX4_readSeen_15 : decode cX4_readSeen 15 = .ok (.invokevirtual 63, 3) := by decide +kernel
theorem dX4_readSeen_18 : decode cX4_readSeen 18 = .ok (.aload_n 0, 1) := by decide +kernel
theorem dX4_readSeen_19 : decode cX4_readSeen 19 = .ok (.iconst (-1), 1) := by decide +kernel
theorem dX4_readSeen_20 : decode cX4_readSeen 20 = .ok (.invokevirtual 165, 3) := by decide +kernel
theorem dX4_readSeen_23 : decode cX4_readSeen 23 = .ok (.ifCond .ne 5, 3) := by decide +kernel
theorem dX4_readSeen_26 : decode cX4_readSeen 26 = .ok (.iconst 0, 1) := by decide +kernel
theorem dX4_readSeen_27 : decode cX4_readSeen 27 = .ok (.ireturn, 1) := by decide +kernel
theorem dX4_readSeen_28 : decode cX4_readSeen 28 = .ok (.aload_n 0, 1) := by decide +kernel
theorem dX4_readSeen_29 : decode cX4_readSeen 29 = .ok (.getfield 130, 3) := by decide +kernel
theorem dX4_readSeen_32 : decode cX4_readSeen 32 = .ok (.istore_n 2, 1) := by decide +kernel
theorem dX4_readSeen_33 : decode cX4_readSeen 33 = .ok (.aload_n 0, 1) := by decide +kernel
theorem dX4_readSeen_34 : decode cX4_readSeen 34 = .ok (.ldc 175, 2) := by decide +kernel
theorem dX4_readSeen_36 : decode cX4_readSeen 36 = .ok (.invokevirtual 162, 3) := by decide +kernel
theorem dX4_readSeen_39 : decode cX4_readSeen 39 = .ok (.ifCond .eq 13, 3) := by decide +kernel
theorem dX4_readSeen_42 : decode cX4_readSeen 42 = .ok (.aload_n 0, 1) := by decide +kernel
theorem dX4_readSeen_43 : decode cX4_readSeen 43 = .ok (.iconst 0, 1) := by decide +kernel
theorem dX4_readSeen_44 : decode cX4_readSeen 44 = .ok (.bipush 30, 2) := by decide +kernel
theorem dX4_readSeen_46 : decode cX4_readSeen 46 = .ok (.invokevirtual 191, 3) := by decide +kernel
theorem dX4_readSeen_49 : decode cX4_readSeen 49 = .ok (.ifCond .ne 5, 3) := by decide +kernel
theorem dX4_readSeen_52 : decode cX4_readSeen 52 = .ok (.iconst 0, 1) := by decide +kernel
theorem dX4_readSeen_53 : decode cX4_readSeen 53 = .ok (.ireturn, 1) := by decide +kernel
theorem dX4_readSeen_54 : decode cX4_readSeen 54 = .ok (.aload_n 0, 1) := by decide +kernel
theorem dX4_readSeen_55 : decode cX4_readSeen 55 = .ok (.getfield 31, 3) := by decide +kernel
theorem dX4_readSeen_58 : decode cX4_readSeen 58 = .ok (.getfield 107, 3) := by decide +kernel
theorem dX4_readSeen_61 : decode cX4_readSeen 61 = .ok (.iload_n 2, 1) := by decide +kernel
theorem dX4_readSeen_62 : decode cX4_readSeen 62 = .ok (.aload_n 0, 1) := by decide +kernel
theorem dX4_readSeen_63 : decode cX4_readSeen 63 = .ok (.getfield 16, 3) := by decide +kernel
theorem dX4_readSeen_66 : decode cX4_readSeen 66 = .ok (.getfield 194, 3) := by decide +kernel
theorem dX4_readSeen_69 : decode cX4_readSeen 69 = .ok (.invokevirtual 197, 3) := by decide +kernel
theorem dX4_readSeen_72 : decode cX4_readSeen 72 = .ok (.ifCond .eq 9, 3) := by decide +kernel
theorem dX4_readSeen_75 : decode cX4_readSeen 75 = .ok (.aload_n 0, 1) := by decide +kernel
theorem dX4_readSeen_76 : decode cX4_readSeen 76 = .ok (.iconst 3, 1) := by decide +kernel
theorem dX4_readSeen_77 : decode cX4_readSeen 77 = .ok (.invokevirtual 66, 3) := by decide +kernel
theorem dX4_readSeen_80 : decode cX4_readSeen 80 = .ok (.ireturn, 1) := by decide +kernel
theorem dX4_readSeen_81 : decode cX4_readSeen 81 = .ok (.aload_n 0, 1) := by decide +kernel
theorem dX4_readSeen_82 : decode cX4_readSeen 82 = .ok (.getfield 31, 3) := by decide +kernel
theorem dX4_readSeen_85 : decode cX4_readSeen 85 = .ok (.getfield 107, 3) := by decide +kernel
theorem dX4_readSeen_88 : decode cX4_readSeen 88 = .ok (.getfield 200, 3) := by decide +kernel
theorem dX4_readSeen_91 : decode cX4_readSeen 91 = .ok (.iload_n 1, 1) := by decide +kernel
theorem dX4_readSeen_92 : decode cX4_readSeen 92 = .ok (.iload_n 2, 1) := by decide +kernel
theorem dX4_readSeen_93 : decode cX4_readSeen 93 = .ok (.iastore, 1) := by decide +kernel
theorem dX4_readSeen_94 : decode cX4_readSeen 94 = .ok (.aload_n 0, 1) := by decide +kernel
theorem dX4_readSeen_95 : decode cX4_readSeen 95 = .ok (.getfield 31, 3) := by decide +kernel
theorem dX4_readSeen_98 : decode cX4_readSeen 98 = .ok (.getfield 107, 3) := by decide +kernel
theorem dX4_readSeen_101 : decode cX4_readSeen 101 = .ok (.getfield 203, 3) := by decide +kernel
theorem dX4_readSeen_104 : decode cX4_readSeen 104 = .ok (.iload_n 1, 1) := by decide +kernel
theorem dX4_readSeen_105 : decode cX4_readSeen 105 = .ok (.aload_n 0, 1) := by decide +kernel
theorem dX4_readSeen_106 : decode cX4_readSeen 106 = .ok (.getfield 16, 3) := by decide +kernel
theorem dX4_readSeen_109 : decode cX4_readSeen 109 = .ok (.getfield 194, 3) := by decide +kernel
theorem dX4_readSeen_112 : decode cX4_readSeen 112 = .ok (.iastore, 1) := by decide +kernel
theorem dX4_readSeen_113 : decode cX4_readSeen 113 = .ok (.aload_n 0, 1) := by decide +kernel
theorem dX4_readSeen_114 : decode cX4_readSeen 114 = .ok (.getfield 16, 3) := by decide +kernel
theorem dX4_readSeen_117 : decode cX4_readSeen 117 = .ok (.invokevirtual 63, 3) := by decide +kernel
theorem dX4_readSeen_120 : decode cX4_readSeen 120 = .ok (.aload_n 0, 1) := by decide +kernel
theorem dX4_readSeen_121 : decode cX4_readSeen 121 = .ok (.ldc 206, 2) := by decide +kernel
theorem dX4_readSeen_123 : decode cX4_readSeen 123 = .ok (.iconst 0, 1) := by decide +kernel
theorem dX4_readSeen_124 : decode cX4_readSeen 124 = .ok (.bipush 9, 2) := by decide +kernel
theorem dX4_readSeen_126 : decode cX4_readSeen 126 = .ok (.invokevirtual 126, 3) := by decide +kernel
theorem dX4_readSeen_129 : decode cX4_readSeen 129 = .ok (.ifCond .ne 5, 3) := by decide +kernel
theorem dX4_readSeen_132 : decode cX4_readSeen 132 = .ok (.iconst 0, 1) := by decide +kernel
theorem dX4_readSeen_133 : decode cX4_readSeen 133 = .ok (.ireturn, 1) := by decide +kernel
theorem dX4_readSeen_134 : decode cX4_readSeen 134 = .ok (.aload_n 0, 1) := by decide +kernel
theorem dX4_readSeen_135 : decode cX4_readSeen 135 = .ok (.getfield 31, 3) := by decide +kernel
theorem dX4_readSeen_138 : decode cX4_readSeen 138 = .ok (.getfield 107, 3) := by decide +kernel
theorem dX4_readSeen_141 : decode cX4_readSeen 141 = .ok (.getfield 207, 3) := by decide +kernel
theorem dX4_readSeen_144 : decode cX4_readSeen 144 = .ok (.iload_n 1, 1) := by decide +kernel
theorem dX4_readSeen_145 : decode cX4_readSeen 145 = .ok (.aload_n 0, 1) := by decide +kernel
theorem dX4_readSeen_146 : decode cX4_readSeen 146 = .ok (.getfield 130, 3) := by decide +kernel
theorem dX4_readSeen_149 : decode cX4_readSeen 149 = .ok (.iastore, 1) := by decide +kernel
theorem dX4_readSeen_150 : decode cX4_readSeen 150 = .ok (.aload_n 0, 1) := by decide +kernel
theorem dX4_readSeen_151 : decode cX4_readSeen 151 = .ok (.getfield 31, 3) := by decide +kernel
theorem dX4_readSeen_154 : decode cX4_readSeen 154 = .ok (.getfield 107, 3) := by decide +kernel
theorem dX4_readSeen_157 : decode cX4_readSeen 157 = .ok (.dup, 1) := by decide +kernel
theorem dX4_readSeen_158 : decode cX4_readSeen 158 = .ok (.getfield 119, 3) := by decide +kernel
theorem dX4_readSeen_161 : decode cX4_readSeen 161 = .ok (.iconst 1, 1) := by decide +kernel
theorem dX4_readSeen_162 : decode cX4_readSeen 162 = .ok (.iadd, 1) := by decide +kernel
theorem dX4_readSeen_163 : decode cX4_readSeen 163 = .ok (.putfield 119, 3) := by decide +kernel
theorem dX4_readSeen_166 : decode cX4_readSeen 166 = .ok (.iconst 1, 1) := by decide +kernel
theorem dX4_readSeen_167 : decode cX4_readSeen 167 = .ok (.ireturn, 1) := by decide +kernel
theorem dX4_takeWord_0 : decode cX4_takeWord 0 = .ok (.aload_n 0, 1) := by decide +kernel
theorem dX4_takeWord_1 : decode cX4_takeWord 1 = .ok (.getfield 16, 3) := by decide +kernel
theorem dX4_takeWord_4 : decode cX4_takeWord 4 = .ok (.aload_n 1, 1) := by decide +kernel
theorem dX4_takeWord_5 : decode cX4_takeWord 5 = .ok (.invokevirtual 81, 3) := by decide +kernel
theorem dX4_takeWord_8 : decode cX4_takeWord 8 = .ok (.ifCond .ne 9, 3) := by decide +kernel
theorem dX4_takeWord_11 : decode cX4_takeWord 11 = .ok (.aload_n 0, 1) := by decide +kernel
theorem dX4_takeWord_12 : decode cX4_takeWord 12 = .ok (.iconst 1, 1) := by decide +kernel
theorem dX4_takeWord_13 : decode cX4_takeWord 13 = .ok (.invokevirtual 66, 3) := by decide +kernel
theorem dX4_takeWord_16 : decode cX4_takeWord 16 = .ok (.ireturn, 1) := by decide +kernel
theorem dX4_takeWord_17 : decode cX4_takeWord 17 = .ok (.aload_n 0, 1) := by decide +kernel
theorem dX4_takeWord_18 : decode cX4_takeWord 18 = .ok (.getfield 16, 3) := by decide +kernel
theorem dX4_takeWord_21 : decode cX4_takeWord 21 = .ok (.invokevirtual 63, 3) := by decide +kernel
theorem dX4_takeWord_24 : decode cX4_takeWord 24 = .ok (.iconst 1, 1) := by decide +kernel
theorem dX4_takeWord_25 : decode cX4_takeWord 25 = .ok (.ireturn, 1) := by decide +kernel
theorem dX4_isNumber_0 : decode cX4_isNumber 0 = .ok (.aload_n 0, 1) := by decide +kernel
theorem dX4_isNumber_1 : decode cX4_isNumber 1 = .ok (.getfield 16, 3) := by decide +kernel
theorem dX4_isNumber_4 : decode cX4_isNumber 4 = .ok (.getfield 60, 3) := by decide +kernel
theorem dX4_isNumber_7 : decode cX4_isNumber 7 = .ok (.iconst 2, 1) := by decide +kernel
theorem dX4_isNumber_8 : decode cX4_isNumber 8 = .ok (.if_icmp .eq 9, 3) := by decide +kernel
theorem dX4_isNumber_11 : decode cX4_isNumber 11 = .ok (.aload_n 0, 1) := by decide +kernel
theorem dX4_isNumber_12 : decode cX4_isNumber 12 = .ok (.iconst 1, 1) := by decide +kernel
theorem dX4_isNumber_13 : decode cX4_isNumber 13 = .ok (.invokevirtual 66, 3) := by decide +kernel
theorem dX4_isNumber_16 : decode cX4_isNumber 16 = .ok (.ireturn, 1) := by decide +kernel
theorem dX4_isNumber_17 : decode cX4_isNumber 17 = .ok (.aload_n 0, 1) := by decide +kernel
theorem dX4_isNumber_18 : decode cX4_isNumber 18 = .ok (.getfield 16, 3) := by decide +kernel
theorem dX4_isNumber_21 : decode cX4_isNumber 21 = .ok (.getfield 194, 3) := by decide +kernel
theorem dX4_isNumber_24 : decode cX4_isNumber 24 = .ok (.iload_n 1, 1) := by decide +kernel
theorem dX4_isNumber_25 : decode cX4_isNumber 25 = .ok (.iload_n 2, 1) := by decide +kernel
theorem dX4_isNumber_26 : decode cX4_isNumber 26 = .ok (.invokestatic 210, 3) := by decide +kernel
theorem dX4_isNumber_29 : decode cX4_isNumber 29 = .ok (.ifCond .ne 11, 3) := by decide +kernel
theorem dX4_isNumber_32 : decode cX4_isNumber 32 = .ok (.aload_n 0, 1) := by decide +kernel
theorem dX4_isNumber_33 : decode cX4_isNumber 33 = .ok (.iconst 4, 1) := by decide +kernel
theorem dX4_isNumber_34 : decode cX4_isNumber 34 = .ok (.invokevirtual 66, 3) := by decide +kernel
theorem dX4_isNumber_37 : decode cX4_isNumber 37 = .ok (.ifCond .eq 7, 3) := by decide +kernel
theorem dX4_isNumber_40 : decode cX4_isNumber 40 = .ok (.iconst 1, 1) := by decide +kernel
theorem dX4_isNumber_41 : decode cX4_isNumber 41 = .ok (.goto 4, 3) := by decide +kernel
theorem dX4_isNumber_44 : decode cX4_isNumber 44 = .ok (.iconst 0, 1) := by decide +kernel
theorem dX4_isNumber_45 : decode cX4_isNumber 45 = .ok (.ireturn, 1) := by decide +kernel
theorem dX4_takeNumber_0 : decode cX4_takeNumber 0 = .ok (.aload_n 0, 1) := by decide +kernel
theorem dX4_takeNumber_1 : decode cX4_takeNumber 1 = .ok (.getfield 16, 3) := by decide +kernel
theorem dX4_takeNumber_4 : decode cX4_takeNumber 4 = .ok (.aload_n 1, 1) := by decide +kernel
theorem dX4_takeNumber_5 : decode cX4_takeNumber 5 = .ok (.invokevirtual 81, 3) := by decide +kernel
theorem dX4_takeNumber_8 : decode cX4_takeNumber 8 = .ok (.ifCond .ne 9, 3) := by decide +kernel
theorem dX4_takeNumber_11 : decode cX4_takeNumber 11 = .ok (.aload_n 0, 1) := by decide +kernel
theorem dX4_takeNumber_12 : decode cX4_takeNumber 12 = .ok (.iconst 1, 1) := by decide +kernel
theorem dX4_takeNumber_13 : decode cX4_takeNumber 13 = .ok (.invokevirtual 66, 3) := by decide +kernel
theorem dX4_takeNumber_16 : decode cX4_takeNumber 16 = .ok (.ireturn, 1) := by decide +kernel
theorem dX4_takeNumber_17 : decode cX4_takeNumber 17 = .ok (.aload_n 0, 1) := by decide +kernel
theorem dX4_takeNumber_18 : decode cX4_takeNumber 18 = .ok (.getfield 16, 3) := by decide +kernel
theorem dX4_takeNumber_21 : decode cX4_takeNumber 21 = .ok (.invokevirtual 63, 3) := by decide +kernel
theorem dX4_takeNumber_24 : decode cX4_takeNumber 24 = .ok (.aload_n 0, 1) := by decide +kernel
theorem dX4_takeNumber_25 : decode cX4_takeNumber 25 = .ok (.iload_n 2, 1) := by decide +kernel
theorem dX4_takeNumber_26 : decode cX4_takeNumber 26 = .ok (.iload_n 3, 1) := by decide +kernel
theorem dX4_takeNumber_27 : decode cX4_takeNumber 27 = .ok (.invokevirtual 191, 3) := by decide +kernel
theorem dX4_takeNumber_30 : decode cX4_takeNumber 30 = .ok (.ifCond .ne 5, 3) := by decide +kernel
theorem dX4_takeNumber_33 : decode cX4_takeNumber 33 = .ok (.iconst 0, 1) := by decide +kernel
theorem dX4_takeNumber_34 : decode cX4_takeNumber 34 = .ok (.ireturn, 1) := by decide +kernel
theorem dX4_takeNumber_35 : decode cX4_takeNumber 35 = .ok (.aload_n 0, 1) := by decide +kernel
theorem dX4_takeNumber_36 : decode cX4_takeNumber 36 = .ok (.aload_n 0, 1) := by decide +kernel
theorem dX4_takeNumber_37 : decode cX4_takeNumber 37 = .ok (.getfield 16, 3) := by decide +kernel
theorem dX4_takeNumber_40 : decode cX4_takeNumber 40 = .ok (.getfield 194, 3) := by decide +kernel
theorem dX4_takeNumber_43 : decode cX4_takeNumber 43 = .ok (.putfield 130, 3) := by decide +kernel
theorem dX4_takeNumber_46 : decode cX4_takeNumber 46 = .ok (.aload_n 0, 1) := by decide +kernel
theorem dX4_takeNumber_47 : decode cX4_takeNumber 47 = .ok (.getfield 16, 3) := by decide +kernel
theorem dX4_takeNumber_50 : decode cX4_takeNumber 50 = .ok (.invokevirtual 63, 3) := by decide +kernel
theorem dX4_takeNumber_53 : decode cX4_takeNumber 53 = .ok (.iconst 1, 1) := by decide +kernel
theorem dX4_takeNumber_54 : decode cX4_takeNumber 54 = .ok (.ireturn, 1) := by decide +kernel
theorem dX4_takeNewName_0 : decode cX4_takeNewName 0 = .ok (.aload_n 0, 1) := by decide +kernel
theorem dX4_takeNewName_1 : decode cX4_takeNewName 1 = .ok (.getfield 16, 3) := by decide +kernel
theorem dX4_takeNewName_4 : decode cX4_takeNewName 4 = .ok (.invokevirtual 214, 3) := by decide +kernel
theorem dX4_takeNewName_7 : decode cX4_takeNewName 7 = .ok (.ifCond .ne 9, 3) := by decide +kernel
theorem dX4_takeNewName_10 : decode cX4_takeNewName 10 = .ok (.aload_n 0, 1) := by decide +kernel
theorem dX4_takeNewName_11 : decode cX4_takeNewName 11 = .ok (.iconst 1, 1) := by decide +kernel
theorem dX4_takeNewName_12 : decode cX4_takeNewName 12 = .ok (.invokevirtual 66, 3) := by decide +kernel
theorem dX4_takeNewName_15 : decode cX4_takeNewName 15 = .ok (.ireturn, 1) := by decide +kernel
theorem dX4_takeNewName_16 : decode cX4_takeNewName 16 = .ok (.aload_n 0, 1) := by decide +kernel
theorem dX4_takeNewName_17 : decode cX4_takeNewName 17 = .ok (.aload_n 0, 1) := by decide +kernel
theorem dX4_takeNewName_18 : decode cX4_takeNewName 18 = .ok (.getfield 16, 3) := by decide +kernel
theorem dX4_takeNewName_21 : decode cX4_takeNewName 21 = .ok (.getfield 217, 3) := by decide +kernel
theorem dX4_takeNewName_24 : decode cX4_takeNewName 24 = .ok (.invokevirtual 221, 3) := by decide +kernel
theorem dX4_takeNewName_27 : decode cX4_takeNewName 27 = .ok (.ifCond .lt 9, 3) := by decide +kernel
theorem dX4_takeNewName_30 : decode cX4_takeNewName 30 = .ok (.aload_n 0, 1) := by decide +kernel
theorem dX4_takeNewName_31 : decode cX4_takeNewName 31 = .ok (.iconst 3, 1) := by decide +kernel
theorem dX4_takeNewName_32 : decode cX4_takeNewName 32 = .ok (.invokevirtual 66, 3) := by decide +kernel
theorem dX4_takeNewName_35 : decode cX4_takeNewName 35 = .ok (.ireturn, 1) := by decide +kernel
theorem dX4_takeNewName_36 : decode cX4_takeNewName 36 = .ok (.aload_n 0, 1) := by decide +kernel
theorem dX4_takeNewName_37 : decode cX4_takeNewName 37 = .ok (.getfield 42, 3) := by decide +kernel
theorem dX4_takeNewName_40 : decode cX4_takeNewName 40 = .ok (.bipush 16, 2) := by decide +kernel
theorem dX4_takeNewName_42 : decode cX4_takeNewName 42 = .ok (.if_icmp .lt 9, 3) := by decide +kernel
theorem dX4_takeNewName_45 : decode cX4_takeNewName 45 = .ok (.aload_n 0, 1) := by decide +kernel
theorem dX4_takeNewName_46 : decode cX4_takeNewName 46 = .ok (.iconst 5, 1) := by decide +kernel
theorem dX4_takeNewName_47 : decode cX4_takeNewName 47 = .ok (.invokevirtual 66, 3) := by decide +kernel
theorem dX4_takeNewName_50 : decode cX4_takeNewName 50 = .ok (.ireturn, 1) := by decide +kernel
theorem dX4_takeNewName_51 : decode cX4_takeNewName 51 = .ok (.aload_n 0, 1) := by decide +kernel
theorem dX4_takeNewName_52 : decode cX4_takeNewName 52 = .ok (.getfield 22, 3) := by decide +kernel
theorem dX4_takeNewName_55 : decode cX4_takeNewName 55 = .ok (.aload_n 0, 1) := by decide +kernel
theorem dX4_takeNewName_56 : decode cX4_takeNewName 56 = .ok (.getfield 42, 3) := by decide +kernel
theorem dX4_takeNewName_59 : decode cX4_takeNewName 59 = .ok (.aload_n 0, 1) := by decide +kernel
theorem dX4_takeNewName_60 : decode cX4_takeNewName 60 = .ok (.getfield 16, 3) := by decide +kernel
theorem dX4_takeNewName_63 : decode cX4_takeNewName 63 = .ok (.getfield 217, 3) := by decide +kernel
theorem dX4_takeNewName_66 : decode cX4_takeNewName 66 = .ok (.lastore, 1) := by decide +kernel
theorem dX4_takeNewName_67 : decode cX4_takeNewName 67 = .ok (.aload_n 0, 1) := by decide +kernel
theorem dX4_takeNewName_68 : decode cX4_takeNewName 68 = .ok (.getfield 26, 3) := by decide +kernel
theorem dX4_takeNewName_71 : decode cX4_takeNewName 71 = .ok (.aload_n 0, 1) := by decide +kernel
theorem dX4_takeNewName_72 : decode cX4_takeNewName 72 = .ok (.getfield 42, 3) := by decide +kernel
theorem dX4_takeNewName_75 : decode cX4_takeNewName 75 = .ok (.iload_n 1, 1) := by decide +kernel
theorem dX4_takeNewName_76 : decode cX4_takeNewName 76 = .ok (.iastore, 1) := by decide +kernel
theorem dX4_takeNewName_77 : decode cX4_takeNewName 77 = .ok (.aload_n 0, 1) := by decide +kernel
theorem dX4_takeNewName_78 : decode cX4_takeNewName 78 = .ok (.dup, 1) := by decide +kernel
theorem dX4_takeNewName_79 : decode cX4_takeNewName 79 = .ok (.getfield 42, 3) := by decide +kernel
theorem dX4_takeNewName_82 : decode cX4_takeNewName 82 = .ok (.iconst 1, 1) := by decide +kernel
theorem dX4_takeNewName_83 : decode cX4_takeNewName 83 = .ok (.iadd, 1) := by decide +kernel
theorem dX4_takeNewName_84 : decode cX4_takeNewName 84 = .ok (.putfield 42, 3) := by decide +kernel
theorem dX4_takeNewName_87 : decode cX4_takeNewName 87 = .ok (.aload_n 0, 1) := by decide +kernel
theorem dX4_takeNewName_88 : decode cX4_takeNewName 88 = .ok (.getfield 16, 3) := by decide +kernel
theorem dX4_takeNewName_91 : decode cX4_takeNewName 91 = .ok (.invokevirtual 63, 3) := by decide +kernel
theorem dX4_takeNewName_94 : decode cX4_takeNewName 94 = .ok (.iconst 1, 1) := by decide +kernel
theorem dX4_takeNewName_95 : decode cX4_takeNewName 95 = .ok (.ireturn, 1) := by decide +kernel
theorem dX4_takeHouse_0 : decode cX4_takeHouse 0 = .ok (.aload_n 0, 1) := by decide +kernel
theorem dX4_takeHouse_1 : decode cX4_takeHouse 1 = .ok (.getfield 16, 3) := by decide +kernel
theorem dX4_takeHouse_4 : decode cX4_takeHouse 4 = .ok (.invokevirtual 214, 3) := by decide +kernel
theorem dX4_takeHouse_7 : decode cX4_takeHouse 7 = .ok (.ifCond .ne 9, 3) := by decide +kernel
theorem dX4_takeHouse_10 : decode cX4_takeHouse 10 = .ok (.aload_n 0, 1) := by decide +kernel
theorem dX4_takeHouse_11 : decode cX4_takeHouse 11 = .ok (.iconst 1, 1) := by decide +kernel
theorem dX4_takeHouse_12 : decode cX4_takeHouse 12 = .ok (.invokevirtual 66, 3) := by decide +kernel
theorem dX4_takeHouse_15 : decode cX4_takeHouse 15 = .ok (.ireturn, 1) := by decide +kernel
theorem dX4_takeHouse_16 : decode cX4_takeHouse 16 = .ok (.aload_n 0, 1) := by decide +kernel
theorem dX4_takeHouse_17 : decode cX4_takeHouse 17 = .ok (.aload_n 0, 1) := by decide +kernel
theorem dX4_takeHouse_18 : decode cX4_takeHouse 18 = .ok (.getfield 16, 3) := by decide +kernel
theorem dX4_takeHouse_21 : decode cX4_takeHouse 21 = .ok (.getfield 217, 3) := by decide +kernel
theorem dX4_takeHouse_24 : decode cX4_takeHouse 24 = .ok (.invokevirtual 221, 3) := by decide +kernel
theorem dX4_takeHouse_27 : decode cX4_takeHouse 27 = .ok (.istore_n 2, 1) := by decide +kernel
theorem dX4_takeHouse_28 : decode cX4_takeHouse 28 = .ok (.iload_n 2, 1) := by decide +kernel
theorem dX4_takeHouse_29 : decode cX4_takeHouse 29 = .ok (.ifCond .lt 12, 3) := by decide +kernel
theorem dX4_takeHouse_32 : decode cX4_takeHouse 32 = .ok (.aload_n 0, 1) := by decide +kernel
theorem dX4_takeHouse_33 : decode cX4_takeHouse 33 = .ok (.getfield 26, 3) := by decide +kernel
theorem dX4_takeHouse_36 : decode cX4_takeHouse 36 = .ok (.iload_n 2, 1) := by decide +kernel
theorem dX4_takeHouse_37 : decode cX4_takeHouse 37 = .ok (.iaload, 1) := by decide +kernel
theorem dX4_takeHouse_38 : decode cX4_takeHouse 38 = .ok (.ifCond .ge 9, 3) := by decide +kernel
theorem dX4_takeHouse_41 : decode cX4_takeHouse 41 = .ok (.aload_n 0, 1) := by decide +kernel
theorem dX4_takeHouse_42 : decode cX4_takeHouse 42 = .ok (.iconst 2, 1) := by decide +kernel
theorem dX4_takeHouse_43 : decode cX4_takeHouse 43 = .ok (.invokevirtual 66, 3) := by decide +kernel
theorem dX4_takeHouse_46 : decode cX4_takeHouse 46 = .ok (.ireturn, 1) := by decide +kernel
theorem dX4_takeHouse_47 : decode cX4_takeHouse 47 = .ok (.aload_n 0, 1) := by decide +kernel
theorem dX4_takeHouse_48 : decode cX4_takeHouse 48 = .ok (.getfield 26, 3) := by decide +kernel
theorem dX4_takeHouse_51 : decode cX4_takeHouse 51 = .ok (.iload_n 2, 1) := by decide +kernel
theorem dX4_takeHouse_52 : decode cX4_takeHouse 52 = .ok (.iaload, 1) := by decide +kernel
theorem dX4_takeHouse_53 : decode cX4_takeHouse 53 = .ok (.iload_n 1, 1) := by decide +kernel
theorem dX4_takeHouse_54 : decode cX4_takeHouse 54 = .ok (.if_icmp .ne 9, 3) := by decide +kernel
theorem dX4_takeHouse_57 : decode cX4_takeHouse 57 = .ok (.aload_n 0, 1) := by decide +kernel
theorem dX4_takeHouse_58 : decode cX4_takeHouse 58 = .ok (.iconst 3, 1) := by decide +kernel
theorem dX4_takeHouse_59 : decode cX4_takeHouse 59 = .ok (.invokevirtual 66, 3) := by decide +kernel
theorem dX4_takeHouse_62 : decode cX4_takeHouse 62 = .ok (.ireturn, 1) := by decide +kernel
theorem dX4_takeHouse_63 : decode cX4_takeHouse 63 = .ok (.aload_n 0, 1) := by decide +kernel
theorem dX4_takeHouse_64 : decode cX4_takeHouse 64 = .ok (.aload_n 0, 1) := by decide +kernel
theorem dX4_takeHouse_65 : decode cX4_takeHouse 65 = .ok (.getfield 26, 3) := by decide +kernel
theorem dX4_takeHouse_68 : decode cX4_takeHouse 68 = .ok (.iload_n 2, 1) := by decide +kernel
theorem dX4_takeHouse_69 : decode cX4_takeHouse 69 = .ok (.iaload, 1) := by decide +kernel
theorem dX4_takeHouse_70 : decode cX4_takeHouse 70 = .ok (.putfield 130, 3) := by decide +kernel
theorem dX4_takeHouse_73 : decode cX4_takeHouse 73 = .ok (.aload_n 0, 1) := by decide +kernel
theorem dX4_takeHouse_74 : decode cX4_takeHouse 74 = .ok (.getfield 16, 3) := by decide +kernel
theorem dX4_takeHouse_77 : decode cX4_takeHouse 77 = .ok (.invokevirtual 63, 3) := by decide +kernel
theorem dX4_takeHouse_80 : decode cX4_takeHouse 80 = .ok (.iconst 1, 1) := by decide +kernel
theorem dX4_takeHouse_81 : decode cX4_takeHouse 81 = .ok (.ireturn, 1) := by decide +kernel
theorem dX4_takeKind_0 : decode cX4_takeKind 0 = .ok (.aload_n 0, 1) := by decide +kernel
theorem dX4_takeKind_1 : decode cX4_takeKind 1 = .ok (.getfield 16, 3) := by decide +kernel
theorem dX4_takeKind_4 : decode cX4_takeKind 4 = .ok (.ldc 225, 2) := by decide +kernel
theorem dX4_takeKind_6 : decode cX4_takeKind 6 = .ok (.invokevirtual 81, 3) := by decide +kernel
theorem dX4_takeKind_9 : decode cX4_takeKind 9 = .ok (.ifCond .eq 11, 3) := by decide +kernel
theorem dX4_takeKind_12 : decode cX4_takeKind 12 = .ok (.aload_n 0, 1) := by decide +kernel
theorem dX4_takeKind_13 : decode cX4_takeKind 13 = .ok (.iconst 0, 1) := by decide +kernel
theorem dX4_takeKind_14 : decode cX4_takeKind 14 = .ok (.putfield 130, 3) := by decide +kernel
theorem dX4_takeKind_17 : decode cX4_takeKind 17 = .ok (.goto 69, 3) := by decide +kernel
theorem dX4_takeKind_20 : decode cX4_takeKind 20 = .ok (.aload_n 0, 1) := by decide +kernel
theorem dX4_takeKind_21 : decode cX4_takeKind 21 = .ok (.getfield 16, 3) := by decide +kernel
theorem dX4_takeKind_24 : decode cX4_takeKind 24 = .ok (.ldc 227, 2) := by decide +kernel
theorem dX4_takeKind_26 : decode cX4_takeKind 26 = .ok (.invokevirtual 81, 3) := by decide +kernel
theorem dX4_takeKind_29 : decode cX4_takeKind 29 = .ok (.ifCond .eq 11, 3) := by decide +kernel
theorem dX4_takeKind_32 : decode cX4_takeKind 32 = .ok (.aload_n 0, 1) := by decide +kernel
theorem dX4_takeKind_33 : decode cX4_takeKind 33 = .ok (.iconst 1, 1) := by decide +kernel
theorem dX4_takeKind_34 : decode cX4_takeKind 34 = .ok (.putfield 130, 3) := by decide +kernel
theorem dX4_takeKind_37 : decode cX4_takeKind 37 = .ok (.goto 49, 3) := by decide +kernel
theorem dX4_takeKind_40 : decode cX4_takeKind 40 = .ok (.aload_n 0, 1) := by decide +kernel
theorem dX4_takeKind_41 : decode cX4_takeKind 41 = .ok (.getfield 16, 3) := by decide +kernel
theorem dX4_takeKind_44 : decode cX4_takeKind 44 = .ok (.ldc 229, 2) := by decide +kernel
theorem dX4_takeKind_46 : decode cX4_takeKind 46 = .ok (.invokevirtual 81, 3) := by decide +kernel
theorem dX4_takeKind_49 : decode cX4_takeKind 49 = .ok (.ifCond .eq 11, 3) := by decide +kernel
theorem dX4_takeKind_52 : decode cX4_takeKind 52 = .ok (.aload_n 0, 1) := by decide +kernel
theorem dX4_takeKind_53 : decode cX4_takeKind 53 = .ok (.iconst 2, 1) := by decide +kernel
theorem dX4_takeKind_54 : decode cX4_takeKind 54 = .ok (.putfield 130, 3) := by decide +kernel
theorem dX4_takeKind_57 : decode cX4_takeKind 57 = .ok (.goto 29, 3) := by decide +kernel
theorem dX4_takeKind_60 : decode cX4_takeKind 60 = .ok (.aload_n 0, 1) := by decide +kernel
theorem dX4_takeKind_61 : decode cX4_takeKind 61 = .ok (.getfield 16, 3) := by decide +kernel
theorem dX4_takeKind_64 : decode cX4_takeKind 64 = .ok (.ldc 231, 2) := by decide +kernel
theorem dX4_takeKind_66 : decode cX4_takeKind 66 = .ok (.invokevirtual 81, 3) := by decide +kernel
theorem dX4_takeKind_69 : decode cX4_takeKind 69 = .ok (.ifCond .eq 11, 3) := by decide +kernel
theorem dX4_takeKind_72 : decode cX4_takeKind 72 = .ok (.aload_n 0, 1) := by decide +kernel
theorem dX4_takeKind_73 : decode cX4_takeKind 73 = .ok (.iconst 3, 1) := by decide +kernel
theorem dX4_takeKind_74 : decode cX4_takeKind 74 = .ok (.putfield 130, 3) := by decide +kernel
theorem dX4_takeKind_77 : decode cX4_takeKind 77 = .ok (.goto 9, 3) := by decide +kernel
theorem dX4_takeKind_80 : decode cX4_takeKind 80 = .ok (.aload_n 0, 1) := by decide +kernel
theorem dX4_takeKind_81 : decode cX4_takeKind 81 = .ok (.iconst 1, 1) := by decide +kernel
theorem dX4_takeKind_82 : decode cX4_takeKind 82 = .ok (.invokevirtual 66, 3) := by decide +kernel
theorem dX4_takeKind_85 : decode cX4_takeKind 85 = .ok (.ireturn, 1) := by decide +kernel
theorem dX4_takeKind_86 : decode cX4_takeKind 86 = .ok (.aload_n 0, 1) := by decide +kernel
theorem dX4_takeKind_87 : decode cX4_takeKind 87 = .ok (.getfield 16, 3) := by decide +kernel
theorem dX4_takeKind_90 : decode cX4_takeKind 90 = .ok (.invokevirtual 63, 3) := by decide +kernel
theorem dX4_takeKind_93 : decode cX4_takeKind 93 = .ok (.iconst 1, 1) := by decide +kernel
theorem dX4_takeKind_94 : decode cX4_takeKind 94 = .ok (.ireturn, 1) := by decide +kernel
theorem dX4_nameAt_0 : decode cX4_nameAt 0 = .ok (.iconst 0, 1) := by decide +kernel
theorem dX4_nameAt_1 : decode cX4_nameAt 1 = .ok (.istore_n 3, 1) := by decide +kernel
theorem dX4_nameAt_2 : decode cX4_nameAt 2 = .ok (.iload_n 3, 1) := by decide +kernel
theorem dX4_nameAt_3 : decode cX4_nameAt 3 = .ok (.aload_n 0, 1) := by decide +kernel
theorem dX4_nameAt_4 : decode cX4_nameAt 4 = .ok (.getfield 42, 3) := by decide +kernel
theorem dX4_nameAt_7 : decode cX4_nameAt 7 = .ok (.if_icmp .ge 22, 3) := by decide +kernel
theorem dX4_nameAt_10 : decode cX4_nameAt 10 = .ok (.aload_n 0, 1) := by decide +kernel
theorem dX4_nameAt_11 : decode cX4_nameAt 11 = .ok (.getfield 22, 3) := by decide +kernel
theorem dX4_nameAt_14 : decode cX4_nameAt 14 = .ok (.iload_n 3, 1) := by decide +kernel
theorem dX4_nameAt_15 : decode cX4_nameAt 15 = .ok (.laload, 1) := by decide +kernel
theorem dX4_nameAt_16 : decode cX4_nameAt 16 = .ok (.lload_n 1, 1) := by decide +kernel
theorem dX4_nameAt_17 : decode cX4_nameAt 17 = .ok (.lcmp, 1) := by decide +kernel
theorem dX4_nameAt_18 : decode cX4_nameAt 18 = .ok (.ifCond .ne 5, 3) := by decide +kernel
theorem dX4_nameAt_21 : decode cX4_nameAt 21 = .ok (.iload_n 3, 1) := by decide +kernel
theorem dX4_nameAt_22 : decode cX4_nameAt 22 = .ok (.ireturn, 1) := by decide +kernel
theorem dX4_nameAt_23 : decode cX4_nameAt 23 = .ok (.iinc 3 1, 3) := by decide +kernel
theorem dX4_nameAt_26 : decode cX4_nameAt 26 = .ok (.goto (-24), 3) := by decide +kernel
theorem dX4_nameAt_29 : decode cX4_nameAt 29 = .ok (.iconst (-1), 1) := by decide +kernel
theorem dX4_nameAt_30 : decode cX4_nameAt 30 = .ok (.ireturn, 1) := by decide +kernel
theorem dX5_init_0 : decode cX5_init 0 = .ok (.aload_n 0, 1) := by decide +kernel
theorem dX5_init_1 : decode cX5_init 1 = .ok (.invokespecial 3, 3) := by decide +kernel
theorem dX5_init_4 : decode cX5_init 4 = .ok (.aload_n 0, 1) := by decide +kernel
theorem dX5_init_5 : decode cX5_init 5 = .ok (.bipush 6, 2) := by decide +kernel
theorem dX5_init_7 : decode cX5_init 7 = .ok (.newarray .int, 2) := by decide +kernel
theorem dX5_init_9 : decode cX5_init 9 = .ok (.putfield 11, 3) := by decide +kernel
theorem dX5_init_12 : decode cX5_init 12 = .ok (.aload_n 0, 1) := by decide +kernel
theorem dX5_init_13 : decode cX5_init 13 = .ok (.bipush 6, 2) := by decide +kernel
theorem dX5_init_15 : decode cX5_init 15 = .ok (.newarray .int, 2) := by decide +kernel
theorem dX5_init_17 : decode cX5_init 17 = .ok (.putfield 17, 3) := by decide +kernel
theorem dX5_init_20 : decode cX5_init 20 = .ok (.return_, 1) := by decide +kernel
theorem dX5_shortest_0 : decode cX5_shortest 0 = .ok (.aload_n 0, 1) := by decide +kernel
theorem dX5_shortest_1 : decode cX5_shortest 1 = .ok (.aload_n 1, 1) := by decide +kernel
theorem dX5_shortest_2 : decode cX5_shortest 2 = .ok (.aload_n 2, 1) := by decide +kernel
theorem dX5_shortest_3 : decode cX5_shortest 3 = .ok (.iload_n 3, 1) := by decide +kernel
theorem dX5_shortest_4 : decode cX5_shortest 4 = .ok (.invokevirtual 20, 3) := by decide +kernel
theorem dX5_shortest_7 : decode cX5_shortest 7 = .ok (.bipush 99, 2) := by decide +kernel
theorem dX5_shortest_9 : decode cX5_shortest 9 = .ok (.istore 4, 2) := by decide +kernel
theorem dX5_shortest_11 : decode cX5_shortest 11 = .ok (.iconst 0, 1) := by decide +kernel
theorem dX5_shortest_12 : decode cX5_shortest 12 = .ok (.istore 5, 2) := by decide +kernel
theorem dX5_shortest_14 : decode cX5_shortest 14 = .ok (.iload 5, 2) := by decide +kernel
theorem dX5_shortest_16 : decode cX5_shortest 16 = .ok (.aload_n 1, 1) := by decide +kernel
theorem dX5_shortest_17 : decode cX5_shortest 17 = .ok (.getfield 24, 3) := by decide +kernel
theorem dX5_shortest_20 : decode cX5_shortest 20 = .ok (.if_icmp .ge 35, 3) := by decide +kernel
theorem dX5_shortest_23 : decode cX5_shortest 23 = .ok (.aload_n 0, 1) := by decide +kernel
theorem dX5_shortest_24 : decode cX5_shortest 24 = .ok (.iload_n 3, 1) := by decide +kernel
theorem dX5_shortest_25 : decode cX5_shortest 25 = .ok (.iload 5, 2) := by decide +kernel
theorem dX5_shortest_27 : decode cX5_shortest 27 = .ok (.invokevirtual 28, 3) := by decide +kernel
theorem dX5_shortest_30 : decode cX5_shortest 30 = .ok (.ifCond .eq 19, 3) := by decide +kernel
theorem dX5_shortest_33 : decode cX5_shortest 33 = .ok (.iload 4, 2) := by decide +kernel
theorem dX5_shortest_35 : decode cX5_shortest 35 = .ok (.aload_n 0, 1) := by decide +kernel
theorem dX5_shortest_36 : decode cX5_shortest 36 = .ok (.getfield 17, 3) := by decide +kernel
theorem dX5_shortest_39 : decode cX5_shortest 39 = .ok (.iload 5, 2) := by decide +kernel
theorem dX5_shortest_41 : decode cX5_shortest 41 = .ok (.iaload, 1) := by decide +kernel
theorem dX5_shortest_42 : decode cX5_shortest 42 = .ok (.iconst 1, 1) := by decide +kernel
theorem dX5_shortest_43 : decode cX5_shortest 43 = .ok (.iadd, 1) := by decide +kernel
theorem dX5_shortest_44 : decode cX5_shortest 44 = .ok (.invokestatic 32, 3) := by decide +kernel
theorem dX5_shortest_47 : decode cX5_shortest 47 = .ok (.istore 4, 2) := by decide +kernel
theorem dX5_shortest_49 : decode cX5_shortest 49 = .ok (.iinc 5 1, 3) := by decide +kernel
theorem dX5_shortest_52 : decode cX5_shortest 52 = .ok (.goto (-38), 3) := by decide +kernel
theorem dX5_shortest_55 : decode cX5_shortest 55 = .ok (.iload 4, 2) := by decide +kernel
theorem dX5_shortest_57 : decode cX5_shortest 57 = .ok (.bipush 99, 2) := by decide +kernel
theorem dX5_shortest_59 : decode cX5_shortest 59 = .ok (.if_icmp .lt 8, 3) := by decide +kernel
theorem dX5_shortest_62 : decode cX5_shortest 62 = .ok (.bipush (-2), 2) := by decide +kernel
theorem dX5_shortest_64 : decode cX5_shortest 64 = .ok (.goto 5, 3) := by decide +kernel
theorem dX5_shortest_67 : decode cX5_shortest 67 = .ok (.iload 4, 2) := by decide +kernel
theorem dX5_shortest_69 : decode cX5_shortest 69 = .ok (.ireturn, 1) := by decide +kernel
theorem dX5_memberAt_0 : decode cX5_memberAt 0 = .ok (.aload_n 0, 1) := by decide +kernel
theorem dX5_memberAt_1 : decode cX5_memberAt 1 = .ok (.aload_n 1, 1) := by decide +kernel
theorem dX5_memberAt_2 : decode cX5_memberAt 2 = .ok (.aload_n 2, 1) := by decide +kernel
theorem dX5_memberAt_3 : decode cX5_memberAt 3 = .ok (.iload_n 3, 1) := by decide +kernel
theorem dX5_memberAt_4 : decode cX5_memberAt 4 = .ok (.invokevirtual 38, 3) := by decide +kernel
theorem dX5_memberAt_7 : decode cX5_memberAt 7 = .ok (.istore 5, 2) := by decide +kernel
theorem dX5_memberAt_9 : decode cX5_memberAt 9 = .ok (.iload 4, 2) := by decide +kernel
theorem dX5_memberAt_11 : decode cX5_memberAt 11 = .ok (.ifCond .lt 10, 3) := by decide +kernel
theorem dX5_memberAt_14 : decode cX5_memberAt 14 = .ok (.iload 4, 2) := by decide +kernel
theorem dX5_memberAt_16 : decode cX5_memberAt 16 = .ok (.iload 5, 2) := by decide +kernel
theorem dX5_memberAt_18 : decode cX5_memberAt 18 = .ok (.if_icmp .lt 5, 3) := by decide +kernel
theorem dX5_memberAt_21 : decode cX5_memberAt 21 = .ok (.iconst (-1), 1) := by decide +kernel
theorem dX5_memberAt_22 : decode cX5_memberAt 22 = .ok (.ireturn, 1) := by decide +kernel
theorem dX5_memberAt_23 : decode cX5_memberAt 23 = .ok (.iload_n 3, 1) := by decide +kernel
theorem dX5_memberAt_24 : decode cX5_memberAt 24 = .ok (.istore 6, 2) := by decide +kernel
theorem dX5_memberAt_26 : decode cX5_memberAt 26 = .ok (.iconst 1, 1) := by decide +kernel
theorem dX5_memberAt_27 : decode cX5_memberAt 27 = .ok (.istore 7, 2) := by decide +kernel
theorem dX5_memberAt_29 : decode cX5_memberAt 29 = .ok (.iload 7, 2) := by decide +kernel
theorem dX5_memberAt_31 : decode cX5_memberAt 31 = .ok (.iload 4, 2) := by decide +kernel
theorem dX5_memberAt_33 : decode cX5_memberAt 33 = .ok (.if_icmp .gt 30, 3) := by decide +kernel
theorem dX5_memberAt_36 : decode cX5_memberAt 36 = .ok (.aload_n 0, 1) := by decide +kernel
theorem dX5_memberAt_37 : decode cX5_memberAt 37 = .ok (.aload_n 1, 1) := by decide +kernel
theorem dX5_memberAt_38 : decode cX5_memberAt 38 = .ok (.iload 6, 2) := by decide +kernel
theorem dX5_memberAt_40 : decode cX5_memberAt 40 = .ok (.iload 5, 2) := by decide +kernel
theorem dX5_memberAt_42 : decode cX5_memberAt 42 = .ok (.iload 7, 2) := by decide +kernel
theorem dX5_memberAt_44 : decode cX5_memberAt 44 = .ok (.isub, 1) := by decide +kernel
theorem dX5_memberAt_45 : decode cX5_memberAt 45 = .ok (.invokevirtual 42, 3) := by decide +kernel
theorem dX5_memberAt_48 : decode cX5_memberAt 48 = .ok (.istore 6, 2) := by decide +kernel
theorem dX5_memberAt_50 : decode cX5_memberAt 50 = .ok (.iload 6, 2) := by decide +kernel
theorem dX5_memberAt_52 : decode cX5_memberAt 52 = .ok (.ifCond .ge 5, 3) := by decide +kernel
theorem dX5_memberAt_55 : decode cX5_memberAt 55 = .ok (.iconst (-1), 1) := by decide +kernel
theorem dX5_memberAt_56 : decode cX5_memberAt 56 = .ok (.ireturn, 1) := by decide +kernel
theorem dX5_memberAt_57 : decode cX5_memberAt 57 = .ok (.iinc 7 1, 3) := by decide +kernel
theorem dX5_memberAt_60 : decode cX5_memberAt 60 = .ok (.goto (-31), 3) := by decide +kernel
theorem dX5_memberAt_63 : decode cX5_memberAt 63 = .ok (.iload 6, 2) := by decide +kernel
theorem dX5_memberAt_65 : decode cX5_memberAt 65 = .ok (.ireturn, 1) := by decide +kernel
theorem dX5_firstOnTheWay_0 : decode cX5_firstOnTheWay 0 = .ok (.iconst 0, 1) := by decide +kernel
theorem dX5_firstOnTheWay_1 : decode cX5_firstOnTheWay 1 = .ok (.istore 4, 2) := by decide +kernel
theorem dX5_firstOnTheWay_3 : decode cX5_firstOnTheWay 3 = .ok (.iload 4, 2) := by decide +kernel
theorem dX5_firstOnTheWay_5 : decode cX5_firstOnTheWay 5 = .ok (.aload_n 1, 1) := by decide +kernel
theorem dX5_firstOnTheWay_6 : decode cX5_firstOnTheWay 6 = .ok (.getfield 24, 3) := by decide +kernel
theorem dX5_firstOnTheWay_9 : decode cX5_firstOnTheWay 9 = .ok (.if_icmp .ge 33, 3) := by decide +kernel
theorem dX5_firstOnTheWay_12 : decode cX5_firstOnTheWay 12 = .ok (.aload_n 0, 1) := by decide +kernel
theorem dX5_firstOnTheWay_13 : decode cX5_firstOnTheWay 13 = .ok (.iload_n 2, 1) := by decide +kernel
theorem dX5_firstOnTheWay_14 : decode cX5_firstOnTheWay 14 = .ok (.iload 4, 2) := by decide +kernel
theorem dX5_firstOnTheWay_16 : decode cX5_firstOnTheWay 16 = .ok (.invokevirtual 28, 3) := by decide +kernel
theorem dX5_firstOnTheWay_19 : decode cX5_firstOnTheWay 19 = .ok (.ifCond .eq 17, 3) := by decide +kernel
theorem dX5_firstOnTheWay_22 : decode cX5_firstOnTheWay 22 = .ok (.aload_n 0, 1) := by decide +kernel
theorem dX5_firstOnTheWay_23 : decode cX5_firstOnTheWay 23 = .ok (.getfield 17, 3) := by decide +kernel
theorem dX5_firstOnTheWay_26 : decode cX5_firstOnTheWay 26 = .ok (.iload 4, 2) := by decide +kernel
theorem dX5_firstOnTheWay_28 : decode cX5_firstOnTheWay 28 = .ok (.iaload, 1) := by decide +kernel
theorem dX5_firstOnTheWay_29 : decode cX5_firstOnTheWay 29 = .ok (.iload_n 3, 1) := by decide +kernel
theorem dX5_firstOnTheWay_30 : decode cX5_firstOnTheWay 30 = .ok (.if_icmp .ne 6, 3) := by decide +kernel
theorem dX5_firstOnTheWay_33 : decode cX5_firstOnTheWay 33 = .ok (.iload 4, 2) := by decide +kernel
theorem dX5_firstOnTheWay_35 : decode cX5_firstOnTheWay 35 = .ok (.ireturn, 1) := by decide +kernel
theorem dX5_firstOnTheWay_36 : decode cX5_firstOnTheWay 36 = .ok (.iinc 4 1, 3) := by decide +kernel
theorem dX5_firstOnTheWay_39 : decode cX5_firstOnTheWay 39 = .ok (.goto (-36), 3) := by decide +kernel
theorem dX5_firstOnTheWay_42 : decode cX5_firstOnTheWay 42 = .ok (.iconst (-1), 1) := by decide +kernel
theorem dX5_firstOnTheWay_43 : decode cX5_firstOnTheWay 43 = .ok (.ireturn, 1) := by decide +kernel
theorem dX5_hasWronged_0 : decode cX5_hasWronged 0 = .ok (.aload_n 0, 1) := by decide +kernel
theorem dX5_hasWronged_1 : decode cX5_hasWronged 1 = .ok (.getfield 11, 3) := by decide +kernel
theorem dX5_hasWronged_4 : decode cX5_hasWronged 4 = .ok (.iload_n 1, 1) := by decide +kernel
theorem dX5_hasWronged_5 : decode cX5_hasWronged 5 = .ok (.iaload, 1) := by decide +kernel
theorem dX5_hasWronged_6 : decode cX5_hasWronged 6 = .ok (.iload_n 2, 1) := by decide +kernel
theorem dX5_hasWronged_7 : decode cX5_hasWronged 7 = .ok (.ishr, 1) := by decide +kernel
theorem dX5_hasWronged_8 : decode cX5_hasWronged 8 = .ok (.iconst 1, 1) := by decide +kernel
theorem dX5_hasWronged_9 : decode cX5_hasWronged 9 = .ok (.iand, 1) := by decide +kernel
theorem dX5_hasWronged_10 : decode cX5_hasWronged 10 = .ok (.ifCond .eq 7, 3) := by decide +kernel
theorem dX5_hasWronged_13 : decode cX5_hasWronged 13 = .ok (.iconst 1, 1) := by decide +kernel
theorem dX5_hasWronged_14 : decode cX5_hasWronged 14 = .ok (.goto 4, 3) := by decide +kernel
theorem dX5_hasWronged_17 : decode cX5_hasWronged 17 = .ok (.iconst 0, 1) := by decide +kernel
theorem dX5_hasWronged_18 : decode cX5_hasWronged 18 = .ok (.ireturn, 1) := by decide +kernel
theorem dX5_findSteps_0 : decode cX5_findSteps 0 = .ok (.aload_n 0, 1) := by decide +kernel
theorem dX5_findSteps_1 : decode cX5_findSteps 1 = .ok (.aload_n 1, 1) := by decide +kernel
theorem dX5_findSteps_2 : decode cX5_findSteps 2 = .ok (.aload_n 2, 1) := by decide +kernel
theorem dX5_findSteps_3 : decode cX5_findSteps 3 = .ok (.invokevirtual 46, 3) := by decide +kernel
theorem dX5_findSteps_6 : decode cX5_findSteps 6 = .ok (.iconst 0, 1) := by decide +kernel
theorem dX5_findSteps_7 : decode cX5_findSteps 7 = .ok (.istore 4, 2) := by decide +kernel
theorem dX5_findSteps_9 : decode cX5_findSteps 9 = .ok (.iload 4, 2) := by decide +kernel
theorem dX5_findSteps_11 : decode cX5_findSteps 11 = .ok (.aload_n 1, 1) := by decide +kernel
theorem dX5_findSteps_12 : decode cX5_findSteps 12 = .ok (.getfield 24, 3) := by decide +kernel
theorem dX5_findSteps_15 : decode cX5_findSteps 15 = .ok (.if_icmp .ge 28, 3) := by decide +kernel
theorem dX5_findSteps_18 : decode cX5_findSteps 18 = .ok (.aload_n 0, 1) := by decide +kernel
theorem dX5_findSteps_19 : decode cX5_findSteps 19 = .ok (.getfield 17, 3) := by decide +kernel
theorem dX5_findSteps_22 : decode cX5_findSteps 22 = .ok (.iload 4, 2) := by decide +kernel
theorem dX5_findSteps_24 : decode cX5_findSteps 24 = .ok (.iload 4, 2) := by decide +kernel
theorem dX5_findSteps_26 : decode cX5_findSteps 26 = .ok (.iload_n 3, 1) := by decide +kernel
theorem dX5_findSteps_27 : decode cX5_findSteps 27 = .ok (.if_icmp .ne 7, 3) := by decide +kernel
theorem dX5_findSteps_30 : decode cX5_findSteps 30 = .ok (.iconst 0, 1) := by decide +kernel
theorem dX5_findSteps_31 : decode cX5_findSteps 31 = .ok (.goto 5, 3) := by decide +kernel
theorem dX5_findSteps_34 : decode cX5_findSteps 34 = .ok (.bipush 99, 2) := by decide +kernel
theorem dX5_findSteps_36 : decode cX5_findSteps 36 = .ok (.iastore, 1) := by decide +kernel
theorem dX5_findSteps_37 : decode cX5_findSteps 37 = .ok (.iinc 4 1, 3) := by decide +kernel
theorem dX5_findSteps_40 : decode cX5_findSteps 40 = .ok (.goto (-31), 3) := by decide +kernel
theorem dX5_findSteps_43 : decode cX5_findSteps 43 = .ok (.iconst 0, 1) := by decide +kernel
theorem dX5_findSteps_44 : decode cX5_findSteps 44 = .ok (.istore 4, 2) := by decide +kernel
theorem dX5_findSteps_46 : decode cX5_findSteps 46 = .ok (.iload 4, 2) := by decide +kernel
theorem dX5_findSteps_48 : decode cX5_findSteps 48 = .ok (.aload_n 1, 1) := by decide +kernel
theorem dX5_findSteps_49 : decode cX5_findSteps 49 = .ok (.getfield 24, 3) := by decide +kernel
theorem dX5_findSteps_52 : decode cX5_findSteps 52 = .ok (.if_icmp .ge 82, 3) := by decide +kernel
theorem dX5_findSteps_55 : decode cX5_findSteps 55 = .ok (.iconst 0, 1) := by decide +kernel
theorem dX5_findSteps_56 : decode cX5_findSteps 56 = .ok (.istore 5, 2) := by decide +kernel
theorem dX5_findSteps_58 : decode cX5_findSteps 58 = .ok (.iload 5, 2) := by decide +kernel
theorem dX5_findSteps_60 : decode cX5_findSteps 60 = .ok (.aload_n 1, 1) := by decide +kernel
theorem dX5_findSteps_61 : decode cX5_findSteps 61 = .ok (.getfield 24, 3) := by decide +kernel
theorem dX5_findSteps_64 : decode cX5_findSteps 64 = .ok (.if_icmp .ge 64, 3) := by decide +kernel
theorem dX5_findSteps_67 : decode cX5_findSteps 67 = .ok (.iconst 0, 1) := by decide +kernel
theorem dX5_findSteps_68 : decode cX5_findSteps 68 = .ok (.istore 6, 2) := by decide +kernel
theorem dX5_findSteps_70 : decode cX5_findSteps 70 = .ok (.iload 6, 2) := by decide +kernel
theorem dX5_findSteps_72 : decode cX5_findSteps 72 = .ok (.aload_n 1, 1) := by decide +kernel
theorem dX5_findSteps_73 : decode cX5_findSteps 73 = .ok (.getfield 24, 3) := by decide +kernel
theorem dX5_findSteps_76 : decode cX5_findSteps 76 = .ok (.if_icmp .ge 46, 3) := by decide +kernel
theorem dX5_findSteps_79 : decode cX5_findSteps 79 = .ok (.aload_n 0, 1) := by decide +kernel
theorem dX5_findSteps_80 : decode cX5_findSteps 80 = .ok (.iload 5, 2) := by decide +kernel
theorem dX5_findSteps_82 : decode cX5_findSteps 82 = .ok (.iload 6, 2) := by decide +kernel
theorem dX5_findSteps_84 : decode cX5_findSteps 84 = .ok (.invokevirtual 28, 3) := by decide +kernel
theorem dX5_findSteps_87 : decode cX5_findSteps 87 = .ok (.ifCond .eq 29, 3) := by decide +kernel
theorem dX5_findSteps_90 : decode cX5_findSteps 90 = .ok (.aload_n 0, 1) := by decide +kernel
theorem dX5_findSteps_91 : decode cX5_findSteps 91 = .ok (.getfield 17, 3) := by decide +kernel
theorem dX5_findSteps_94 : decode cX5_findSteps 94 = .ok (.iload 5, 2) := by decide +kernel
theorem dX5_findSteps_96 : decode cX5_findSteps 96 = .ok (.aload_n 0, 1) := by decide +kernel
theorem dX5_findSteps_97 : decode cX5_findSteps 97 = .ok (.getfield 17, 3) := by decide +kernel
theorem dX5_findSteps_100 : decode cX5_findSteps 100 = .ok (.iload 5, 2) := by decide +kernel
theorem dX5_findSteps_102 : decode cX5_findSteps 102 = .ok (.iaload, 1) := by decide +kernel
theorem dX5_findSteps_103 : decode cX5_findSteps 103 = .ok (.aload_n 0, 1) := by decide +kernel
theorem dX5_findSteps_104 : decode cX5_findSteps 104 = .ok (.getfield 17, 3) := by decide +kernel
theorem dX5_findSteps_107 : decode cX5_findSteps 107 = .ok (.iload 6, 2) := by decide +kernel
theorem dX5_findSteps_109 : decode cX5_findSteps 109 = .ok (.iaload, 1) := by decide +kernel
theorem dX5_findSteps_110 : decode cX5_findSteps 110 = .ok (.iconst 1, 1) := by decide +kernel
theorem dX5_findSteps_111 : decode cX5_findSteps 111 = .ok (.iadd, 1) := by decide +kernel
theorem dX5_findSteps_112 : decode cX5_findSteps 112 = .ok (.invokestatic 32, 3) := by decide +kernel
theorem dX5_findSteps_115 : decode cX5_findSteps 115 = .ok (.iastore, 1) := by decide +kernel
theorem dX5_findSteps_116 : decode cX5_findSteps 116 = .ok (.iinc 6 1, 3) := by decide +kernel
theorem dX5_findSteps_119 : decode cX5_findSteps 119 = .ok (.goto (-49), 3) := by decide +kernel
theorem dX5_findSteps_122 : decode cX5_findSteps 122 = .ok (.iinc 5 1, 3) := by decide +kernel
theorem dX5_findSteps_125 : decode cX5_findSteps 125 = .ok (.goto (-67), 3) := by decide +kernel
theorem dX5_findSteps_128 : decode cX5_findSteps 128 = .ok (.iinc 4 1, 3) := by decide +kernel
theorem dX5_findSteps_131 : decode cX5_findSteps 131 = .ok (.goto (-85), 3) := by decide +kernel
theorem dX5_findSteps_134 : decode cX5_findSteps 134 = .ok (.return_, 1) := by decide +kernel
theorem dX5_findWrongs_0 : decode cX5_findWrongs 0 = .ok (.iconst 0, 1) := by decide +kernel
theorem dX5_findWrongs_1 : decode cX5_findWrongs 1 = .ok (.istore_n 3, 1) := by decide +kernel
theorem dX5_findWrongs_2 : decode cX5_findWrongs 2 = .ok (.iload_n 3, 1) := by decide +kernel
theorem dX5_findWrongs_3 : decode cX5_findWrongs 3 = .ok (.aload_n 1, 1) := by decide +kernel
theorem dX5_findWrongs_4 : decode cX5_findWrongs 4 = .ok (.getfield 24, 3) := by decide +kernel
theorem dX5_findWrongs_7 : decode cX5_findWrongs 7 = .ok (.if_icmp .ge 16, 3) := by decide +kernel
theorem dX5_findWrongs_10 : decode cX5_findWrongs 10 = .ok (.aload_n 0, 1) := by decide +kernel
theorem dX5_findWrongs_11 : decode cX5_findWrongs 11 = .ok (.getfield 11, 3) := by decide +kernel
theorem dX5_findWrongs_14 : decode cX5_findWrongs 14 = .ok (.iload_n 3, 1) := by decide +kernel
theorem dX5_findWrongs_15 : decode cX5_findWrongs 15 = .ok (.iconst 0, 1) := by decide +kernel
theorem dX5_findWrongs_16 : decode cX5_findWrongs 16 = .ok (.iastore, 1) := by decide +kernel
theorem dX5_findWrongs_17 : decode cX5_findWrongs 17 = .ok (.iinc 3 1, 3) := by decide +kernel
theorem dX5_findWrongs_20 : decode cX5_findWrongs 20 = .ok (.goto (-18), 3) := by decide +kernel
theorem dX5_findWrongs_23 : decode cX5_findWrongs 23 = .ok (.iconst 0, 1) := by decide +kernel
theorem dX5_findWrongs_24 : decode cX5_findWrongs 24 = .ok (.istore_n 3, 1) := by decide +kernel
theorem dX5_findWrongs_25 : decode cX5_findWrongs 25 = .ok (.iload_n 3, 1) := by decide +kernel
theorem dX5_findWrongs_26 : decode cX5_findWrongs 26 = .ok (.aload_n 1, 1) := by decide +kernel
theorem dX5_findWrongs_27 : decode cX5_findWrongs 27 = .ok (.getfield 50, 3) := by decide +kernel
theorem dX5_findWrongs_30 : decode cX5_findWrongs 30 = .ok (.if_icmp .ge 39, 3) := by decide +kernel
theorem dX5_findWrongs_33 : decode cX5_findWrongs 33 = .ok (.aload_n 2, 1) := by decide +kernel
theorem dX5_findWrongs_34 : decode cX5_findWrongs 34 = .ok (.iload_n 3, 1) := by decide +kernel
theorem dX5_findWrongs_35 : decode cX5_findWrongs 35 = .ok (.invokevirtual 53, 3) := by decide +kernel
theorem dX5_findWrongs_38 : decode cX5_findWrongs 38 = .ok (.ifCond .ne 25, 3) := by decide +kernel
theorem dX5_findWrongs_41 : decode cX5_findWrongs 41 = .ok (.aload_n 0, 1) := by decide +kernel
theorem dX5_findWrongs_42 : decode cX5_findWrongs 42 = .ok (.getfield 11, 3) := by decide +kernel
theorem dX5_findWrongs_45 : decode cX5_findWrongs 45 = .ok (.aload_n 1, 1) := by decide +kernel
theorem dX5_findWrongs_46 : decode cX5_findWrongs 46 = .ok (.getfield 59, 3) := by decide +kernel
theorem dX5_findWrongs_49 : decode cX5_findWrongs 49 = .ok (.iload_n 3, 1) := by decide +kernel
theorem dX5_findWrongs_50 : decode cX5_findWrongs 50 = .ok (.iaload, 1) := by decide +kernel
theorem dX5_findWrongs_51 : decode cX5_findWrongs 51 = .ok (.dup2, 1) := by decide +kernel
theorem dX5_findWrongs_52 : decode cX5_findWrongs 52 = .ok (.iaload, 1) := by decide +kernel
theorem dX5_findWrongs_53 : decode cX5_findWrongs 53 = .ok (.iconst 1, 1) := by decide +kernel
theorem dX5_findWrongs_54 : decode cX5_findWrongs 54 = .ok (.aload_n 1, 1) := by decide +kernel
theorem dX5_findWrongs_55 : decode cX5_findWrongs 55 = .ok (.getfield 62, 3) := by decide +kernel
theorem dX5_findWrongs_58 : decode cX5_findWrongs 58 = .ok (.iload_n 3, 1) := by decide +kernel
theorem dX5_findWrongs_59 : decode cX5_findWrongs 59 = .ok (.iaload, 1) := by decide +kernel
theorem dX5_findWrongs_60 : decode cX5_findWrongs 60 = .ok (.ishl, 1) := by decide +kernel
theorem dX5_findWrongs_61 : decode cX5_findWrongs 61 = .ok (.ior, 1) := by decide +kernel
theorem dX5_findWrongs_62 : decode cX5_findWrongs 62 = .ok (.iastore, 1) := by decide +kernel
theorem dX5_findWrongs_63 : decode cX5_findWrongs 63 = .ok (.iinc 3 1, 3) := by decide +kernel
theorem dX5_findWrongs_66 : decode cX5_findWrongs 66 = .ok (.goto (-41), 3) := by decide +kernel
theorem dX5_findWrongs_69 : decode cX5_findWrongs 69 = .ok (.return_, 1) := by decide +kernel
theorem dX6_init_0 : decode cX6_init 0 = .ok (.aload_n 0, 1) := by decide +kernel
theorem dX6_init_1 : decode cX6_init 1 = .ok (.invokespecial 3, 3) := by decide +kernel
theorem dX6_init_4 : decode cX6_init 4 = .ok (.return_, 1) := by decide +kernel
theorem dX6_begin_0 : decode cX6_begin 0 = .ok (.aload_n 0, 1) := by decide +kernel
theorem dX6_begin_1 : decode cX6_begin 1 = .ok (.iload_n 1, 1) := by decide +kernel
theorem dX6_begin_2 : decode cX6_begin 2 = .ok (.putfield 9, 3) := by decide +kernel
theorem dX6_begin_5 : decode cX6_begin 5 = .ok (.return_, 1) := by decide +kernel
theorem dX6_daysAloft_0 : decode cX6_daysAloft 0 = .ok (.iload_n 1, 1) := by decide +kernel
theorem dX6_daysAloft_1 : decode cX6_daysAloft 1 = .ok (.istore_n 3, 1) := by decide +kernel
theorem dX6_daysAloft_2 : decode cX6_daysAloft 2 = .ok (.iconst 0, 1) := by decide +kernel
theorem dX6_daysAloft_3 : decode cX6_daysAloft 3 = .ok (.istore 4, 2) := by decide +kernel
theorem dX6_daysAloft_5 : decode cX6_daysAloft 5 = .ok (.iload 4, 2) := by decide +kernel
theorem dX6_daysAloft_7 : decode cX6_daysAloft 7 = .ok (.bipush 90, 2) := by decide +kernel
theorem dX6_daysAloft_9 : decode cX6_daysAloft 9 = .ok (.if_icmp .gt 37, 3) := by decide +kernel
theorem dX6_daysAloft_12 : decode cX6_daysAloft 12 = .ok (.iload_n 3, 1) := by decide +kernel
theorem dX6_daysAloft_13 : decode cX6_daysAloft 13 = .ok (.ifCond .ne 6, 3) := by decide +kernel
theorem dX6_daysAloft_16 : decode cX6_daysAloft 16 = .ok (.iload 4, 2) := by decide +kernel
theorem dX6_daysAloft_18 : decode cX6_daysAloft 18 = .ok (.ireturn, 1) := by decide +kernel
theorem dX6_daysAloft_19 : decode cX6_daysAloft 19 = .ok (.iload 4, 2) := by decide +kernel
theorem dX6_daysAloft_21 : decode cX6_daysAloft 21 = .ok (.bipush 90, 2) := by decide +kernel
theorem dX6_daysAloft_23 : decode cX6_daysAloft 23 = .ok (.if_icmp .ge 17, 3) := by decide +kernel
theorem dX6_daysAloft_26 : decode cX6_daysAloft 26 = .ok (.aload_n 0, 1) := by decide +kernel
theorem dX6_daysAloft_27 : decode cX6_daysAloft 27 = .ok (.invokevirtual 15, 3) := by decide +kernel
theorem dX6_daysAloft_30 : decode cX6_daysAloft 30 = .ok (.bipush 100, 2) := by decide +kernel
theorem dX6_daysAloft_32 : decode cX6_daysAloft 32 = .ok (.irem, 1) := by decide +kernel
theorem dX6_daysAloft_33 : decode cX6_daysAloft 33 = .ok (.iload_n 2, 1) := by decide +kernel
theorem dX6_daysAloft_34 : decode cX6_daysAloft 34 = .ok (.if_icmp .lt 6, 3) := by decide +kernel
theorem dX6_daysAloft_37 : decode cX6_daysAloft 37 = .ok (.iinc 3 (-1), 3) := by decide +kernel
theorem dX6_daysAloft_40 : decode cX6_daysAloft 40 = .ok (.iinc 4 1, 3) := by decide +kernel
theorem dX6_daysAloft_43 : decode cX6_daysAloft 43 = .ok (.goto (-38), 3) := by decide +kernel
theorem dX6_daysAloft_46 : decode cX6_daysAloft 46 = .ok (.bipush (-2), 2) := by decide +kernel
theorem dX6_daysAloft_48 : decode cX6_daysAloft 48 = .ok (.ireturn, 1) := by decide +kernel
theorem dX6_drawn_0 : decode cX6_drawn 0 = .ok (.aload_n 0, 1) := by decide +kernel
theorem dX6_drawn_1 : decode cX6_drawn 1 = .ok (.bipush 75, 2) := by decide +kernel
theorem dX6_drawn_3 : decode cX6_drawn 3 = .ok (.aload_n 0, 1) := by decide +kernel
theorem dX6_drawn_4 : decode cX6_drawn 4 = .ok (.getfield 9, 3) := by decide +kernel
theorem dX6_drawn_7 : decode cX6_drawn 7 = .ok (.imul, 1) := by decide +kernel
theorem dX6_drawn_8 : decode cX6_drawn 8 = .ok (.bipush 74, 2) := by decide +kernel
theorem dX6_drawn_10 : decode cX6_drawn 10 = .ok (.iadd, 1) := by decide +kernel
theorem dX6_drawn_11 : decode cX6_drawn 11 = .ok (.ldc 19, 2) := by decide +kernel
theorem dX6_drawn_13 : decode cX6_drawn 13 = .ok (.irem, 1) := by decide +kernel
theorem dX6_drawn_14 : decode cX6_drawn 14 = .ok (.putfield 9, 3) := by decide +kernel
theorem dX6_drawn_17 : decode cX6_drawn 17 = .ok (.aload_n 0, 1) := by decide +kernel
theorem dX6_drawn_18 : decode cX6_drawn 18 = .ok (.getfield 9, 3) := by decide +kernel
theorem dX6_drawn_21 : decode cX6_drawn 21 = .ok (.ireturn, 1) := by decide +kernel
theorem dX6_latestBird_0 : decode cX6_latestBird 0 = .ok (.bipush (-2), 2) := by decide +kernel
theorem dX6_latestBird_2 : decode cX6_latestBird 2 = .ok (.istore_n 3, 1) := by decide +kernel
theorem dX6_latestBird_3 : decode cX6_latestBird 3 = .ok (.iconst 0, 1) := by decide +kernel
theorem dX6_latestBird_4 : decode cX6_latestBird 4 = .ok (.istore 4, 2) := by decide +kernel
theorem dX6_latestBird_6 : decode cX6_latestBird 6 = .ok (.iconst 0, 1) := by decide +kernel
theorem dX6_latestBird_7 : decode cX6_latestBird 7 = .ok (.istore 5, 2) := by decide +kernel
theorem dX6_latestBird_9 : decode cX6_latestBird 9 = .ok (.iload 5, 2) := by decide +kernel
theorem dX6_latestBird_11 : decode cX6_latestBird 11 = .ok (.aload_n 1, 1) := by decide +kernel
theorem dX6_latestBird_12 : decode cX6_latestBird 12 = .ok (.getfield 20, 3) := by decide +kernel
theorem dX6_latestBird_15 : decode cX6_latestBird 15 = .ok (.if_icmp .ge 77, 3) := by decide +kernel
theorem dX6_latestBird_18 : decode cX6_latestBird 18 = .ok (.iload_n 2, 1) := by decide +kernel
theorem dX6_latestBird_19 : decode cX6_latestBird 19 = .ok (.iload 5, 2) := by decide +kernel
theorem dX6_latestBird_21 : decode cX6_latestBird 21 = .ok (.ishr, 1) := by decide +kernel
theorem dX6_latestBird_22 : decode cX6_latestBird 22 = .ok (.iconst 1, 1) := by decide +kernel
theorem dX6_latestBird_23 : decode cX6_latestBird 23 = .ok (.iand, 1) := by decide +kernel
theorem dX6_latestBird_24 : decode cX6_latestBird 24 = .ok (.ifCond .ne 6, 3) := by decide +kernel
theorem dX6_latestBird_27 : decode cX6_latestBird 27 = .ok (.goto 59, 3) := by decide +kernel
theorem dX6_latestBird_30 : decode cX6_latestBird 30 = .ok (.aload_n 0, 1) := by decide +kernel
theorem dX6_latestBird_31 : decode cX6_latestBird 31 = .ok (.aload_n 1, 1) := by decide +kernel
theorem dX6_latestBird_32 : decode cX6_latestBird 32 = .ok (.getfield 25, 3) := by decide +kernel
theorem dX6_latestBird_35 : decode cX6_latestBird 35 = .ok (.iload 5, 2) := by decide +kernel
theorem dX6_latestBird_37 : decode cX6_latestBird 37 = .ok (.iaload, 1) := by decide +kernel
theorem dX6_latestBird_38 : decode cX6_latestBird 38 = .ok (.aload_n 1, 1) := by decide +kernel
theorem dX6_latestBird_39 : decode cX6_latestBird 39 = .ok (.getfield 29, 3) := by decide +kernel
theorem dX6_latestBird_42 : decode cX6_latestBird 42 = .ok (.invokevirtual 32, 3) := by decide +kernel
theorem dX6_latestBird_45 : decode cX6_latestBird 45 = .ok (.istore 6, 2) := by decide +kernel
theorem dX6_latestBird_47 : decode cX6_latestBird 47 = .ok (.aload_n 1, 1) := by decide +kernel
theorem dX6_latestBird_48 : decode cX6_latestBird 48 = .ok (.getfield 36, 3) := by decide +kernel
theorem dX6_latestBird_51 : decode cX6_latestBird 51 = .ok (.iload 5, 2) := by decide +kernel
theorem dX6_latestBird_53 : decode cX6_latestBird 53 = .ok (.iaload, 1) := by decide +kernel
theorem dX6_latestBird_54 : decode cX6_latestBird 54 = .ok (.iload 6, 2) := by decide +kernel
theorem dX6_latestBird_56 : decode cX6_latestBird 56 = .ok (.iadd, 1) := by decide +kernel
theorem dX6_latestBird_57 : decode cX6_latestBird 57 = .ok (.istore 7, 2) := by decide +kernel
theorem dX6_latestBird_59 : decode cX6_latestBird 59 = .ok (.iload 6, 2) := by decide +kernel
theorem dX6_latestBird_61 : decode cX6_latestBird 61 = .ok (.bipush (-2), 2) := by decide +kernel
theorem dX6_latestBird_63 : decode cX6_latestBird 63 = .ok (.if_icmp .eq 23, 3) := by decide +kernel
theorem dX6_latestBird_66 : decode cX6_latestBird 66 = .ok (.iload_n 3, 1) := by decide +kernel
theorem dX6_latestBird_67 : decode cX6_latestBird 67 = .ok (.bipush (-2), 2) := by decide +kernel
theorem dX6_latestBird_69 : decode cX6_latestBird 69 = .ok (.if_icmp .eq 10, 3) := by decide +kernel
theorem dX6_latestBird_72 : decode cX6_latestBird 72 = .ok (.iload 7, 2) := by decide +kernel
theorem dX6_latestBird_74 : decode cX6_latestBird 74 = .ok (.iload 4, 2) := by decide +kernel
theorem dX6_latestBird_76 : decode cX6_latestBird 76 = .ok (.if_icmp .le 10, 3) := by decide +kernel
theorem dX6_latestBird_79 : decode cX6_latestBird 79 = .ok (.iload 5, 2) := by decide +kernel
theorem dX6_latestBird_81 : decode cX6_latestBird 81 = .ok (.istore_n 3, 1) := by decide +kernel
theorem dX6_latestBird_82 : decode cX6_latestBird 82 = .ok (.iload 7, 2) := by decide +kernel
theorem dX6_latestBird_84 : decode cX6_latestBird 84 = .ok (.istore 4, 2) := by decide +kernel
theorem dX6_latestBird_86 : decode cX6_latestBird 86 = .ok (.iinc 5 1, 3) := by decide +kernel
theorem dX6_latestBird_89 : decode cX6_latestBird 89 = .ok (.goto (-80), 3) := by decide +kernel
theorem dX6_latestBird_92 : decode cX6_latestBird 92 = .ok (.iload_n 3, 1) := by decide +kernel
theorem dX6_latestBird_93 : decode cX6_latestBird 93 = .ok (.ireturn, 1) := by decide +kernel
theorem dX7_init_0 : decode cX7_init 0 = .ok (.aload_n 0, 1) := by decide +kernel
theorem dX7_init_1 : decode cX7_init 1 = .ok (.invokespecial 3, 3) := by decide +kernel
theorem dX7_init_4 : decode cX7_init 4 = .ok (.aload_n 0, 1) := by decide +kernel
theorem dX7_init_5 : decode cX7_init 5 = .ok (.iconst 3, 1) := by decide +kernel
theorem dX7_init_6 : decode cX7_init 6 = .ok (.newarray .int, 2) := by decide +kernel
theorem dX7_init_8 : decode cX7_init 8 = .ok (.putfield 11, 3) := by decide +kernel
theorem dX7_init_11 : decode cX7_init 11 = .ok (.aload_n 0, 1) := by decide +kernel
theorem dX7_init_12 : decode cX7_init 12 = .ok (.iconst 3, 1) := by decide +kernel
theorem dX7_init_13 : decode cX7_init 13 = .ok (.newarray .int, 2) := by decide +kernel
theorem dX7_init_15 : decode cX7_init 15 = .ok (.putfield 15, 3) := by decide +kernel
theorem dX7_init_18 : decode cX7_init 18 = .ok (.aload_n 0, 1) := by decide +kernel
theorem dX7_init_19 : decode cX7_init 19 = .ok (.iconst 3, 1) := by decide +kernel
theorem dX7_init_20 : decode cX7_init 20 = .ok (.bipush 6, 2) := by decide +kernel
theorem dX7_init_22 : decode cX7_init 22 = .ok (.multianewarray 20 2, 4) := by decide +kernel
theorem dX7_init_26 : decode cX7_init 26 = .ok (.putfield 22, 3) := by decide +kernel
theorem dX7_init_29 : decode cX7_init 29 = .ok (.aload_n 0, 1) := by decide +kernel
theorem dX7_init_30 : decode cX7_init 30 = .ok (.iconst 5, 1) := by decide +kernel
theorem dX7_init_31 : decode cX7_init 31 = .ok (.newarray .int, 2) := by decide +kernel
theorem dX7_init_33 : decode cX7_init 33 = .ok (.putfield 25, 3) := by decide +kernel
theorem dX7_init_36 : decode cX7_init 36 = .ok (.aload_n 0, 1) := by decide +kernel
theorem dX7_init_37 : decode cX7_init 37 = .ok (.iconst 5, 1) := by decide +kernel
theorem dX7_init_38 : decode cX7_init 38 = .ok (.newarray .int, 2) := by decide +kernel
theorem dX7_init_40 : decode cX7_init 40 = .ok (.putfield 28, 3) := by decide +kernel
theorem dX7_init_43 : decode cX7_init 43 = .ok (.aload_n 0, 1) := by decide +kernel
theorem dX7_init_44 : decode cX7_init 44 = .ok (.iconst 5, 1) := by decide +kernel
theorem dX7_init_45 : decode cX7_init 45 = .ok (.newarray .int, 2) := by decide +kernel
theorem dX7_init_47 : decode cX7_init 47 = .ok (.putfield 31, 3) := by decide +kernel
theorem dX7_init_50 : decode cX7_init 50 = .ok (.aload_n 0, 1) := by decide +kernel
theorem dX7_init_51 : decode cX7_init 51 = .ok (.iconst 5, 1) := by decide +kernel
theorem dX7_init_52 : decode cX7_init 52 = .ok (.newarray .int, 2) := by decide +kernel
theorem dX7_init_54 : decode cX7_init 54 = .ok (.putfield 34, 3) := by decide +kernel
theorem dX7_init_57 : decode cX7_init 57 = .ok (.aload_n 0, 1) := by decide +kernel
theorem dX7_init_58 : decode cX7_init 58 = .ok (.bipush 125, 2) := by decide +kernel
theorem dX7_init_60 : decode cX7_init 60 = .ok (.newarray .int, 2) := by decide +kernel
theorem dX7_init_62 : decode cX7_init 62 = .ok (.putfield 37, 3) := by decide +kernel
theorem dX7_init_65 : decode cX7_init 65 = .ok (.aload_n 0, 1) := by decide +kernel
theorem dX7_init_66 : decode cX7_init 66 = .ok (.iconst 4, 1) := by decide +kernel
theorem dX7_init_67 : decode cX7_init 67 = .ok (.newarray .int, 2) := by decide +kernel
theorem dX7_init_69 : decode cX7_init 69 = .ok (.putfield 40, 3) := by decide +kernel
theorem dX7_init_72 : decode cX7_init 72 = .ok (.return_, 1) := by decide +kernel
theorem dX7_clear_0 : decode cX7_clear 0 = .ok (.aload_n 0, 1) := by decide +kernel
theorem dX7_clear_1 : decode cX7_clear 1 = .ok (.iconst 0, 1) := by decide +kernel
theorem dX7_clear_2 : decode cX7_clear 2 = .ok (.putfield 43, 3) := by decide +kernel
theorem dX7_clear_5 : decode cX7_clear 5 = .ok (.aload_n 0, 1) := by decide +kernel
theorem dX7_clear_6 : decode cX7_clear 6 = .ok (.iconst 0, 1) := by decide +kernel
theorem dX7_clear_7 : decode cX7_clear 7 = .ok (.putfield 47, 3) := by decide +kernel
theorem dX7_clear_10 : decode cX7_clear 10 = .ok (.aload_n 0, 1) := by decide +kernel
theorem dX7_clear_11 : decode cX7_clear 11 = .ok (.iconst 0, 1) := by decide +kernel
theorem dX7_clear_12 : decode cX7_clear 12 = .ok (.putfield 50, 3) := by decide +kernel
theorem dX7_clear_15 : decode cX7_clear 15 = .ok (.return_, 1) := by decide +kernel
theorem dX7_wasSeen_0 : decode cX7_wasSeen 0 = .ok (.iconst 0, 1) := by decide +kernel
theorem dX7_wasSeen_1 : decode cX7_wasSeen 1 = .ok (.istore_n 3, 1) := by decide +kernel
theorem dX7_wasSeen_2 : decode cX7_wasSeen 2 = .ok (.iload_n 3, 1) := by decide +kernel
theorem dX7_wasSeen_3 : decode cX7_wasSeen 3 = .ok (.aload_n 0, 1) := by decide +kernel
theorem dX7_wasSeen_4 : decode cX7_wasSeen 4 = .ok (.getfield 47, 3) := by decide +kernel
theorem dX7_wasSeen_7 : decode cX7_wasSeen 7 = .ok (.if_icmp .ge 31, 3) := by decide +kernel
theorem dX7_wasSeen_10 : decode cX7_wasSeen 10 = .ok (.aload_n 0, 1) := by decide +kernel
theorem dX7_wasSeen_11 : decode cX7_wasSeen 11 = .ok (.getfield 25, 3) := by decide +kernel
theorem dX7_wasSeen_14 : decode cX7_wasSeen 14 = .ok (.iload_n 3, 1) := by decide +kernel
theorem dX7_wasSeen_15 : decode cX7_wasSeen 15 = .ok (.iaload, 1) := by decide +kernel
theorem dX7_wasSeen_16 : decode cX7_wasSeen 16 = .ok (.iload_n 1, 1) := by decide +kernel
theorem dX7_wasSeen_17 : decode cX7_wasSeen 17 = .ok (.if_icmp .ne 15, 3) := by decide +kernel
theorem dX7_wasSeen_20 : decode cX7_wasSeen 20 = .ok (.aload_n 0, 1) := by decide +kernel
theorem dX7_wasSeen_21 : decode cX7_wasSeen 21 = .ok (.getfield 28, 3) := by decide +kernel
theorem dX7_wasSeen_24 : decode cX7_wasSeen 24 = .ok (.iload_n 3, 1) := by decide +kernel
theorem dX7_wasSeen_25 : decode cX7_wasSeen 25 = .ok (.iaload, 1) := by decide +kernel
theorem dX7_wasSeen_26 : decode cX7_wasSeen 26 = .ok (.iload_n 2, 1) := by decide +kernel
theorem dX7_wasSeen_27 : decode cX7_wasSeen 27 = .ok (.if_icmp .ne 5, 3) := by decide +kernel
theorem dX7_wasSeen_30 : decode cX7_wasSeen 30 = .ok (.iconst 1, 1) := by decide +kernel
theorem dX7_wasSeen_31 : decode cX7_wasSeen 31 = .ok (.ireturn, 1) := by decide +kernel
theorem dX7_wasSeen_32 : decode cX7_wasSeen 32 = .ok (.iinc 3 1, 3) := by decide +kernel
theorem dX7_wasSeen_35 : decode cX7_wasSeen 35 = .ok (.goto (-33), 3) := by decide +kernel
theorem dX7_wasSeen_38 : decode cX7_wasSeen 38 = .ok (.iconst 0, 1) := by decide +kernel
theorem dX7_wasSeen_39 : decode cX7_wasSeen 39 = .ok (.ireturn, 1) := by decide +kernel
theorem dX7_settle_0 : decode cX7_settle 0 = .ok (.iconst 0, 1) := by decide +kernel
theorem dX7_settle_1 : decode cX7_settle 1 = .ok (.istore_n 2, 1) := by decide +kernel
theorem dX7_settle_2 : decode cX7_settle 2 = .ok (.iload_n 2, 1) := by decide +kernel
theorem dX7_settle_3 : decode cX7_settle 3 = .ok (.aload_n 0, 1) := by decide +kernel
theorem dX7_settle_4 : decode cX7_settle 4 = .ok (.getfield 43, 3) := by decide +kernel
theorem dX7_settle_7 : decode cX7_settle 7 = .ok (.if_icmp .ge 51, 3) := by decide +kernel
theorem dX7_settle_10 : decode cX7_settle 10 = .ok (.iconst 0, 1) := by decide +kernel
theorem dX7_settle_11 : decode cX7_settle 11 = .ok (.istore_n 3, 1) := by decide +kernel
theorem dX7_settle_12 : decode cX7_settle 12 = .ok (.iload_n 3, 1) := by decide +kernel
theorem dX7_settle_13 : decode cX7_settle 13 = .ok (.aload_n 1, 1) := by decide +kernel
theorem dX7_settle_14 : decode cX7_settle 14 = .ok (.getfield 53, 3) := by decide +kernel
theorem dX7_settle_17 : decode cX7_settle 17 = .ok (.if_icmp .ge 35, 3) := by decide +kernel
theorem dX7_settle_20 : decode cX7_settle 20 = .ok (.aload_n 0, 1) := by decide +kernel
theorem dX7_settle_21 : decode cX7_settle 21 = .ok (.getfield 22, 3) := by decide +kernel
theorem dX7_settle_24 : decode cX7_settle 24 = .ok (.iload_n 2, 1) := by decide +kernel
theorem dX7_settle_25 : decode cX7_settle 25 = .ok (.aaload, 1) := by decide +kernel
theorem dX7_settle_26 : decode cX7_settle 26 = .ok (.iload_n 3, 1) := by decide +kernel
theorem dX7_settle_27 : decode cX7_settle 27 = .ok (.aload_n 0, 1) := by decide +kernel
theorem dX7_settle_28 : decode cX7_settle 28 = .ok (.getfield 15, 3) := by decide +kernel
theorem dX7_settle_31 : decode cX7_settle 31 = .ok (.iload_n 2, 1) := by decide +kernel
theorem dX7_settle_32 : decode cX7_settle 32 = .ok (.iaload, 1) := by decide +kernel
theorem dX7_settle_33 : decode cX7_settle 33 = .ok (.aload_n 1, 1) := by decide +kernel
theorem dX7_settle_34 : decode cX7_settle 34 = .ok (.aload_n 0, 1) := by decide +kernel
theorem dX7_settle_35 : decode cX7_settle 35 = .ok (.getfield 11, 3) := by decide +kernel
theorem dX7_settle_38 : decode cX7_settle 38 = .ok (.iload_n 2, 1) := by decide +kernel
theorem dX7_settle_39 : decode cX7_settle 39 = .ok (.iaload, 1) := by decide +kernel
theorem dX7_settle_40 : decode cX7_settle 40 = .ok (.iload_n 3, 1) := by decide +kernel
theorem dX7_settle_41 : decode cX7_settle 41 = .ok (.invokevirtual 56, 3) := by decide +kernel
theorem dX7_settle_44 : decode cX7_settle 44 = .ok (.iadd, 1) := by decide +kernel
theorem dX7_settle_45 : decode cX7_settle 45 = .ok (.iastore, 1) := by decide +kernel
theorem dX7_settle_46 : decode cX7_settle 46 = .ok (.iinc 3 1, 3) := by decide +kernel
theorem dX7_settle_49 : decode cX7_settle 49 = .ok (.goto (-37), 3) := by decide +kernel
theorem dX7_settle_52 : decode cX7_settle 52 = .ok (.iinc 2 1, 3) := by decide +kernel
theorem dX7_settle_55 : decode cX7_settle 55 = .ok (.goto (-53), 3) := by decide +kernel
theorem dX7_settle_58 : decode cX7_settle 58 = .ok (.iconst 0, 1) := by decide +kernel
theorem dX7_settle_59 : decode cX7_settle 59 = .ok (.istore_n 2, 1) := by decide +kernel
theorem dX7_settle_60 : decode cX7_settle 60 = .ok (.iload_n 2, 1) := by decide +kernel
theorem dX7_settle_61 : decode cX7_settle 61 = .ok (.aload_n 0, 1) := by decide +kernel
theorem dX7_settle_62 : decode cX7_settle 62 = .ok (.getfield 47, 3) := by decide +kernel
theorem dX7_settle_65 : decode cX7_settle 65 = .ok (.if_icmp .ge 31, 3) := by decide +kernel
theorem dX7_settle_68 : decode cX7_settle 68 = .ok (.aload_n 0, 1) := by decide +kernel
theorem dX7_settle_69 : decode cX7_settle 69 = .ok (.getfield 34, 3) := by decide +kernel
theorem dX7_settle_72 : decode cX7_settle 72 = .ok (.iload_n 2, 1) := by decide +kernel
theorem dX7_settle_73 : decode cX7_settle 73 = .ok (.aload_n 1, 1) := by decide +kernel
theorem dX7_settle_74 : decode cX7_settle 74 = .ok (.aload_n 0, 1) := by decide +kernel
theorem dX7_settle_75 : decode cX7_settle 75 = .ok (.getfield 25, 3) := by decide +kernel
theorem dX7_settle_78 : decode cX7_settle 78 = .ok (.iload_n 2, 1) := by decide +kernel
theorem dX7_settle_79 : decode cX7_settle 79 = .ok (.iaload, 1) := by decide +kernel
theorem dX7_settle_80 : decode cX7_settle 80 = .ok (.aload_n 0, 1) := by decide +kernel
theorem dX7_settle_81 : decode cX7_settle 81 = .ok (.getfield 28, 3) := by decide +kernel
theorem dX7_settle_84 : decode cX7_settle 84 = .ok (.iload_n 2, 1) := by decide +kernel
theorem dX7_settle_85 : decode cX7_settle 85 = .ok (.iaload, 1) := by decide +kernel
theorem dX7_settle_86 : decode cX7_settle 86 = .ok (.invokevirtual 60, 3) := by decide +kernel
theorem dX7_settle_89 : decode cX7_settle 89 = .ok (.iastore, 1) := by decide +kernel
theorem dX7_settle_90 : decode cX7_settle 90 = .ok (.iinc 2 1, 3) := by decide +kernel
theorem dX7_settle_93 : decode cX7_settle 93 = .ok (.goto (-33), 3) := by decide +kernel
theorem dX7_settle_96 : decode cX7_settle 96 = .ok (.aload_n 0, 1) := by decide +kernel
theorem dX7_settle_97 : decode cX7_settle 97 = .ok (.iconst 0, 1) := by decide +kernel
theorem dX7_settle_98 : decode cX7_settle 98 = .ok (.putfield 50, 3) := by decide +kernel
theorem dX7_settle_101 : decode cX7_settle 101 = .ok (.iconst 1, 1) := by decide +kernel
theorem dX7_settle_102 : decode cX7_settle 102 = .ok (.iconst 3, 1) := by decide +kernel
theorem dX7_settle_103 : decode cX7_settle 103 = .ok (.aload_n 0, 1) := by decide +kernel
theorem dX7_settle_104 : decode cX7_settle 104 = .ok (.getfield 43, 3) := by decide +kernel
theorem dX7_settle_107 : decode cX7_settle 107 = .ok (.imul, 1) := by decide +kernel
theorem dX7_settle_108 : decode cX7_settle 108 = .ok (.ishl, 1) := by decide +kernel
theorem dX7_settle_109 : decode cX7_settle 109 = .ok (.istore_n 2, 1) := by decide +kernel
theorem dX7_settle_110 : decode cX7_settle 110 = .ok (.iconst 0, 1) := by decide +kernel
theorem dX7_settle_111 : decode cX7_settle 111 = .ok (.istore_n 3, 1) := by decide +kernel
theorem dX7_settle_112 : decode cX7_settle 112 = .ok (.iload_n 3, 1) := by decide +kernel
theorem dX7_settle_113 : decode cX7_settle 113 = .ok (.iload_n 2, 1) := by decide +kernel
theorem dX7_settle_114 : decode cX7_settle 114 = .ok (.if_icmp .ge 58, 3) := by decide +kernel
theorem dX7_settle_117 : decode cX7_settle 117 = .ok (.aload_n 0, 1) := by decide +kernel
theorem dX7_settle_118 : decode cX7_settle 118 = .ok (.iload_n 3, 1) := by decide +kernel
theorem dX7_settle_119 : decode cX7_settle 119 = .ok (.aload_n 1, 1) := by decide +kernel
theorem dX7_settle_120 : decode cX7_settle 120 = .ok (.getfield 53, 3) := by decide +kernel
theorem dX7_settle_123 : decode cX7_settle 123 = .ok (.invokevirtual 63, 3) := by decide +kernel
theorem dX7_settle_126 : decode cX7_settle 126 = .ok (.ifCond .eq 40, 3) := by decide +kernel
theorem dX7_settle_129 : decode cX7_settle 129 = .ok (.aload_n 0, 1) := by decide +kernel
theorem dX7_settle_130 : decode cX7_settle 130 = .ok (.iload_n 3, 1) := by decide +kernel
theorem dX7_settle_131 : decode cX7_settle 131 = .ok (.invokevirtual 67, 3) := by decide +kernel
theorem dX7_settle_134 : decode cX7_settle 134 = .ok (.ifCond .eq 32, 3) := by decide +kernel
theorem dX7_settle_137 : decode cX7_settle 137 = .ok (.aload_n 0, 1) := by decide +kernel
theorem dX7_settle_138 : decode cX7_settle 138 = .ok (.getfield 50, 3) := by decide +kernel
theorem dX7_settle_141 : decode cX7_settle 141 = .ok (.bipush 125, 2) := by decide +kernel
theorem dX7_settle_143 : decode cX7_settle 143 = .ok (.if_icmp .ge 23, 3) := by decide +kernel
theorem dX7_settle_146 : decode cX7_settle 146 = .ok (.aload_n 0, 1) := by decide +kernel
theorem dX7_settle_147 : decode cX7_settle 147 = .ok (.getfield 37, 3) := by decide +kernel
theorem dX7_settle_150 : decode cX7_settle 150 = .ok (.aload_n 0, 1) := by decide +kernel
theorem dX7_settle_151 : decode cX7_settle 151 = .ok (.getfield 50, 3) := by decide +kernel
theorem dX7_settle_154 : decode cX7_settle 154 = .ok (.iload_n 3, 1) := by decide +kernel
theorem dX7_settle_155 : decode cX7_settle 155 = .ok (.iastore, 1) := by decide +kernel
theorem dX7_settle_156 : decode cX7_settle 156 = .ok (.aload_n 0, 1) := by decide +kernel
theorem dX7_settle_157 : decode cX7_settle 157 = .ok (.dup, 1) := by decide +kernel
theorem dX7_settle_158 : decode cX7_settle 158 = .ok (.getfield 50, 3) := by decide +kernel
theorem dX7_settle_161 : decode cX7_settle 161 = .ok (.iconst 1, 1) := by decide +kernel
theorem dX7_settle_162 : decode cX7_settle 162 = .ok (.iadd, 1) := by decide +kernel
theorem dX7_settle_163 : decode cX7_settle 163 = .ok (.putfield 50, 3) := by decide +kernel
theorem dX7_settle_166 : decode cX7_settle 166 = .ok (.iinc 3 1, 3) := by decide +kernel
theorem dX7_settle_169 : decode cX7_settle 169 = .ok (.goto (-57), 3) := by decide +kernel
theorem dX7_settle_172 : decode cX7_settle 172 = .ok (.return_, 1) := by decide +kernel
theorem dX7_guess_0 : decode cX7_guess 0 = .ok (.iload_n 1, 1) := by decide +kernel
theorem dX7_guess_1 : decode cX7_guess 1 = .ok (.iconst 3, 1) := by decide +kernel
theorem dX7_guess_2 : decode cX7_guess 2 = .ok (.aload_n 0, 1) := by decide +kernel
theorem dX7_guess_3 : decode cX7_guess 3 = .ok (.getfield 43, 3) := by decide +kernel
theorem dX7_guess_6 : decode cX7_guess 6 = .ok (.iconst 1, 1) := by decide +kernel
theorem dX7_guess_7 : decode cX7_guess 7 = .ok (.isub, 1) := by decide +kernel
theorem dX7_guess_8 : decode cX7_guess 8 = .ok (.iload_n 2, 1) := by decide +kernel
theorem dX7_guess_9 : decode cX7_guess 9 = .ok (.isub, 1) := by decide +kernel
theorem dX7_guess_10 : decode cX7_guess 10 = .ok (.imul, 1) := by decide +kernel
theorem dX7_guess_11 : decode cX7_guess 11 = .ok (.ishr, 1) := by decide +kernel
theorem dX7_guess_12 : decode cX7_guess 12 = .ok (.bipush 7, 2) := by decide +kernel
theorem dX7_guess_14 : decode cX7_guess 14 = .ok (.iand, 1) := by decide +kernel
theorem dX7_guess_15 : decode cX7_guess 15 = .ok (.ireturn, 1) := by decide +kernel
theorem dX7_isRow_0 : decode cX7_isRow 0 = .ok (.iconst 0, 1) := by decide +kernel
theorem dX7_isRow_1 : decode cX7_isRow 1 = .ok (.istore_n 3, 1) := by decide +kernel
theorem dX7_isRow_2 : decode cX7_isRow 2 = .ok (.iload_n 3, 1) := by decide +kernel
theorem dX7_isRow_3 : decode cX7_isRow 3 = .ok (.aload_n 0, 1) := by decide +kernel
theorem dX7_isRow_4 : decode cX7_isRow 4 = .ok (.getfield 43, 3) := by decide +kernel
theorem dX7_isRow_7 : decode cX7_isRow 7 = .ok (.if_icmp .ge 36, 3) := by decide +kernel
theorem dX7_isRow_10 : decode cX7_isRow 10 = .ok (.aload_n 0, 1) := by decide +kernel
theorem dX7_isRow_11 : decode cX7_isRow 11 = .ok (.iload_n 1, 1) := by decide +kernel
theorem dX7_isRow_12 : decode cX7_isRow 12 = .ok (.iload_n 3, 1) := by decide +kernel
theorem dX7_isRow_13 : decode cX7_isRow 13 = .ok (.invokevirtual 71, 3) := by decide +kernel
theorem dX7_isRow_16 : decode cX7_isRow 16 = .ok (.istore 4, 2) := by decide +kernel
theorem dX7_isRow_18 : decode cX7_isRow 18 = .ok (.iload 4, 2) := by decide +kernel
theorem dX7_isRow_20 : decode cX7_isRow 20 = .ok (.iload_n 2, 1) := by decide +kernel
theorem dX7_isRow_21 : decode cX7_isRow 21 = .ok (.if_icmp .ge 14, 3) := by decide +kernel
theorem dX7_isRow_24 : decode cX7_isRow 24 = .ok (.iload 4, 2) := by decide +kernel
theorem dX7_isRow_26 : decode cX7_isRow 26 = .ok (.aload_n 0, 1) := by decide +kernel
theorem dX7_isRow_27 : decode cX7_isRow 27 = .ok (.getfield 11, 3) := by decide +kernel
theorem dX7_isRow_30 : decode cX7_isRow 30 = .ok (.iload_n 3, 1) := by decide +kernel
theorem dX7_isRow_31 : decode cX7_isRow 31 = .ok (.iaload, 1) := by decide +kernel
theorem dX7_isRow_32 : decode cX7_isRow 32 = .ok (.if_icmp .ne 5, 3) := by decide +kernel
theorem dX7_isRow_35 : decode cX7_isRow 35 = .ok (.iconst 0, 1) := by decide +kernel
theorem dX7_isRow_36 : decode cX7_isRow 36 = .ok (.ireturn, 1) := by decide +kernel
theorem dX7_isRow_37 : decode cX7_isRow 37 = .ok (.iinc 3 1, 3) := by decide +kernel
theorem dX7_isRow_40 : decode cX7_isRow 40 = .ok (.goto (-38), 3) := by decide +kernel
theorem dX7_isRow_43 : decode cX7_isRow 43 = .ok (.iconst 1, 1) := by decide +kernel
theorem dX7_isRow_44 : decode cX7_isRow 44 = .ok (.ireturn, 1) := by decide +kernel
theorem dX7_fitsSeen_0 : decode cX7_fitsSeen 0 = .ok (.iconst 0, 1) := by decide +kernel
theorem dX7_fitsSeen_1 : decode cX7_fitsSeen 1 = .ok (.istore_n 2, 1) := by decide +kernel
theorem dX7_fitsSeen_2 : decode cX7_fitsSeen 2 = .ok (.iload_n 2, 1) := by decide +kernel
theorem dX7_fitsSeen_3 : decode cX7_fitsSeen 3 = .ok (.aload_n 0, 1) := by decide +kernel
theorem dX7_fitsSeen_4 : decode cX7_fitsSeen 4 = .ok (.getfield 47, 3) := by decide +kernel
theorem dX7_fitsSeen_7 : decode cX7_fitsSeen 7 = .ok (.if_icmp .ge 46, 3) := by decide +kernel
theorem dX7_fitsSeen_10 : decode cX7_fitsSeen 10 = .ok (.aload_n 0, 1) := by decide +kernel
theorem dX7_fitsSeen_11 : decode cX7_fitsSeen 11 = .ok (.iload_n 1, 1) := by decide +kernel
theorem dX7_fitsSeen_12 : decode cX7_fitsSeen 12 = .ok (.aload_n 0, 1) := by decide +kernel
theorem dX7_fitsSeen_13 : decode cX7_fitsSeen 13 = .ok (.getfield 25, 3) := by decide +kernel
theorem dX7_fitsSeen_16 : decode cX7_fitsSeen 16 = .ok (.iload_n 2, 1) := by decide +kernel
theorem dX7_fitsSeen_17 : decode cX7_fitsSeen 17 = .ok (.iaload, 1) := by decide +kernel
theorem dX7_fitsSeen_18 : decode cX7_fitsSeen 18 = .ok (.aload_n 0, 1) := by decide +kernel
theorem dX7_fitsSeen_19 : decode cX7_fitsSeen 19 = .ok (.getfield 28, 3) := by decide +kernel
theorem dX7_fitsSeen_22 : decode cX7_fitsSeen 22 = .ok (.iload_n 2, 1) := by decide +kernel
theorem dX7_fitsSeen_23 : decode cX7_fitsSeen 23 = .ok (.iaload, 1) := by decide +kernel
theorem dX7_fitsSeen_24 : decode cX7_fitsSeen 24 = .ok (.invokevirtual 74, 3) := by decide +kernel
theorem dX7_fitsSeen_27 : decode cX7_fitsSeen 27 = .ok (.istore_n 3, 1) := by decide +kernel
theorem dX7_fitsSeen_28 : decode cX7_fitsSeen 28 = .ok (.aload_n 0, 1) := by decide +kernel
theorem dX7_fitsSeen_29 : decode cX7_fitsSeen 29 = .ok (.getfield 34, 3) := by decide +kernel
theorem dX7_fitsSeen_32 : decode cX7_fitsSeen 32 = .ok (.iload_n 2, 1) := by decide +kernel
theorem dX7_fitsSeen_33 : decode cX7_fitsSeen 33 = .ok (.iaload, 1) := by decide +kernel
theorem dX7_fitsSeen_34 : decode cX7_fitsSeen 34 = .ok (.iload_n 3, 1) := by decide +kernel
theorem dX7_fitsSeen_35 : decode cX7_fitsSeen 35 = .ok (.iadd, 1) := by decide +kernel
theorem dX7_fitsSeen_36 : decode cX7_fitsSeen 36 = .ok (.aload_n 0, 1) := by decide +kernel
theorem dX7_fitsSeen_37 : decode cX7_fitsSeen 37 = .ok (.getfield 31, 3) := by decide +kernel
theorem dX7_fitsSeen_40 : decode cX7_fitsSeen 40 = .ok (.iload_n 2, 1) := by decide +kernel
theorem dX7_fitsSeen_41 : decode cX7_fitsSeen 41 = .ok (.iaload, 1) := by decide +kernel
theorem dX7_fitsSeen_42 : decode cX7_fitsSeen 42 = .ok (.if_icmp .eq 5, 3) := by decide +kernel
theorem dX7_fitsSeen_45 : decode cX7_fitsSeen 45 = .ok (.iconst 0, 1) := by decide +kernel
theorem dX7_fitsSeen_46 : decode cX7_fitsSeen 46 = .ok (.ireturn, 1) := by decide +kernel
theorem dX7_fitsSeen_47 : decode cX7_fitsSeen 47 = .ok (.iinc 2 1, 3) := by decide +kernel
theorem dX7_fitsSeen_50 : decode cX7_fitsSeen 50 = .ok (.goto (-48), 3) := by decide +kernel
theorem dX7_fitsSeen_53 : decode cX7_fitsSeen 53 = .ok (.iconst 1, 1) := by decide +kernel
theorem dX7_fitsSeen_54 : decode cX7_fitsSeen 54 = .ok (.ireturn, 1) := by decide +kernel
theorem dX7_sitting_0 : decode cX7_sitting 0 = .ok (.iconst 0, 1) := by decide +kernel
theorem dX7_sitting_1 : decode cX7_sitting 1 = .ok (.istore 4, 2) := by decide +kernel
theorem dX7_sitting_3 : decode cX7_sitting 3 = .ok (.iconst 0, 1) := by decide +kernel
theorem dX7_sitting_4 : decode cX7_sitting 4 = .ok (.istore 5, 2) := by decide +kernel
theorem dX7_sitting_6 : decode cX7_sitting 6 = .ok (.iload 5, 2) := by decide +kernel
theorem dX7_sitting_8 : decode cX7_sitting 8 = .ok (.aload_n 0, 1) := by decide +kernel
theorem dX7_sitting_9 : decode cX7_sitting 9 = .ok (.getfield 43, 3) := by decide +kernel
theorem dX7_sitting_12 : decode cX7_sitting 12 = .ok (.if_icmp .ge 36, 3) := by decide +kernel
theorem dX7_sitting_15 : decode cX7_sitting 15 = .ok (.aload_n 0, 1) := by decide +kernel
theorem dX7_sitting_16 : decode cX7_sitting 16 = .ok (.iload_n 1, 1) := by decide +kernel
theorem dX7_sitting_17 : decode cX7_sitting 17 = .ok (.iload 5, 2) := by decide +kernel
theorem dX7_sitting_19 : decode cX7_sitting 19 = .ok (.invokevirtual 71, 3) := by decide +kernel
theorem dX7_sitting_22 : decode cX7_sitting 22 = .ok (.iload_n 2, 1) := by decide +kernel
theorem dX7_sitting_23 : decode cX7_sitting 23 = .ok (.if_icmp .ne 19, 3) := by decide +kernel
theorem dX7_sitting_26 : decode cX7_sitting 26 = .ok (.aload_n 0, 1) := by decide +kernel
theorem dX7_sitting_27 : decode cX7_sitting 27 = .ok (.getfield 22, 3) := by decide +kernel
theorem dX7_sitting_30 : decode cX7_sitting 30 = .ok (.iload 5, 2) := by decide +kernel
theorem dX7_sitting_32 : decode cX7_sitting 32 = .ok (.aaload, 1) := by decide +kernel
theorem dX7_sitting_33 : decode cX7_sitting 33 = .ok (.iload_n 2, 1) := by decide +kernel
theorem dX7_sitting_34 : decode cX7_sitting 34 = .ok (.iaload, 1) := by decide +kernel
theorem dX7_sitting_35 : decode cX7_sitting 35 = .ok (.iload_n 3, 1) := by decide +kernel
theorem dX7_sitting_36 : decode cX7_sitting 36 = .ok (.if_icmp .gt 6, 3) := by decide +kernel
theorem dX7_sitting_39 : decode cX7_sitting 39 = .ok (.iinc 4 1, 3) := by decide +kernel
theorem dX7_sitting_42 : decode cX7_sitting 42 = .ok (.iinc 5 1, 3) := by decide +kernel
theorem dX7_sitting_45 : decode cX7_sitting 45 = .ok (.goto (-39), 3) := by decide +kernel
theorem dX7_sitting_48 : decode cX7_sitting 48 = .ok (.iload 4, 2) := by decide +kernel
theorem dX7_sitting_50 : decode cX7_sitting 50 = .ok (.ireturn, 1) := by decide +kernel
theorem dX7_guesses_0 : decode cX7_guesses 0 = .ok (.iconst 0, 1) := by decide +kernel
theorem dX7_guesses_1 : decode cX7_guesses 1 = .ok (.istore_n 2, 1) := by decide +kernel
theorem dX7_guesses_2 : decode cX7_guesses 2 = .ok (.iconst 0, 1) := by decide +kernel
theorem dX7_guesses_3 : decode cX7_guesses 3 = .ok (.istore_n 3, 1) := by decide +kernel
theorem dX7_guesses_4 : decode cX7_guesses 4 = .ok (.iload_n 3, 1) := by decide +kernel
theorem dX7_guesses_5 : decode cX7_guesses 5 = .ok (.aload_n 0, 1) := by decide +kernel
theorem dX7_guesses_6 : decode cX7_guesses 6 = .ok (.getfield 50, 3) := by decide +kernel
theorem dX7_guesses_9 : decode cX7_guesses 9 = .ok (.if_icmp .ge 25, 3) := by decide +kernel
theorem dX7_guesses_12 : decode cX7_guesses 12 = .ok (.iload_n 2, 1) := by decide +kernel
theorem dX7_guesses_13 : decode cX7_guesses 13 = .ok (.iconst 1, 1) := by decide +kernel
theorem dX7_guesses_14 : decode cX7_guesses 14 = .ok (.aload_n 0, 1) := by decide +kernel
theorem dX7_guesses_15 : decode cX7_guesses 15 = .ok (.aload_n 0, 1) := by decide +kernel
theorem dX7_guesses_16 : decode cX7_guesses 16 = .ok (.getfield 37, 3) := by decide +kernel
theorem dX7_guesses_19 : decode cX7_guesses 19 = .ok (.iload_n 3, 1) := by decide +kernel
theorem dX7_guesses_20 : decode cX7_guesses 20 = .ok (.iaload, 1) := by decide +kernel
theorem dX7_guesses_21 : decode cX7_guesses 21 = .ok (.iload_n 1, 1) := by decide +kernel
theorem dX7_guesses_22 : decode cX7_guesses 22 = .ok (.invokevirtual 71, 3) := by decide +kernel
theorem dX7_guesses_25 : decode cX7_guesses 25 = .ok (.ishl, 1) := by decide +kernel
theorem dX7_guesses_26 : decode cX7_guesses 26 = .ok (.ior, 1) := by decide +kernel
theorem dX7_guesses_27 : decode cX7_guesses 27 = .ok (.istore_n 2, 1) := by decide +kernel
theorem dX7_guesses_28 : decode cX7_guesses 28 = .ok (.iinc 3 1, 3) := by decide +kernel
theorem dX7_guesses_31 : decode cX7_guesses 31 = .ok (.goto (-27), 3) := by decide +kernel
theorem dX7_guesses_34 : decode cX7_guesses 34 = .ok (.iload_n 2, 1) := by decide +kernel
theorem dX7_guesses_35 : decode cX7_guesses 35 = .ok (.ireturn, 1) := by decide +kernel
theorem dX7_onlyGuess_0 : decode cX7_onlyGuess 0 = .ok (.aload_n 0, 1) := by decide +kernel
theorem dX7_onlyGuess_1 : decode cX7_onlyGuess 1 = .ok (.getfield 50, 3) := by decide +kernel
theorem dX7_onlyGuess_4 : decode cX7_onlyGuess 4 = .ok (.ifCond .eq 15, 3) := by decide +kernel
theorem dX7_onlyGuess_7 : decode cX7_onlyGuess 7 = .ok (.aload_n 0, 1) := by decide +kernel
theorem dX7_onlyGuess_8 : decode cX7_onlyGuess 8 = .ok (.iload_n 1, 1) := by decide +kernel
theorem dX7_onlyGuess_9 : decode cX7_onlyGuess 9 = .ok (.invokevirtual 78, 3) := by decide +kernel
theorem dX7_onlyGuess_12 : decode cX7_onlyGuess 12 = .ok (.invokestatic 82, 3) := by decide +kernel
theorem dX7_onlyGuess_15 : decode cX7_onlyGuess 15 = .ok (.iconst 1, 1) := by decide +kernel
theorem dX7_onlyGuess_16 : decode cX7_onlyGuess 16 = .ok (.if_icmp .eq 6, 3) := by decide +kernel
theorem dX7_onlyGuess_19 : decode cX7_onlyGuess 19 = .ok (.bipush (-2), 2) := by decide +kernel
theorem dX7_onlyGuess_21 : decode cX7_onlyGuess 21 = .ok (.ireturn, 1) := by decide +kernel
theorem dX7_onlyGuess_22 : decode cX7_onlyGuess 22 = .ok (.aload_n 0, 1) := by decide +kernel
theorem dX7_onlyGuess_23 : decode cX7_onlyGuess 23 = .ok (.aload_n 0, 1) := by decide +kernel
theorem dX7_onlyGuess_24 : decode cX7_onlyGuess 24 = .ok (.getfield 37, 3) := by decide +kernel
theorem dX7_onlyGuess_27 : decode cX7_onlyGuess 27 = .ok (.iconst 0, 1) := by decide +kernel
theorem dX7_onlyGuess_28 : decode cX7_onlyGuess 28 = .ok (.iaload, 1) := by decide +kernel
theorem dX7_onlyGuess_29 : decode cX7_onlyGuess 29 = .ok (.iload_n 1, 1) := by decide +kernel
theorem dX7_onlyGuess_30 : decode cX7_onlyGuess 30 = .ok (.invokevirtual 71, 3) := by decide +kernel
theorem dX7_onlyGuess_33 : decode cX7_onlyGuess 33 = .ok (.ireturn, 1) := by decide +kernel
theorem dX7_bestSpot_0 : decode cX7_bestSpot 0 = .ok (.bipush (-2), 2) := by decide +kernel
theorem dX7_bestSpot_2 : decode cX7_bestSpot 2 = .ok (.istore_n 2, 1) := by decide +kernel
theorem dX7_bestSpot_3 : decode cX7_bestSpot 3 = .ok (.aload_n 0, 1) := by decide +kernel
theorem dX7_bestSpot_4 : decode cX7_bestSpot 4 = .ok (.getfield 50, 3) := by decide +kernel
theorem dX7_bestSpot_7 : decode cX7_bestSpot 7 = .ok (.istore_n 3, 1) := by decide +kernel
theorem dX7_bestSpot_8 : decode cX7_bestSpot 8 = .ok (.iconst 0, 1) := by decide +kernel
theorem dX7_bestSpot_9 : decode cX7_bestSpot 9 = .ok (.istore 4, 2) := by decide +kernel
theorem dX7_bestSpot_11 : decode cX7_bestSpot 11 = .ok (.iload 4, 2) := by decide +kernel
theorem dX7_bestSpot_13 : decode cX7_bestSpot 13 = .ok (.aload_n 1, 1) := by decide +kernel
theorem dX7_bestSpot_14 : decode cX7_bestSpot 14 = .ok (.getfield 53, 3) := by decide +kernel
theorem dX7_bestSpot_17 : decode cX7_bestSpot 17 = .ok (.if_icmp .ge 85, 3) := by decide +kernel
theorem dX7_bestSpot_20 : decode cX7_bestSpot 20 = .ok (.aload_n 0, 1) := by decide +kernel
theorem dX7_bestSpot_21 : decode cX7_bestSpot 21 = .ok (.getfield 50, 3) := by decide +kernel
theorem dX7_bestSpot_24 : decode cX7_bestSpot 24 = .ok (.ifCond .le 78, 3) := by decide +kernel
theorem dX7_bestSpot_27 : decode cX7_bestSpot 27 = .ok (.iconst 0, 1) := by decide +kernel
theorem dX7_bestSpot_28 : decode cX7_bestSpot 28 = .ok (.istore 5, 2) := by decide +kernel
theorem dX7_bestSpot_30 : decode cX7_bestSpot 30 = .ok (.iload 5, 2) := by decide +kernel
theorem dX7_bestSpot_32 : decode cX7_bestSpot 32 = .ok (.bipush 40, 2) := by decide +kernel
theorem dX7_bestSpot_34 : decode cX7_bestSpot 34 = .ok (.if_icmp .gt 62, 3) := by decide +kernel
theorem dX7_bestSpot_37 : decode cX7_bestSpot 37 = .ok (.iload 5, 2) := by decide +kernel
theorem dX7_bestSpot_39 : decode cX7_bestSpot 39 = .ok (.ifCond .le 17, 3) := by decide +kernel
theorem dX7_bestSpot_42 : decode cX7_bestSpot 42 = .ok (.aload_n 0, 1) := by decide +kernel
theorem dX7_bestSpot_43 : decode cX7_bestSpot 43 = .ok (.iload 4, 2) := by decide +kernel
theorem dX7_bestSpot_45 : decode cX7_bestSpot 45 = .ok (.iload 5, 2) := by decide +kernel
theorem dX7_bestSpot_47 : decode cX7_bestSpot 47 = .ok (.invokevirtual 87, 3) := by decide +kernel
theorem dX7_bestSpot_50 : decode cX7_bestSpot 50 = .ok (.ifCond .ne 6, 3) := by decide +kernel
theorem dX7_bestSpot_53 : decode cX7_bestSpot 53 = .ok (.goto 37, 3) := by decide +kernel
theorem dX7_bestSpot_56 : decode cX7_bestSpot 56 = .ok (.aload_n 0, 1) := by decide +kernel
theorem dX7_bestSpot_57 : decode cX7_bestSpot 57 = .ok (.iload 4, 2) := by decide +kernel
theorem dX7_bestSpot_59 : decode cX7_bestSpot 59 = .ok (.iload 5, 2) := by decide +kernel
theorem dX7_bestSpot_61 : decode cX7_bestSpot 61 = .ok (.invokevirtual 90, 3) := by decide +kernel
theorem dX7_bestSpot_64 : decode cX7_bestSpot 64 = .ok (.istore 6, 2) := by decide +kernel
theorem dX7_bestSpot_66 : decode cX7_bestSpot 66 = .ok (.iload_n 2, 1) := by decide +kernel
theorem dX7_bestSpot_67 : decode cX7_bestSpot 67 = .ok (.bipush (-2), 2) := by decide +kernel
theorem dX7_bestSpot_69 : decode cX7_bestSpot 69 = .ok (.if_icmp .eq 9, 3) := by decide +kernel
theorem dX7_bestSpot_72 : decode cX7_bestSpot 72 = .ok (.iload 6, 2) := by decide +kernel
theorem dX7_bestSpot_74 : decode cX7_bestSpot 74 = .ok (.iload_n 3, 1) := by decide +kernel
theorem dX7_bestSpot_75 : decode cX7_bestSpot 75 = .ok (.if_icmp .ge 15, 3) := by decide +kernel
theorem dX7_bestSpot_78 : decode cX7_bestSpot 78 = .ok (.bipush 100, 2) := by decide +kernel
theorem dX7_bestSpot_80 : decode cX7_bestSpot 80 = .ok (.iload 4, 2) := by decide +kernel
theorem dX7_bestSpot_82 : decode cX7_bestSpot 82 = .ok (.imul, 1) := by decide +kernel
theorem dX7_bestSpot_83 : decode cX7_bestSpot 83 = .ok (.iload 5, 2) := by decide +kernel
theorem dX7_bestSpot_85 : decode cX7_bestSpot 85 = .ok (.iadd, 1) := by decide +kernel
theorem dX7_bestSpot_86 : decode cX7_bestSpot 86 = .ok (.istore_n 2, 1) := by decide +kernel
theorem dX7_bestSpot_87 : decode cX7_bestSpot 87 = .ok (.iload 6, 2) := by decide +kernel
theorem dX7_bestSpot_89 : decode cX7_bestSpot 89 = .ok (.istore_n 3, 1) := by decide +kernel
theorem dX7_bestSpot_90 : decode cX7_bestSpot 90 = .ok (.iinc 5 1, 3) := by decide +kernel
theorem dX7_bestSpot_93 : decode cX7_bestSpot 93 = .ok (.goto (-63), 3) := by decide +kernel
theorem dX7_bestSpot_96 : decode cX7_bestSpot 96 = .ok (.iinc 4 1, 3) := by decide +kernel
theorem dX7_bestSpot_99 : decode cX7_bestSpot 99 = .ok (.goto (-88), 3) := by decide +kernel
theorem dX7_bestSpot_102 : decode cX7_bestSpot 102 = .ok (.iload_n 2, 1) := by decide +kernel
theorem dX7_bestSpot_103 : decode cX7_bestSpot 103 = .ok (.ireturn, 1) := by decide +kernel
theorem dX7_bestSpotLeaves_0 : decode cX7_bestSpotLeaves 0 = .ok (.aload_n 0, 1) := by decide +kernel
theorem dX7_bestSpotLeaves_1 : decode cX7_bestSpotLeaves 1 = .ok (.aload_n 1, 1) := by decide +kernel
theorem dX7_bestSpotLeaves_2 : decode cX7_bestSpotLeaves 2 = .ok (.invokevirtual 93, 3) := by decide +kernel
theorem dX7_bestSpotLeaves_5 : decode cX7_bestSpotLeaves 5 = .ok (.istore_n 2, 1) := by decide +kernel
theorem dX7_bestSpotLeaves_6 : decode cX7_bestSpotLeaves 6 = .ok (.iload_n 2, 1) := by decide +kernel
theorem dX7_bestSpotLeaves_7 : decode cX7_bestSpotLeaves 7 = .ok (.ifCond .ge 8, 3) := by decide +kernel
theorem dX7_bestSpotLeaves_10 : decode cX7_bestSpotLeaves 10 = .ok (.bipush (-2), 2) := by decide +kernel
theorem dX7_bestSpotLeaves_12 : decode cX7_bestSpotLeaves 12 = .ok (.goto 15, 3) := by decide +kernel
theorem dX7_bestSpotLeaves_15 : decode cX7_bestSpotLeaves 15 = .ok (.aload_n 0, 1) := by decide +kernel
theorem dX7_bestSpotLeaves_16 : decode cX7_bestSpotLeaves 16 = .ok (.iload_n 2, 1) := by decide +kernel
theorem dX7_bestSpotLeaves_17 : decode cX7_bestSpotLeaves 17 = .ok (.bipush 100, 2) := by decide +kernel
theorem dX7_bestSpotLeaves_19 : decode cX7_bestSpotLeaves 19 = .ok (.idiv, 1) := by decide +kernel
theorem dX7_bestSpotLeaves_20 : decode cX7_bestSpotLeaves 20 = .ok (.iload_n 2, 1) := by decide +kernel
theorem dX7_bestSpotLeaves_21 : decode cX7_bestSpotLeaves 21 = .ok (.bipush 100, 2) := by decide +kernel
theorem dX7_bestSpotLeaves_23 : decode cX7_bestSpotLeaves 23 = .ok (.irem, 1) := by decide +kernel
theorem dX7_bestSpotLeaves_24 : decode cX7_bestSpotLeaves 24 = .ok (.invokevirtual 90, 3) := by decide +kernel
theorem dX7_bestSpotLeaves_27 : decode cX7_bestSpotLeaves 27 = .ok (.ireturn, 1) := by decide +kernel
theorem dX7_comesOn_0 : decode cX7_comesOn 0 = .ok (.iconst 0, 1) := by decide +kernel
theorem dX7_comesOn_1 : decode cX7_comesOn 1 = .ok (.istore_n 3, 1) := by decide +kernel
theorem dX7_comesOn_2 : decode cX7_comesOn 2 = .ok (.iload_n 3, 1) := by decide +kernel
theorem dX7_comesOn_3 : decode cX7_comesOn 3 = .ok (.aload_n 0, 1) := by decide +kernel
theorem dX7_comesOn_4 : decode cX7_comesOn 4 = .ok (.getfield 43, 3) := by decide +kernel
theorem dX7_comesOn_7 : decode cX7_comesOn 7 = .ok (.if_icmp .ge 23, 3) := by decide +kernel
theorem dX7_comesOn_10 : decode cX7_comesOn 10 = .ok (.aload_n 0, 1) := by decide +kernel
theorem dX7_comesOn_11 : decode cX7_comesOn 11 = .ok (.getfield 22, 3) := by decide +kernel
theorem dX7_comesOn_14 : decode cX7_comesOn 14 = .ok (.iload_n 3, 1) := by decide +kernel
theorem dX7_comesOn_15 : decode cX7_comesOn 15 = .ok (.aaload, 1) := by decide +kernel
theorem dX7_comesOn_16 : decode cX7_comesOn 16 = .ok (.iload_n 1, 1) := by decide +kernel
theorem dX7_comesOn_17 : decode cX7_comesOn 17 = .ok (.iaload, 1) := by decide +kernel
theorem dX7_comesOn_18 : decode cX7_comesOn 18 = .ok (.iload_n 2, 1) := by decide +kernel
theorem dX7_comesOn_19 : decode cX7_comesOn 19 = .ok (.if_icmp .ne 5, 3) := by decide +kernel
theorem dX7_comesOn_22 : decode cX7_comesOn 22 = .ok (.iconst 1, 1) := by decide +kernel
theorem dX7_comesOn_23 : decode cX7_comesOn 23 = .ok (.ireturn, 1) := by decide +kernel
theorem dX7_comesOn_24 : decode cX7_comesOn 24 = .ok (.iinc 3 1, 3) := by decide +kernel
theorem dX7_comesOn_27 : decode cX7_comesOn 27 = .ok (.goto (-25), 3) := by decide +kernel
theorem dX7_comesOn_30 : decode cX7_comesOn 30 = .ok (.iconst 0, 1) := by decide +kernel
theorem dX7_comesOn_31 : decode cX7_comesOn 31 = .ok (.ireturn, 1) := by decide +kernel
theorem dX7_mostLeft_0 : decode cX7_mostLeft 0 = .ok (.iconst 0, 1) := by decide +kernel
theorem dX7_mostLeft_1 : decode cX7_mostLeft 1 = .ok (.istore_n 3, 1) := by decide +kernel
theorem dX7_mostLeft_2 : decode cX7_mostLeft 2 = .ok (.iload_n 3, 1) := by decide +kernel
theorem dX7_mostLeft_3 : decode cX7_mostLeft 3 = .ok (.aload_n 0, 1) := by decide +kernel
theorem dX7_mostLeft_4 : decode cX7_mostLeft 4 = .ok (.getfield 40, 3) := by decide +kernel
theorem dX7_mostLeft_7 : decode cX7_mostLeft 7 = .ok (.arraylength, 1) := by decide +kernel
theorem dX7_mostLeft_8 : decode cX7_mostLeft 8 = .ok (.if_icmp .ge 16, 3) := by decide +kernel
theorem dX7_mostLeft_11 : decode cX7_mostLeft 11 = .ok (.aload_n 0, 1) := by decide +kernel
theorem dX7_mostLeft_12 : decode cX7_mostLeft 12 = .ok (.getfield 40, 3) := by decide +kernel
theorem dX7_mostLeft_15 : decode cX7_mostLeft 15 = .ok (.iload_n 3, 1) := by decide +kernel
theorem dX7_mostLeft_16 : decode cX7_mostLeft 16 = .ok (.iconst 0, 1) := by decide +kernel
theorem dX7_mostLeft_17 : decode cX7_mostLeft 17 = .ok (.iastore, 1) := by decide +kernel
theorem dX7_mostLeft_18 : decode cX7_mostLeft 18 = .ok (.iinc 3 1, 3) := by decide +kernel
theorem dX7_mostLeft_21 : decode cX7_mostLeft 21 = .ok (.goto (-19), 3) := by decide +kernel
theorem dX7_mostLeft_24 : decode cX7_mostLeft 24 = .ok (.iconst 0, 1) := by decide +kernel
theorem dX7_mostLeft_25 : decode cX7_mostLeft 25 = .ok (.istore_n 3, 1) := by decide +kernel
theorem dX7_mostLeft_26 : decode cX7_mostLeft 26 = .ok (.iload_n 3, 1) := by decide +kernel
theorem dX7_mostLeft_27 : decode cX7_mostLeft 27 = .ok (.aload_n 0, 1) := by decide +kernel
theorem dX7_mostLeft_28 : decode cX7_mostLeft 28 = .ok (.getfield 50, 3) := by decide +kernel
theorem dX7_mostLeft_31 : decode cX7_mostLeft 31 = .ok (.if_icmp .ge 30, 3) := by decide +kernel
theorem dX7_mostLeft_34 : decode cX7_mostLeft 34 = .ok (.aload_n 0, 1) := by decide +kernel
theorem dX7_mostLeft_35 : decode cX7_mostLeft 35 = .ok (.getfield 40, 3) := by decide +kernel
theorem dX7_mostLeft_38 : decode cX7_mostLeft 38 = .ok (.aload_n 0, 1) := by decide +kernel
theorem dX7_mostLeft_39 : decode cX7_mostLeft 39 = .ok (.aload_n 0, 1) := by decide +kernel
theorem dX7_mostLeft_40 : decode cX7_mostLeft 40 = .ok (.getfield 37, 3) := by decide +kernel
theorem dX7_mostLeft_43 : decode cX7_mostLeft 43 = .ok (.iload_n 3, 1) := by decide +kernel
theorem dX7_mostLeft_44 : decode cX7_mostLeft 44 = .ok (.iaload, 1) := by decide +kernel
theorem dX7_mostLeft_45 : decode cX7_mostLeft 45 = .ok (.iload_n 1, 1) := by decide +kernel
theorem dX7_mostLeft_46 : decode cX7_mostLeft 46 = .ok (.iload_n 2, 1) := by decide +kernel
theorem dX7_mostLeft_47 : decode cX7_mostLeft 47 = .ok (.invokevirtual 74, 3) := by decide +kernel
theorem dX7_mostLeft_50 : decode cX7_mostLeft 50 = .ok (.dup2, 1) := by decide +kernel
theorem dX7_mostLeft_51 : decode cX7_mostLeft 51 = .ok (.iaload, 1) := by decide +kernel
theorem dX7_mostLeft_52 : decode cX7_mostLeft 52 = .ok (.iconst 1, 1) := by decide +kernel
theorem dX7_mostLeft_53 : decode cX7_mostLeft 53 = .ok (.iadd, 1) := by decide +kernel
theorem dX7_mostLeft_54 : decode cX7_mostLeft 54 = .ok (.iastore, 1) := by decide +kernel
theorem dX7_mostLeft_55 : decode cX7_mostLeft 55 = .ok (.iinc 3 1, 3) := by decide +kernel
theorem dX7_mostLeft_58 : decode cX7_mostLeft 58 = .ok (.goto (-32), 3) := by decide +kernel
theorem dX7_mostLeft_61 : decode cX7_mostLeft 61 = .ok (.iconst 0, 1) := by decide +kernel
theorem dX7_mostLeft_62 : decode cX7_mostLeft 62 = .ok (.istore_n 3, 1) := by decide +kernel
theorem dX7_mostLeft_63 : decode cX7_mostLeft 63 = .ok (.iconst 0, 1) := by decide +kernel
theorem dX7_mostLeft_64 : decode cX7_mostLeft 64 = .ok (.istore 4, 2) := by decide +kernel
theorem dX7_mostLeft_66 : decode cX7_mostLeft 66 = .ok (.iload 4, 2) := by decide +kernel
theorem dX7_mostLeft_68 : decode cX7_mostLeft 68 = .ok (.aload_n 0, 1) := by decide +kernel
theorem dX7_mostLeft_69 : decode cX7_mostLeft 69 = .ok (.getfield 40, 3) := by decide +kernel
theorem dX7_mostLeft_72 : decode cX7_mostLeft 72 = .ok (.arraylength, 1) := by decide +kernel
theorem dX7_mostLeft_73 : decode cX7_mostLeft 73 = .ok (.if_icmp .ge 21, 3) := by decide +kernel
theorem dX7_mostLeft_76 : decode cX7_mostLeft 76 = .ok (.iload_n 3, 1) := by decide +kernel
theorem dX7_mostLeft_77 : decode cX7_mostLeft 77 = .ok (.aload_n 0, 1) := by decide +kernel
theorem dX7_mostLeft_78 : decode cX7_mostLeft 78 = .ok (.getfield 40, 3) := by decide +kernel
theorem dX7_mostLeft_81 : decode cX7_mostLeft 81 = .ok (.iload 4, 2) := by decide +kernel
theorem dX7_mostLeft_83 : decode cX7_mostLeft 83 = .ok (.iaload, 1) := by decide +kernel
theorem dX7_mostLeft_84 : decode cX7_mostLeft 84 = .ok (.invokestatic 97, 3) := by decide +kernel
theorem dX7_mostLeft_87 : decode cX7_mostLeft 87 = .ok (.istore_n 3, 1) := by decide +kernel
theorem dX7_mostLeft_88 : decode cX7_mostLeft 88 = .ok (.iinc 4 1, 3) := by decide +kernel
theorem dX7_mostLeft_91 : decode cX7_mostLeft 91 = .ok (.goto (-25), 3) := by decide +kernel
theorem dX7_mostLeft_94 : decode cX7_mostLeft 94 = .ok (.iload_n 3, 1) := by decide +kernel
theorem dX7_mostLeft_95 : decode cX7_mostLeft 95 = .ok (.ireturn, 1) := by decide +kernel
theorem dX7_firstTooFew_0 : decode cX7_firstTooFew 0 = .ok (.iconst 0, 1) := by decide +kernel
theorem dX7_firstTooFew_1 : decode cX7_firstTooFew 1 = .ok (.istore_n 1, 1) := by decide +kernel
theorem dX7_firstTooFew_2 : decode cX7_firstTooFew 2 = .ok (.iload_n 1, 1) := by decide +kernel
theorem dX7_firstTooFew_3 : decode cX7_firstTooFew 3 = .ok (.aload_n 0, 1) := by decide +kernel
theorem dX7_firstTooFew_4 : decode cX7_firstTooFew 4 = .ok (.getfield 47, 3) := by decide +kernel
theorem dX7_firstTooFew_7 : decode cX7_firstTooFew 7 = .ok (.if_icmp .ge 26, 3) := by decide +kernel
theorem dX7_firstTooFew_10 : decode cX7_firstTooFew 10 = .ok (.aload_n 0, 1) := by decide +kernel
theorem dX7_firstTooFew_11 : decode cX7_firstTooFew 11 = .ok (.getfield 31, 3) := by decide +kernel
theorem dX7_firstTooFew_14 : decode cX7_firstTooFew 14 = .ok (.iload_n 1, 1) := by decide +kernel
theorem dX7_firstTooFew_15 : decode cX7_firstTooFew 15 = .ok (.iaload, 1) := by decide +kernel
theorem dX7_firstTooFew_16 : decode cX7_firstTooFew 16 = .ok (.aload_n 0, 1) := by decide +kernel
theorem dX7_firstTooFew_17 : decode cX7_firstTooFew 17 = .ok (.getfield 34, 3) := by decide +kernel
theorem dX7_firstTooFew_20 : decode cX7_firstTooFew 20 = .ok (.iload_n 1, 1) := by decide +kernel
theorem dX7_firstTooFew_21 : decode cX7_firstTooFew 21 = .ok (.iaload, 1) := by decide +kernel
theorem dX7_firstTooFew_22 : decode cX7_firstTooFew 22 = .ok (.if_icmp .ge 5, 3) := by decide +kernel
theorem dX7_firstTooFew_25 : decode cX7_firstTooFew 25 = .ok (.iload_n 1, 1) := by decide +kernel
theorem dX7_firstTooFew_26 : decode cX7_firstTooFew 26 = .ok (.ireturn, 1) := by decide +kernel
theorem dX7_firstTooFew_27 : decode cX7_firstTooFew 27 = .ok (.iinc 1 1, 3) := by decide +kernel
theorem dX7_firstTooFew_30 : decode cX7_firstTooFew 30 = .ok (.goto (-28), 3) := by decide +kernel
theorem dX7_firstTooFew_33 : decode cX7_firstTooFew 33 = .ok (.bipush (-2), 2) := by decide +kernel
theorem dX7_firstTooFew_35 : decode cX7_firstTooFew 35 = .ok (.ireturn, 1) := by decide +kernel
theorem dX8_init_0 : decode cX8_init 0 = .ok (.aload_n 0, 1) := by decide +kernel
theorem dX8_init_1 : decode cX8_init 1 = .ok (.invokespecial 1, 3) := by decide +kernel
theorem dX8_init_4 : decode cX8_init 4 = .ok (.aload_n 0, 1) := by decide +kernel
theorem dX8_init_5 : decode cX8_init 5 = .ok (.sipush 900, 3) := by decide +kernel
theorem dX8_init_8 : decode cX8_init 8 = .ok (.newarray .byte, 2) := by decide +kernel
theorem dX8_init_10 : decode cX8_init 10 = .ok (.putfield 9, 3) := by decide +kernel
theorem dX8_init_13 : decode cX8_init 13 = .ok (.return_, 1) := by decide +kernel
theorem dX8_put_0 : decode cX8_put 0 = .ok (.bipush 24, 2) := by decide +kernel
theorem dX8_put_2 : decode cX8_put 2 = .ok (.istore_n 2, 1) := by decide +kernel
theorem dX8_put_3 : decode cX8_put 3 = .ok (.iload_n 2, 1) := by decide +kernel
theorem dX8_put_4 : decode cX8_put 4 = .ok (.ifCond .lt 42, 3) := by decide +kernel
theorem dX8_put_7 : decode cX8_put 7 = .ok (.aload_n 0, 1) := by decide +kernel
theorem dX8_put_8 : decode cX8_put 8 = .ok (.getfield 13, 3) := by decide +kernel
theorem dX8_put_11 : decode cX8_put 11 = .ok (.sipush 900, 3) := by decide +kernel
theorem dX8_put_14 : decode cX8_put 14 = .ok (.if_icmp .ge 32, 3) := by decide +kernel
theorem dX8_put_17 : decode cX8_put 17 = .ok (.aload_n 0, 1) := by decide +kernel
theorem dX8_put_18 : decode cX8_put 18 = .ok (.getfield 9, 3) := by decide +kernel
theorem dX8_put_21 : decode cX8_put 21 = .ok (.aload_n 0, 1) := by decide +kernel
theorem dX8_put_22 : decode cX8_put 22 = .ok (.getfield 13, 3) := by decide +kernel
theorem dX8_put_25 : decode cX8_put 25 = .ok (.iload_n 1, 1) := by decide +kernel
theorem dX8_put_26 : decode cX8_put 26 = .ok (.iload_n 2, 1) := by decide +kernel
theorem dX8_put_27 : decode cX8_put 27 = .ok (.ishr, 1) := by decide +kernel
theorem dX8_put_28 : decode cX8_put 28 = .ok (.i2b, 1) := by decide +kernel
theorem dX8_put_29 : decode cX8_put 29 = .ok (.bastore, 1) := by decide +kernel
theorem dX8_put_30 : decode cX8_put 30 = .ok (.aload_n 0, 1) := by decide +kernel
theorem dX8_put_31 : decode cX8_put 31 = .ok (.dup, 1) := by decide +kernel
theorem dX8_put_32 : decode cX8_put 32 = .ok (.getfield 13, 3) := by decide +kernel
theorem dX8_put_35 : decode cX8_put 35 = .ok (.iconst 1, 1) := by decide +kernel
theorem dX8_put_36 : decode cX8_put 36 = .ok (.iadd, 1) := by decide +kernel
theorem dX8_put_37 : decode cX8_put 37 = .ok (.putfield 13, 3) := by decide +kernel
theorem dX8_put_40 : decode cX8_put 40 = .ok (.iinc 2 (-8), 3) := by decide +kernel
theorem dX8_put_43 : decode cX8_put 43 = .ok (.goto (-40), 3) := by decide +kernel
theorem dX8_put_46 : decode cX8_put 46 = .ok (.return_, 1) := by decide +kernel
theorem dX8_begin_0 : decode cX8_begin 0 = .ok (.aload_n 0, 1) := by decide +kernel
theorem dX8_begin_1 : decode cX8_begin 1 = .ok (.iload_n 1, 1) := by decide +kernel
theorem dX8_begin_2 : decode cX8_begin 2 = .ok (.sipush 900, 3) := by decide +kernel
theorem dX8_begin_5 : decode cX8_begin 5 = .ok (.invokestatic 17, 3) := by decide +kernel
theorem dX8_begin_8 : decode cX8_begin 8 = .ok (.putfield 23, 3) := by decide +kernel
theorem dX8_begin_11 : decode cX8_begin 11 = .ok (.aload_n 0, 1) := by decide +kernel
theorem dX8_begin_12 : decode cX8_begin 12 = .ok (.iconst 0, 1) := by decide +kernel
theorem dX8_begin_13 : decode cX8_begin 13 = .ok (.putfield 26, 3) := by decide +kernel
theorem dX8_begin_16 : decode cX8_begin 16 = .ok (.aload_n 0, 1) := by decide +kernel
theorem dX8_begin_17 : decode cX8_begin 17 = .ok (.invokevirtual 29, 3) := by decide +kernel
theorem dX8_begin_20 : decode cX8_begin 20 = .ok (.return_, 1) := by decide +kernel
theorem dX8_step_0 : decode cX8_step 0 = .ok (.aload_n 0, 1) := by decide +kernel
theorem dX8_step_1 : decode cX8_step 1 = .ok (.aload_n 0, 1) := by decide +kernel
theorem dX8_step_2 : decode cX8_step 2 = .ok (.getfield 26, 3) := by decide +kernel
theorem dX8_step_5 : decode cX8_step 5 = .ok (.putfield 32, 3) := by decide +kernel
theorem dX8_step_8 : decode cX8_step 8 = .ok (.aload_n 0, 1) := by decide +kernel
theorem dX8_step_9 : decode cX8_step 9 = .ok (.getfield 32, 3) := by decide +kernel
theorem dX8_step_12 : decode cX8_step 12 = .ok (.aload_n 0, 1) := by decide +kernel
theorem dX8_step_13 : decode cX8_step 13 = .ok (.getfield 23, 3) := by decide +kernel
theorem dX8_step_16 : decode cX8_step 16 = .ok (.if_icmp .ge 30, 3) := by decide +kernel
theorem dX8_step_19 : decode cX8_step 19 = .ok (.aload_n 0, 1) := by decide +kernel
theorem dX8_step_20 : decode cX8_step 20 = .ok (.getfield 9, 3) := by decide +kernel
theorem dX8_step_23 : decode cX8_step 23 = .ok (.aload_n 0, 1) := by decide +kernel
theorem dX8_step_24 : decode cX8_step 24 = .ok (.getfield 32, 3) := by decide +kernel
theorem dX8_step_27 : decode cX8_step 27 = .ok (.baload, 1) := by decide +kernel
theorem dX8_step_28 : decode cX8_step 28 = .ok (.bipush 32, 2) := by decide +kernel
theorem dX8_step_30 : decode cX8_step 30 = .ok (.if_icmp .ne 16, 3) := by decide +kernel
theorem dX8_step_33 : decode cX8_step 33 = .ok (.aload_n 0, 1) := by decide +kernel
theorem dX8_step_34 : decode cX8_step 34 = .ok (.dup, 1) := by decide +kernel
theorem dX8_step_35 : decode cX8_step 35 = .ok (.getfield 32, 3) := by decide +kernel
theorem dX8_step_38 : decode cX8_step 38 = .ok (.iconst 1, 1) := by decide +kernel
theorem dX8_step_39 : decode cX8_step 39 = .ok (.iadd, 1) := by decide +kernel
theorem dX8_step_40 : decode cX8_step 40 = .ok (.putfield 32, 3) := by decide +kernel
theorem dX8_step_43 : decode cX8_step 43 = .ok (.goto (-35), 3) := by decide +kernel
theorem dX8_step_46 : decode cX8_step 46 = .ok (.aload_n 0, 1) := by decide +kernel
theorem dX8_step_47 : decode cX8_step 47 = .ok (.aload_n 0, 1) := by decide +kernel
theorem dX8_step_48 : decode cX8_step 48 = .ok (.getfield 32, 3) := by decide +kernel
theorem dX8_step_51 : decode cX8_step 51 = .ok (.aload_n 0, 1) := by decide +kernel
theorem dX8_step_52 : decode cX8_step 52 = .ok (.getfield 23, 3) := by decide +kernel
theorem dX8_step_55 : decode cX8_step 55 = .ok (.if_icmp .ge 18, 3) := by decide +kernel
theorem dX8_step_58 : decode cX8_step 58 = .ok (.aload_n 0, 1) := by decide +kernel
theorem dX8_step_59 : decode cX8_step 59 = .ok (.getfield 9, 3) := by decide +kernel
theorem dX8_step_62 : decode cX8_step 62 = .ok (.aload_n 0, 1) := by decide +kernel
theorem dX8_step_63 : decode cX8_step 63 = .ok (.getfield 32, 3) := by decide +kernel
theorem dX8_step_66 : decode cX8_step 66 = .ok (.baload, 1) := by decide +kernel
theorem dX8_step_67 : decode cX8_step 67 = .ok (.invokestatic 35, 3) := by decide +kernel
theorem dX8_step_70 : decode cX8_step 70 = .ok (.goto 4, 3) := by decide +kernel
theorem dX8_step_73 : decode cX8_step 73 = .ok (.iconst 0, 1) := by decide +kernel
theorem dX8_step_74 : decode cX8_step 74 = .ok (.putfield 39, 3) := by decide +kernel
theorem dX8_step_77 : decode cX8_step 77 = .ok (.aload_n 0, 1) := by decide +kernel
theorem dX8_step_78 : decode cX8_step 78 = .ok (.lconst 0, 1) := by decide +kernel
theorem dX8_step_79 : decode cX8_step 79 = .ok (.putfield 42, 3) := by decide +kernel
theorem dX8_step_82 : decode cX8_step 82 = .ok (.aload_n 0, 1) := by decide +kernel
theorem dX8_step_83 : decode cX8_step 83 = .ok (.iconst 0, 1) := by decide +kernel
theorem dX8_step_84 : decode cX8_step 84 = .ok (.putfield 46, 3) := by decide +kernel
theorem dX8_step_87 : decode cX8_step 87 = .ok (.aload_n 0, 1) := by decide +kernel
theorem dX8_step_88 : decode cX8_step 88 = .ok (.aload_n 0, 1) := by decide +kernel
theorem dX8_step_89 : decode cX8_step 89 = .ok (.getfield 32, 3) := by decide +kernel
theorem dX8_step_92 : decode cX8_step 92 = .ok (.iconst 1, 1) := by decide +kernel
theorem dX8_step_93 : decode cX8_step 93 = .ok (.iadd, 1) := by decide +kernel
theorem dX8_step_94 : decode cX8_step 94 = .ok (.aload_n 0, 1) := by decide +kernel
theorem dX8_step_95 : decode cX8_step 95 = .ok (.getfield 23, 3) := by decide +kernel
theorem dX8_step_98 : decode cX8_step 98 = .ok (.invokestatic 17, 3) := by decide +kernel
theorem dX8_step_101 : decode cX8_step 101 = .ok (.putfield 26, 3) := by decide +kernel
theorem dX8_step_104 : decode cX8_step 104 = .ok (.aload_n 0, 1) := by decide +kernel
theorem dX8_step_105 : decode cX8_step 105 = .ok (.getfield 39, 3) := by decide +kernel
theorem dX8_step_108 : decode cX8_step 108 = .ok (.iconst 1, 1) := by decide +kernel
theorem dX8_step_109 : decode cX8_step 109 = .ok (.if_icmp .eq 11, 3) := by decide +kernel
theorem dX8_step_112 : decode cX8_step 112 = .ok (.aload_n 0, 1) := by decide +kernel
theorem dX8_step_113 : decode cX8_step 113 = .ok (.getfield 39, 3) := by decide +kernel
theorem dX8_step_116 : decode cX8_step 116 = .ok (.iconst 2, 1) := by decide +kernel
theorem dX8_step_117 : decode cX8_step 117 = .ok (.if_icmp .ne 7, 3) := by decide +kernel
theorem dX8_step_120 : decode cX8_step 120 = .ok (.aload_n 0, 1) := by decide +kernel
theorem dX8_step_121 : decode cX8_step 121 = .ok (.invokevirtual 49, 3) := by decide +kernel
theorem dX8_step_124 : decode cX8_step 124 = .ok (.return_, 1) := by decide +kernel
theorem dX8_takeRun_0 : decode cX8_takeRun 0 = .ok (.aload_n 0, 1) := by decide +kernel
theorem dX8_takeRun_1 : decode cX8_takeRun 1 = .ok (.aload_n 0, 1) := by decide +kernel
theorem dX8_takeRun_2 : decode cX8_takeRun 2 = .ok (.getfield 32, 3) := by decide +kernel
theorem dX8_takeRun_5 : decode cX8_takeRun 5 = .ok (.putfield 26, 3) := by decide +kernel
theorem dX8_takeRun_8 : decode cX8_takeRun 8 = .ok (.aload_n 0, 1) := by decide +kernel
theorem dX8_takeRun_9 : decode cX8_takeRun 9 = .ok (.getfield 26, 3) := by decide +kernel
theorem dX8_takeRun_12 : decode cX8_takeRun 12 = .ok (.aload_n 0, 1) := by decide +kernel
theorem dX8_takeRun_13 : decode cX8_takeRun 13 = .ok (.getfield 23, 3) := by decide +kernel
theorem dX8_takeRun_16 : decode cX8_takeRun 16 = .ok (.if_icmp .ge 83, 3) := by decide +kernel
theorem dX8_takeRun_19 : decode cX8_takeRun 19 = .ok (.aload_n 0, 1) := by decide +kernel
theorem dX8_takeRun_20 : decode cX8_takeRun 20 = .ok (.getfield 9, 3) := by decide +kernel
theorem dX8_takeRun_23 : decode cX8_takeRun 23 = .ok (.aload_n 0, 1) := by decide +kernel
theorem dX8_takeRun_24 : decode cX8_takeRun 24 = .ok (.getfield 26, 3) := by decide +kernel
theorem dX8_takeRun_27 : decode cX8_takeRun 27 = .ok (.baload, 1) := by decide +kernel
theorem dX8_takeRun_28 : decode cX8_takeRun 28 = .ok (.invokestatic 35, 3) := by decide +kernel
theorem dX8_takeRun_31 : decode cX8_takeRun 31 = .ok (.aload_n 0, 1) := by decide +kernel
theorem dX8_takeRun_32 : decode cX8_takeRun 32 = .ok (.getfield 39, 3) := by decide +kernel
theorem dX8_takeRun_35 : decode cX8_takeRun 35 = .ok (.if_icmp .ne 64, 3) := by decide +kernel
theorem dX8_takeRun_38 : decode cX8_takeRun 38 = .ok (.aload_n 0, 1) := by decide +kernel
theorem dX8_takeRun_39 : decode cX8_takeRun 39 = .ok (.aload_n 0, 1) := by decide +kernel
theorem dX8_takeRun_40 : decode cX8_takeRun 40 = .ok (.getfield 42, 3) := by decide +kernel
theorem dX8_takeRun_43 : decode cX8_takeRun 43 = .ok (.iconst 5, 1) := by decide +kernel
theorem dX8_takeRun_44 : decode cX8_takeRun 44 = .ok (.lshl, 1) := by decide +kernel
theorem dX8_takeRun_45 : decode cX8_takeRun 45 = .ok (.aload_n 0, 1) := by decide +kernel
theorem dX8_takeRun_46 : decode cX8_takeRun 46 = .ok (.getfield 9, 3) := by decide +kernel
theorem dX8_takeRun_49 : decode cX8_takeRun 49 = .ok (.aload_n 0, 1) := by decide +kernel
theorem dX8_takeRun_50 : decode cX8_takeRun 50 = .ok (.getfield 26, 3) := by decide +kernel
theorem dX8_takeRun_53 : decode cX8_takeRun 53 = .ok (.baload, 1) := by decide +kernel
theorem dX8_takeRun_54 : decode cX8_takeRun 54 = .ok (.bipush 31, 2) := by decide +kernel
theorem dX8_takeRun_56 : decode cX8_takeRun 56 = .ok (.iand, 1) := by decide +kernel
theorem dX8_takeRun_57 : decode cX8_takeRun 57 = .ok (.i2l, 1) := by decide +kernel
theorem dX8_takeRun_58 : decode cX8_takeRun 58 = .ok (.lor, 1) := by decide +kernel
theorem dX8_takeRun_59 : decode cX8_takeRun 59 = .ok (.putfield 42, 3) := by decide +kernel
theorem dX8_takeRun_62 : decode cX8_takeRun 62 = .ok (.aload_n 0, 1) := by decide +kernel
theorem dX8_takeRun_63 : decode cX8_takeRun 63 = .ok (.aload_n 0, 1) := by decide +kernel
theorem dX8_takeRun_64 : decode cX8_takeRun 64 = .ok (.getfield 46, 3) := by decide +kernel
theorem dX8_takeRun_67 : decode cX8_takeRun 67 = .ok (.bipush 10, 2) := by decide +kernel
theorem dX8_takeRun_69 : decode cX8_takeRun 69 = .ok (.imul, 1) := by decide +kernel
theorem dX8_takeRun_70 : decode cX8_takeRun 70 = .ok (.aload_n 0, 1) := by decide +kernel
theorem dX8_takeRun_71 : decode cX8_takeRun 71 = .ok (.getfield 9, 3) := by decide +kernel
theorem dX8_takeRun_74 : decode cX8_takeRun 74 = .ok (.aload_n 0, 1) := by decide +kernel
theorem dX8_takeRun_75 : decode cX8_takeRun 75 = .ok (.getfield 26, 3) := by decide +kernel
theorem dX8_takeRun_78 : decode cX8_takeRun 78 = .ok (.baload, 1) := by decide +kernel
theorem dX8_takeRun_79 : decode cX8_takeRun 79 = .ok (.bipush 48, 2) := by decide +kernel
theorem dX8_takeRun_81 : decode cX8_takeRun 81 = .ok (.isub, 1) := by decide +kernel
theorem dX8_takeRun_82 : decode cX8_takeRun 82 = .ok (.iadd, 1) := by decide +kernel
theorem dX8_takeRun_83 : decode cX8_takeRun 83 = .ok (.putfield 46, 3) := by decide +kernel
theorem dX8_takeRun_86 : decode cX8_takeRun 86 = .ok (.aload_n 0, 1) := by decide +kernel
theorem dX8_takeRun_87 : decode cX8_takeRun 87 = .ok (.dup, 1) := by decide +kernel
theorem dX8_takeRun_88 : decode cX8_takeRun 88 = .ok (.getfield 26, 3) := by decide +kernel
theorem dX8_takeRun_91 : decode cX8_takeRun 91 = .ok (.iconst 1, 1) := by decide +kernel
theorem dX8_takeRun_92 : decode cX8_takeRun 92 = .ok (.iadd, 1) := by decide +kernel
theorem dX8_takeRun_93 : decode cX8_takeRun 93 = .ok (.putfield 26, 3) := by decide +kernel
theorem dX8_takeRun_96 : decode cX8_takeRun 96 = .ok (.goto (-88), 3) := by decide +kernel
theorem dX8_takeRun_99 : decode cX8_takeRun 99 = .ok (.aload_n 0, 1) := by decide +kernel
theorem dX8_takeRun_100 : decode cX8_takeRun 100 = .ok (.getfield 26, 3) := by decide +kernel
theorem dX8_takeRun_103 : decode cX8_takeRun 103 = .ok (.aload_n 0, 1) := by decide +kernel
theorem dX8_takeRun_104 : decode cX8_takeRun 104 = .ok (.getfield 32, 3) := by decide +kernel
theorem dX8_takeRun_107 : decode cX8_takeRun 107 = .ok (.isub, 1) := by decide +kernel
theorem dX8_takeRun_108 : decode cX8_takeRun 108 = .ok (.aload_n 0, 1) := by decide +kernel
theorem dX8_takeRun_109 : decode cX8_takeRun 109 = .ok (.getfield 39, 3) := by decide +kernel
theorem dX8_takeRun_112 : decode cX8_takeRun 112 = .ok (.iconst 1, 1) := by decide +kernel
theorem dX8_takeRun_113 : decode cX8_takeRun 113 = .ok (.if_icmp .ne 8, 3) := by decide +kernel
theorem dX8_takeRun_116 : decode cX8_takeRun 116 = .ok (.bipush 8, 2) := by decide +kernel
theorem dX8_takeRun_118 : decode cX8_takeRun 118 = .ok (.goto 4, 3) := by decide +kernel
theorem dX8_takeRun_121 : decode cX8_takeRun 121 = .ok (.iconst 3, 1) := by decide +kernel
theorem dX8_takeRun_122 : decode cX8_takeRun 122 = .ok (.if_icmp .le 8, 3) := by decide +kernel
theorem dX8_takeRun_125 : decode cX8_takeRun 125 = .ok (.aload_n 0, 1) := by decide +kernel
theorem dX8_takeRun_126 : decode cX8_takeRun 126 = .ok (.iconst 4, 1) := by decide +kernel
theorem dX8_takeRun_127 : decode cX8_takeRun 127 = .ok (.putfield 39, 3) := by decide +kernel
theorem dX8_takeRun_130 : decode cX8_takeRun 130 = .ok (.return_, 1) := by decide +kernel
theorem dX8_sortOf_0 : decode cX8_sortOf 0 = .ok (.iload_n 0, 1) := by decide +kernel
theorem dX8_sortOf_1 : decode cX8_sortOf 1 = .ok (.bipush 97, 2) := by decide +kernel
theorem dX8_sortOf_3 : decode cX8_sortOf 3 = .ok (.if_icmp .lt 11, 3) := by decide +kernel
theorem dX8_sortOf_6 : decode cX8_sortOf 6 = .ok (.iload_n 0, 1) := by decide +kernel
theorem dX8_sortOf_7 : decode cX8_sortOf 7 = .ok (.bipush 122, 2) := by decide +kernel
theorem dX8_sortOf_9 : decode cX8_sortOf 9 = .ok (.if_icmp .gt 5, 3) := by decide +kernel
theorem dX8_sortOf_12 : decode cX8_sortOf 12 = .ok (.iconst 1, 1) := by decide +kernel
theorem dX8_sortOf_13 : decode cX8_sortOf 13 = .ok (.ireturn, 1) := by decide +kernel
theorem dX8_sortOf_14 : decode cX8_sortOf 14 = .ok (.iload_n 0, 1) := by decide +kernel
theorem dX8_sortOf_15 : decode cX8_sortOf 15 = .ok (.bipush 48, 2) := by decide +kernel
theorem dX8_sortOf_17 : decode cX8_sortOf 17 = .ok (.if_icmp .lt 11, 3) := by decide +kernel
theorem dX8_sortOf_20 : decode cX8_sortOf 20 = .ok (.iload_n 0, 1) := by decide +kernel
theorem dX8_sortOf_21 : decode cX8_sortOf 21 = .ok (.bipush 57, 2) := by decide +kernel
theorem dX8_sortOf_23 : decode cX8_sortOf 23 = .ok (.if_icmp .gt 5, 3) := by decide +kernel
theorem dX8_sortOf_26 : decode cX8_sortOf 26 = .ok (.iconst 2, 1) := by decide +kernel
theorem dX8_sortOf_27 : decode cX8_sortOf 27 = .ok (.ireturn, 1) := by decide +kernel
theorem dX8_sortOf_28 : decode cX8_sortOf 28 = .ok (.iload_n 0, 1) := by decide +kernel
theorem dX8_sortOf_29 : decode cX8_sortOf 29 = .ok (.bipush 59, 2) := by decide +kernel
theorem dX8_sortOf_31 : decode cX8_sortOf 31 = .ok (.if_icmp .ne 7, 3) := by decide +kernel
theorem dX8_sortOf_34 : decode cX8_sortOf 34 = .ok (.iconst 3, 1) := by decide +kernel
theorem dX8_sortOf_35 : decode cX8_sortOf 35 = .ok (.goto 4, 3) := by decide +kernel
theorem dX8_sortOf_38 : decode cX8_sortOf 38 = .ok (.iconst 4, 1) := by decide +kernel
theorem dX8_sortOf_39 : decode cX8_sortOf 39 = .ok (.ireturn, 1) := by decide +kernel
theorem dX8_spells_0 : decode cX8_spells 0 = .ok (.aload_n 0, 1) := by decide +kernel
theorem dX8_spells_1 : decode cX8_spells 1 = .ok (.getfield 39, 3) := by decide +kernel
theorem dX8_spells_4 : decode cX8_spells 4 = .ok (.iconst 1, 1) := by decide +kernel
theorem dX8_spells_5 : decode cX8_spells 5 = .ok (.if_icmp .eq 5, 3) := by decide +kernel
theorem dX8_spells_8 : decode cX8_spells 8 = .ok (.iconst 0, 1) := by decide +kernel
theorem dX8_spells_9 : decode cX8_spells 9 = .ok (.ireturn, 1) := by decide +kernel
theorem dX8_spells_10 : decode cX8_spells 10 = .ok (.lconst 0, 1) := by decide +kernel
theorem dX8_spells_11 : decode cX8_spells 11 = .ok (.lstore_n 2, 1) := by decide +kernel
theorem dX8_spells_12 : decode cX8_spells 12 = .ok (.iconst 0, 1) := by decide +kernel
theorem dX8_spells_13 : decode cX8_spells 13 = .ok (.istore 4, 2) := by decide +kernel
theorem dX8_spells_15 : decode cX8_spells 15 = .ok (.iload 4, 2) := by decide +kernel
theorem dX8_spells_17 : decode cX8_spells 17 = .ok (.aload_n 1, 1) := by decide +kernel
theorem dX8_spells_18 : decode cX8_spells 18 = .ok (.invokevirtual 52, 3) := by decide +kernel
theorem dX8_spells_21 : decode cX8_spells 21 = .ok (.if_icmp .ge 24, 3) := by decide +kernel
theorem dX8_spells_24 : decode cX8_spells 24 = .ok (.lload_n 2, 1) := by decide +kernel
theorem dX8_spells_25 : decode cX8_spells 25 = .ok (.iconst 5, 1) := by decide +kernel
theorem dX8_spells_26 : decode cX8_spells 26 = .ok (.lshl, 1) := by decide +kernel
theorem dX8_spells_27 : decode cX8_spells 27 = .ok (.aload_n 1, 1) := by decide +kernel
theorem dX8_spells_28 : decode cX8_spells 28 = .ok (.iload 4, 2) := by decide +kernel
theorem dX8_spells_30 : decode cX8_spells 30 = .ok (.invokevirtual 57, 3) := by decide +kernel
theorem dX8_spells_33 : decode cX8_spells 33 = .ok (.bipush 31, 2) := by decide +kernel
theorem dX8_spells_35 : decode cX8_spells 35 = .ok (.iand, 1) := by decide +kernel
theorem dX8_spells_36 : decode cX8_spells 36 = .ok (.i2l, 1) := by decide +kernel
theorem dX8_spells_37 : decode cX8_spells 37 = .ok (.lor, 1) := by decide +kernel
theorem dX8_spells_38 : decode cX8_spells 38 = .ok (.lstore_n 2, 1) := by decide +kernel
theorem dX8_spells_39 : decode cX8_spells 39 = .ok (.iinc 4 1, 3) := by decide +kernel
theorem dX8_spells_42 : decode cX8_spells 42 = .ok (.goto (-27), 3) := by decide +kernel
theorem dX8_spells_45 : decode cX8_spells 45 = .ok (.lload_n 2, 1) := by decide +kernel
theorem dX8_spells_46 : decode cX8_spells 46 = .ok (.aload_n 0, 1) := by decide +kernel
theorem dX8_spells_47 : decode cX8_spells 47 = .ok (.getfield 42, 3) := by decide +kernel
theorem dX8_spells_50 : decode cX8_spells 50 = .ok (.lcmp, 1) := by decide +kernel
theorem dX8_spells_51 : decode cX8_spells 51 = .ok (.ifCond .ne 7, 3) := by decide +kernel
theorem dX8_spells_54 : decode cX8_spells 54 = .ok (.iconst 1, 1) := by decide +kernel
theorem dX8_spells_55 : decode cX8_spells 55 = .ok (.goto 4, 3) := by decide +kernel
theorem dX8_spells_58 : decode cX8_spells 58 = .ok (.iconst 0, 1) := by decide +kernel
theorem dX8_spells_59 : decode cX8_spells 59 = .ok (.ireturn, 1) := by decide +kernel
theorem dX8_isName_0 : decode cX8_isName 0 = .ok (.aload_n 0, 1) := by decide +kernel
theorem dX8_isName_1 : decode cX8_isName 1 = .ok (.getfield 39, 3) := by decide +kernel
theorem dX8_isName_4 : decode cX8_isName 4 = .ok (.iconst 1, 1) := by decide +kernel
theorem dX8_isName_5 : decode cX8_isName 5 = .ok (.if_icmp .ne 52, 3) := by decide +kernel
theorem dX8_isName_8 : decode cX8_isName 8 = .ok (.aload_n 0, 1) := by decide +kernel
theorem dX8_isName_9 : decode cX8_isName 9 = .ok (.ldc 61, 2) := by decide +kernel
theorem dX8_isName_11 : decode cX8_isName 11 = .ok (.invokevirtual 63, 3) := by decide +kernel
theorem dX8_isName_14 : decode cX8_isName 14 = .ok (.ifCond .ne 43, 3) := by decide +kernel
theorem dX8_isName_17 : decode cX8_isName 17 = .ok (.aload_n 0, 1) := by decide +kernel
theorem dX8_isName_18 : decode cX8_isName 18 = .ok (.ldc 67, 2) := by decide +kernel
theorem dX8_isName_20 : decode cX8_isName 20 = .ok (.invokevirtual 63, 3) := by decide +kernel
theorem dX8_isName_23 : decode cX8_isName 23 = .ok (.ifCond .ne 34, 3) := by decide +kernel
theorem dX8_isName_26 : decode cX8_isName 26 = .ok (.aload_n 0, 1) := by decide +kernel
theorem dX8_isName_27 : decode cX8_isName 27 = .ok (.ldc 69, 2) := by decide +kernel
theorem dX8_isName_29 : decode cX8_isName 29 = .ok (.invokevirtual 63, 3) := by decide +kernel
theorem dX8_isName_32 : decode cX8_isName 32 = .ok (.ifCond .ne 25, 3) := by decide +kernel
theorem dX8_isName_35 : decode cX8_isName 35 = .ok (.aload_n 0, 1) := by decide +kernel
theorem dX8_isName_36 : decode cX8_isName 36 = .ok (.ldc 71, 2) := by decide +kernel
theorem dX8_isName_38 : decode cX8_isName 38 = .ok (.invokevirtual 63, 3) := by decide +kernel
theorem dX8_isName_41 : decode cX8_isName 41 = .ok (.ifCond .ne 16, 3) := by decide +kernel
theorem dX8_isName_44 : decode cX8_isName 44 = .ok (.aload_n 0, 1) := by decide +kernel
theorem dX8_isName_45 : decode cX8_isName 45 = .ok (.ldc 73, 2) := by decide +kernel
theorem dX8_isName_47 : decode cX8_isName 47 = .ok (.invokevirtual 63, 3) := by decide +kernel
theorem dX8_isName_50 : decode cX8_isName 50 = .ok (.ifCond .ne 7, 3) := by decide +kernel
theorem dX8_isName_53 : decode cX8_isName 53 = .ok (.iconst 1, 1) := by decide +kernel
theorem dX8_isName_54 : decode cX8_isName 54 = .ok (.goto 4, 3) := by decide +kernel
theorem dX8_isName_57 : decode cX8_isName 57 = .ok (.iconst 0, 1) := by decide +kernel
theorem dX8_isName_58 : decode cX8_isName 58 = .ok (.ireturn, 1) := by decide +kernel
theorem dX9_init_0 : decode cX9_init 0 = .ok (.aload_n 0, 1) := by decide +kernel
theorem dX9_init_1 : decode cX9_init 1 = .ok (.invokespecial 1, 3) := by decide +kernel
theorem dX9_init_4 : decode cX9_init 4 = .ok (.aload_n 0, 1) := by decide +kernel
theorem dX9_init_5 : decode cX9_init 5 = .ok (.bipush 6, 2) := by decide +kernel
theorem dX9_init_7 : decode cX9_init 7 = .ok (.newarray .int, 2) := by decide +kernel
theorem dX9_init_9 : decode cX9_init 9 = .ok (.putfield 9, 3) := by decide +kernel
theorem dX9_init_12 : decode cX9_init 12 = .ok (.aload_n 0, 1) := by decide +kernel
theorem dX9_init_13 : decode cX9_init 13 = .ok (.bipush 6, 2) := by decide +kernel
theorem dX9_init_15 : decode cX9_init 15 = .ok (.newarray .int, 2) := by decide +kernel
theorem dX9_init_17 : decode cX9_init 17 = .ok (.putfield 13, 3) := by decide +kernel
theorem dX9_init_20 : decode cX9_init 20 = .ok (.aload_n 0, 1) := by decide +kernel
theorem dX9_init_21 : decode cX9_init 21 = .ok (.bipush 7, 2) := by decide +kernel
theorem dX9_init_23 : decode cX9_init 23 = .ok (.newarray .int, 2) := by decide +kernel
theorem dX9_init_25 : decode cX9_init 25 = .ok (.putfield 16, 3) := by decide +kernel
theorem dX9_init_28 : decode cX9_init 28 = .ok (.aload_n 0, 1) := by decide +kernel
theorem dX9_init_29 : decode cX9_init 29 = .ok (.bipush 7, 2) := by decide +kernel
theorem dX9_init_31 : decode cX9_init 31 = .ok (.newarray .int, 2) := by decide +kernel
theorem dX9_init_33 : decode cX9_init 33 = .ok (.putfield 19, 3) := by decide +kernel
theorem dX9_init_36 : decode cX9_init 36 = .ok (.aload_n 0, 1) := by decide +kernel
theorem dX9_init_37 : decode cX9_init 37 = .ok (.bipush 7, 2) := by decide +kernel
theorem dX9_init_39 : decode cX9_init 39 = .ok (.newarray .int, 2) := by decide +kernel
theorem dX9_init_41 : decode cX9_init 41 = .ok (.putfield 22, 3) := by decide +kernel
theorem dX9_init_44 : decode cX9_init 44 = .ok (.aload_n 0, 1) := by decide +kernel
theorem dX9_init_45 : decode cX9_init 45 = .ok (.bipush 7, 2) := by decide +kernel
theorem dX9_init_47 : decode cX9_init 47 = .ok (.newarray .int, 2) := by decide +kernel
theorem dX9_init_49 : decode cX9_init 49 = .ok (.putfield 25, 3) := by decide +kernel
theorem dX9_init_52 : decode cX9_init 52 = .ok (.aload_n 0, 1) := by decide +kernel
theorem dX9_init_53 : decode cX9_init 53 = .ok (.bipush 7, 2) := by decide +kernel
theorem dX9_init_55 : decode cX9_init 55 = .ok (.newarray .int, 2) := by decide +kernel
theorem dX9_init_57 : decode cX9_init 57 = .ok (.putfield 28, 3) := by decide +kernel
theorem dX9_init_60 : decode cX9_init 60 = .ok (.aload_n 0, 1) := by decide +kernel
theorem dX9_init_61 : decode cX9_init 61 = .ok (.bipush 7, 2) := by decide +kernel
theorem dX9_init_63 : decode cX9_init 63 = .ok (.newarray .int, 2) := by decide +kernel
theorem dX9_init_65 : decode cX9_init 65 = .ok (.putfield 31, 3) := by decide +kernel
theorem dX9_init_68 : decode cX9_init 68 = .ok (.aload_n 0, 1) := by decide +kernel
theorem dX9_init_69 : decode cX9_init 69 = .ok (.bipush 7, 2) := by decide +kernel
theorem dX9_init_71 : decode cX9_init 71 = .ok (.newarray .int, 2) := by decide +kernel
theorem dX9_init_73 : decode cX9_init 73 = .ok (.putfield 34, 3) := by decide +kernel
theorem dX9_init_76 : decode cX9_init 76 = .ok (.aload_n 0, 1) := by decide +kernel
theorem dX9_init_77 : decode cX9_init 77 = .ok (.new 37, 3) := by decide +kernel
theorem dX9_init_80 : decode cX9_init 80 = .ok (.dup, 1) := by decide +kernel
theorem dX9_init_81 : decode cX9_init 81 = .ok (.invokespecial 39, 3) := by decide +kernel
theorem dX9_init_84 : decode cX9_init 84 = .ok (.putfield 40, 3) := by decide +kernel
theorem dX9_init_87 : decode cX9_init 87 = .ok (.return_, 1) := by decide +kernel
theorem dX9_clear_0 : decode cX9_clear 0 = .ok (.aload_n 0, 1) := by decide +kernel
theorem dX9_clear_1 : decode cX9_clear 1 = .ok (.iconst 0, 1) := by decide +kernel
theorem dX9_clear_2 : decode cX9_clear 2 = .ok (.putfield 44, 3) := by decide +kernel
theorem dX9_clear_5 : decode cX9_clear 5 = .ok (.aload_n 0, 1) := by decide +kernel
theorem dX9_clear_6 : decode cX9_clear 6 = .ok (.iconst 0, 1) := by decide +kernel
theorem dX9_clear_7 : decode cX9_clear 7 = .ok (.putfield 48, 3) := by decide +kernel
theorem dX9_clear_10 : decode cX9_clear 10 = .ok (.aload_n 0, 1) := by decide +kernel
theorem dX9_clear_11 : decode cX9_clear 11 = .ok (.iconst 0, 1) := by decide +kernel
theorem dX9_clear_12 : decode cX9_clear 12 = .ok (.putfield 51, 3) := by decide +kernel
theorem dX9_clear_15 : decode cX9_clear 15 = .ok (.aload_n 0, 1) := by decide +kernel
theorem dX9_clear_16 : decode cX9_clear 16 = .ok (.iconst 0, 1) := by decide +kernel
theorem dX9_clear_17 : decode cX9_clear 17 = .ok (.putfield 54, 3) := by decide +kernel
theorem dX9_clear_20 : decode cX9_clear 20 = .ok (.aload_n 0, 1) := by decide +kernel
theorem dX9_clear_21 : decode cX9_clear 21 = .ok (.iconst 0, 1) := by decide +kernel
theorem dX9_clear_22 : decode cX9_clear 22 = .ok (.putfield 57, 3) := by decide +kernel
theorem dX9_clear_25 : decode cX9_clear 25 = .ok (.aload_n 0, 1) := by decide +kernel
theorem dX9_clear_26 : decode cX9_clear 26 = .ok (.getfield 40, 3) := by decide +kernel
theorem dX9_clear_29 : decode cX9_clear 29 = .ok (.invokevirtual 60, 3) := by decide +kernel
theorem dX9_clear_32 : decode cX9_clear 32 = .ok (.return_, 1) := by decide +kernel
theorem dX9_settle_0 : decode cX9_settle 0 = .ok (.iconst 0, 1) := by decide +kernel
theorem dX9_settle_1 : decode cX9_settle 1 = .ok (.istore_n 1, 1) := by decide +kernel
theorem dX9_settle_2 : decode cX9_settle 2 = .ok (.iload_n 1, 1) := by decide +kernel
theorem dX9_settle_3 : decode cX9_settle 3 = .ok (.aload_n 0, 1) := by decide +kernel
theorem dX9_settle_4 : decode cX9_settle 4 = .ok (.getfield 57, 3) := by decide +kernel
theorem dX9_settle_7 : decode cX9_settle 7 = .ok (.if_icmp .ge 66, 3) := by decide +kernel
theorem dX9_settle_10 : decode cX9_settle 10 = .ok (.aload_n 0, 1) := by decide +kernel
theorem dX9_settle_11 : decode cX9_settle 11 = .ok (.getfield 31, 3) := by decide +kernel
theorem dX9_settle_14 : decode cX9_settle 14 = .ok (.iload_n 1, 1) := by decide +kernel
theorem dX9_settle_15 : decode cX9_settle 15 = .ok (.aload_n 0, 1) := by decide +kernel
theorem dX9_settle_16 : decode cX9_settle 16 = .ok (.getfield 16, 3) := by decide +kernel
theorem dX9_settle_19 : decode cX9_settle 19 = .ok (.iload_n 1, 1) := by decide +kernel
theorem dX9_settle_20 : decode cX9_settle 20 = .ok (.iaload, 1) := by decide +kernel
theorem dX9_settle_21 : decode cX9_settle 21 = .ok (.iconst 3, 1) := by decide +kernel
theorem dX9_settle_22 : decode cX9_settle 22 = .ok (.if_icmp .ne 16, 3) := by decide +kernel
theorem dX9_settle_25 : decode cX9_settle 25 = .ok (.aload_n 0, 1) := by decide +kernel
theorem dX9_settle_26 : decode cX9_settle 26 = .ok (.aload_n 0, 1) := by decide +kernel
theorem dX9_settle_27 : decode cX9_settle 27 = .ok (.getfield 22, 3) := by decide +kernel
theorem dX9_settle_30 : decode cX9_settle 30 = .ok (.iload_n 1, 1) := by decide +kernel
theorem dX9_settle_31 : decode cX9_settle 31 = .ok (.iaload, 1) := by decide +kernel
theorem dX9_settle_32 : decode cX9_settle 32 = .ok (.invokevirtual 63, 3) := by decide +kernel
theorem dX9_settle_35 : decode cX9_settle 35 = .ok (.goto 9, 3) := by decide +kernel
theorem dX9_settle_38 : decode cX9_settle 38 = .ok (.aload_n 0, 1) := by decide +kernel
theorem dX9_settle_39 : decode cX9_settle 39 = .ok (.getfield 22, 3) := by decide +kernel
theorem dX9_settle_42 : decode cX9_settle 42 = .ok (.iload_n 1, 1) := by decide +kernel
theorem dX9_settle_43 : decode cX9_settle 43 = .ok (.iaload, 1) := by decide +kernel
theorem dX9_settle_44 : decode cX9_settle 44 = .ok (.iastore, 1) := by decide +kernel
theorem dX9_settle_45 : decode cX9_settle 45 = .ok (.aload_n 0, 1) := by decide +kernel
theorem dX9_settle_46 : decode cX9_settle 46 = .ok (.getfield 34, 3) := by decide +kernel
theorem dX9_settle_49 : decode cX9_settle 49 = .ok (.iload_n 1, 1) := by decide +kernel
theorem dX9_settle_50 : decode cX9_settle 50 = .ok (.aload_n 0, 1) := by decide +kernel
theorem dX9_settle_51 : decode cX9_settle 51 = .ok (.aload_n 0, 1) := by decide +kernel
theorem dX9_settle_52 : decode cX9_settle 52 = .ok (.getfield 19, 3) := by decide +kernel
theorem dX9_settle_55 : decode cX9_settle 55 = .ok (.iload_n 1, 1) := by decide +kernel
theorem dX9_settle_56 : decode cX9_settle 56 = .ok (.iaload, 1) := by decide +kernel
theorem dX9_settle_57 : decode cX9_settle 57 = .ok (.aload_n 0, 1) := by decide +kernel
theorem dX9_settle_58 : decode cX9_settle 58 = .ok (.getfield 31, 3) := by decide +kernel
theorem dX9_settle_61 : decode cX9_settle 61 = .ok (.iload_n 1, 1) := by decide +kernel
theorem dX9_settle_62 : decode cX9_settle 62 = .ok (.iaload, 1) := by decide +kernel
theorem dX9_settle_63 : decode cX9_settle 63 = .ok (.invokevirtual 67, 3) := by decide +kernel
theorem dX9_settle_66 : decode cX9_settle 66 = .ok (.iastore, 1) := by decide +kernel
theorem dX9_settle_67 : decode cX9_settle 67 = .ok (.iinc 1 1, 3) := by decide +kernel
theorem dX9_settle_70 : decode cX9_settle 70 = .ok (.goto (-68), 3) := by decide +kernel
theorem dX9_settle_73 : decode cX9_settle 73 = .ok (.aload_n 0, 1) := by decide +kernel
theorem dX9_settle_74 : decode cX9_settle 74 = .ok (.getfield 40, 3) := by decide +kernel
theorem dX9_settle_77 : decode cX9_settle 77 = .ok (.aload_n 0, 1) := by decide +kernel
theorem dX9_settle_78 : decode cX9_settle 78 = .ok (.invokevirtual 71, 3) := by decide +kernel
theorem dX9_settle_81 : decode cX9_settle 81 = .ok (.return_, 1) := by decide +kernel
theorem dX9_needBy_0 : decode cX9_needBy 0 = .ok (.iload_n 0, 1) := by decide +kernel
theorem dX9_needBy_1 : decode cX9_needBy 1 = .ok (.iconst 1, 1) := by decide +kernel
theorem dX9_needBy_2 : decode cX9_needBy 2 = .ok (.if_icmp .ne 9, 3) := by decide +kernel
theorem dX9_needBy_5 : decode cX9_needBy 5 = .ok (.iload_n 1, 1) := by decide +kernel
theorem dX9_needBy_6 : decode cX9_needBy 6 = .ok (.iconst 1, 1) := by decide +kernel
theorem dX9_needBy_7 : decode cX9_needBy 7 = .ok (.iadd, 1) := by decide +kernel
theorem dX9_needBy_8 : decode cX9_needBy 8 = .ok (.iconst 2, 1) := by decide +kernel
theorem dX9_needBy_9 : decode cX9_needBy 9 = .ok (.idiv, 1) := by decide +kernel
theorem dX9_needBy_10 : decode cX9_needBy 10 = .ok (.ireturn, 1) := by decide +kernel
theorem dX9_needBy_11 : decode cX9_needBy 11 = .ok (.iload_n 0, 1) := by decide +kernel
theorem dX9_needBy_12 : decode cX9_needBy 12 = .ok (.iconst 2, 1) := by decide +kernel
theorem dX9_needBy_13 : decode cX9_needBy 13 = .ok (.if_icmp .ne 9, 3) := by decide +kernel
theorem dX9_needBy_16 : decode cX9_needBy 16 = .ok (.iconst 2, 1) := by decide +kernel
theorem dX9_needBy_17 : decode cX9_needBy 17 = .ok (.iload_n 1, 1) := by decide +kernel
theorem dX9_needBy_18 : decode cX9_needBy 18 = .ok (.imul, 1) := by decide +kernel
theorem dX9_needBy_19 : decode cX9_needBy 19 = .ok (.goto 4, 3) := by decide +kernel
theorem dX9_needBy_22 : decode cX9_needBy 22 = .ok (.iload_n 1, 1) := by decide +kernel
theorem dX9_needBy_23 : decode cX9_needBy 23 = .ok (.ireturn, 1) := by decide +kernel
theorem dX9_distance_0 : decode cX9_distance 0 = .ok (.aload_n 0, 1) := by decide +kernel
theorem dX9_distance_1 : decode cX9_distance 1 = .ok (.getfield 9, 3) := by decide +kernel
theorem dX9_distance_4 : decode cX9_distance 4 = .ok (.iload_n 1, 1) := by decide +kernel
theorem dX9_distance_5 : decode cX9_distance 5 = .ok (.iaload, 1) := by decide +kernel
theorem dX9_distance_6 : decode cX9_distance 6 = .ok (.aload_n 0, 1) := by decide +kernel
theorem dX9_distance_7 : decode cX9_distance 7 = .ok (.getfield 9, 3) := by decide +kernel
theorem dX9_distance_10 : decode cX9_distance 10 = .ok (.iload_n 2, 1) := by decide +kernel
theorem dX9_distance_11 : decode cX9_distance 11 = .ok (.iaload, 1) := by decide +kernel
theorem dX9_distance_12 : decode cX9_distance 12 = .ok (.isub, 1) := by decide +kernel
theorem dX9_distance_13 : decode cX9_distance 13 = .ok (.invokestatic 75, 3) := by decide +kernel
theorem dX9_distance_16 : decode cX9_distance 16 = .ok (.ireturn, 1) := by decide +kernel
theorem dX9_daysApart_0 : decode cX9_daysApart 0 = .ok (.aload_n 0, 1) := by decide +kernel
theorem dX9_daysApart_1 : decode cX9_daysApart 1 = .ok (.getfield 44, 3) := by decide +kernel
theorem dX9_daysApart_4 : decode cX9_daysApart 4 = .ok (.iconst 1, 1) := by decide +kernel
theorem dX9_daysApart_5 : decode cX9_daysApart 5 = .ok (.if_icmp .ge 7, 3) := by decide +kernel
theorem dX9_daysApart_8 : decode cX9_daysApart 8 = .ok (.iconst 0, 1) := by decide +kernel
theorem dX9_daysApart_9 : decode cX9_daysApart 9 = .ok (.goto 21, 3) := by decide +kernel
theorem dX9_daysApart_12 : decode cX9_daysApart 12 = .ok (.aload_n 0, 1) := by decide +kernel
theorem dX9_daysApart_13 : decode cX9_daysApart 13 = .ok (.iload_n 1, 1) := by decide +kernel
theorem dX9_daysApart_14 : decode cX9_daysApart 14 = .ok (.iload_n 2, 1) := by decide +kernel
theorem dX9_daysApart_15 : decode cX9_daysApart 15 = .ok (.invokevirtual 80, 3) := by decide +kernel
theorem dX9_daysApart_18 : decode cX9_daysApart 18 = .ok (.aload_n 0, 1) := by decide +kernel
theorem dX9_daysApart_19 : decode cX9_daysApart 19 = .ok (.getfield 44, 3) := by decide +kernel
theorem dX9_daysApart_22 : decode cX9_daysApart 22 = .ok (.iadd, 1) := by decide +kernel
theorem dX9_daysApart_23 : decode cX9_daysApart 23 = .ok (.iconst 1, 1) := by decide +kernel
theorem dX9_daysApart_24 : decode cX9_daysApart 24 = .ok (.isub, 1) := by decide +kernel
theorem dX9_daysApart_25 : decode cX9_daysApart 25 = .ok (.aload_n 0, 1) := by decide +kernel
theorem dX9_daysApart_26 : decode cX9_daysApart 26 = .ok (.getfield 44, 3) := by decide +kernel
theorem dX9_daysApart_29 : decode cX9_daysApart 29 = .ok (.idiv, 1) := by decide +kernel
theorem dX9_daysApart_30 : decode cX9_daysApart 30 = .ok (.ireturn, 1) := by decide +kernel
theorem dX9_nearestTo_0 : decode cX9_nearestTo 0 = .ok (.iload_n 1, 1) := by decide +kernel
theorem dX9_nearestTo_1 : decode cX9_nearestTo 1 = .ok (.istore_n 2, 1) := by decide +kernel
theorem dX9_nearestTo_2 : decode cX9_nearestTo 2 = .ok (.iconst 0, 1) := by decide +kernel
theorem dX9_nearestTo_3 : decode cX9_nearestTo 3 = .ok (.istore_n 3, 1) := by decide +kernel
theorem dX9_nearestTo_4 : decode cX9_nearestTo 4 = .ok (.iload_n 3, 1) := by decide +kernel
theorem dX9_nearestTo_5 : decode cX9_nearestTo 5 = .ok (.aload_n 0, 1) := by decide +kernel
theorem dX9_nearestTo_6 : decode cX9_nearestTo 6 = .ok (.getfield 54, 3) := by decide +kernel
theorem dX9_nearestTo_9 : decode cX9_nearestTo 9 = .ok (.if_icmp .ge 36, 3) := by decide +kernel
theorem dX9_nearestTo_12 : decode cX9_nearestTo 12 = .ok (.iload_n 3, 1) := by decide +kernel
theorem dX9_nearestTo_13 : decode cX9_nearestTo 13 = .ok (.iload_n 1, 1) := by decide +kernel
theorem dX9_nearestTo_14 : decode cX9_nearestTo 14 = .ok (.if_icmp .eq 25, 3) := by decide +kernel
theorem dX9_nearestTo_17 : decode cX9_nearestTo 17 = .ok (.iload_n 2, 1) := by decide +kernel
theorem dX9_nearestTo_18 : decode cX9_nearestTo 18 = .ok (.iload_n 1, 1) := by decide +kernel
theorem dX9_nearestTo_19 : decode cX9_nearestTo 19 = .ok (.if_icmp .eq 18, 3) := by decide +kernel
theorem dX9_nearestTo_22 : decode cX9_nearestTo 22 = .ok (.aload_n 0, 1) := by decide +kernel
theorem dX9_nearestTo_23 : decode cX9_nearestTo 23 = .ok (.iload_n 3, 1) := by decide +kernel
theorem dX9_nearestTo_24 : decode cX9_nearestTo 24 = .ok (.iload_n 1, 1) := by decide +kernel
theorem dX9_nearestTo_25 : decode cX9_nearestTo 25 = .ok (.invokevirtual 80, 3) := by decide +kernel
theorem dX9_nearestTo_28 : decode cX9_nearestTo 28 = .ok (.aload_n 0, 1) := by decide +kernel
theorem dX9_nearestTo_29 : decode cX9_nearestTo 29 = .ok (.iload_n 2, 1) := by decide +kernel
theorem dX9_nearestTo_30 : decode cX9_nearestTo 30 = .ok (.iload_n 1, 1) := by decide +kernel
theorem dX9_nearestTo_31 : decode cX9_nearestTo 31 = .ok (.invokevirtual 80, 3) := by decide +kernel
theorem dX9_nearestTo_34 : decode cX9_nearestTo 34 = .ok (.if_icmp .ge 5, 3) := by decide +kernel
theorem dX9_nearestTo_37 : decode cX9_nearestTo 37 = .ok (.iload_n 3, 1) := by decide +kernel
theorem dX9_nearestTo_38 : decode cX9_nearestTo 38 = .ok (.istore_n 2, 1) := by decide +kernel
theorem dX9_nearestTo_39 : decode cX9_nearestTo 39 = .ok (.iinc 3 1, 3) := by decide +kernel
theorem dX9_nearestTo_42 : decode cX9_nearestTo 42 = .ok (.goto (-38), 3) := by decide +kernel
theorem dX9_nearestTo_45 : decode cX9_nearestTo 45 = .ok (.iload_n 2, 1) := by decide +kernel
theorem dX9_nearestTo_46 : decode cX9_nearestTo 46 = .ok (.ireturn, 1) := by decide +kernel
theorem dX9_sitsFrom_0 : decode cX9_sitsFrom 0 = .ok (.aload_n 0, 1) := by decide +kernel
theorem dX9_sitsFrom_1 : decode cX9_sitsFrom 1 = .ok (.getfield 25, 3) := by decide +kernel
theorem dX9_sitsFrom_4 : decode cX9_sitsFrom 4 = .ok (.iload_n 1, 1) := by decide +kernel
theorem dX9_sitsFrom_5 : decode cX9_sitsFrom 5 = .ok (.iaload, 1) := by decide +kernel
theorem dX9_sitsFrom_6 : decode cX9_sitsFrom 6 = .ok (.aload_n 0, 1) := by decide +kernel
theorem dX9_sitsFrom_7 : decode cX9_sitsFrom 7 = .ok (.getfield 34, 3) := by decide +kernel
theorem dX9_sitsFrom_10 : decode cX9_sitsFrom 10 = .ok (.iload_n 1, 1) := by decide +kernel
theorem dX9_sitsFrom_11 : decode cX9_sitsFrom 11 = .ok (.iaload, 1) := by decide +kernel
theorem dX9_sitsFrom_12 : decode cX9_sitsFrom 12 = .ok (.iadd, 1) := by decide +kernel
theorem dX9_sitsFrom_13 : decode cX9_sitsFrom 13 = .ok (.ireturn, 1) := by decide +kernel
theorem dX9_sittersIfNoneGoes_0 : decode cX9_sittersIfNoneGoes 0 = .ok (.iconst 0, 1) := by decide +kernel
theorem dX9_sittersIfNoneGoes_1 : decode cX9_sittersIfNoneGoes 1 = .ok (.istore_n 3, 1) := by decide +kernel
theorem dX9_sittersIfNoneGoes_2 : decode cX9_sittersIfNoneGoes 2 = .ok (.iconst 0, 1) := by decide +kernel
theorem dX9_sittersIfNoneGoes_3 : decode cX9_sittersIfNoneGoes 3 = .ok (.istore 4, 2) := by decide +kernel
theorem dX9_sittersIfNoneGoes_5 : decode cX9_sittersIfNoneGoes 5 = .ok (.iload 4, 2) := by decide +kernel
theorem dX9_sittersIfNoneGoes_7 : decode cX9_sittersIfNoneGoes 7 = .ok (.aload_n 0, 1) := by decide +kernel
theorem dX9_sittersIfNoneGoes_8 : decode cX9_sittersIfNoneGoes 8 = .ok (.getfield 57, 3) := by decide +kernel
theorem dX9_sittersIfNoneGoes_11 : decode cX9_sittersIfNoneGoes 11 = .ok (.if_icmp .ge 33, 3) := by decide +kernel
theorem dX9_sittersIfNoneGoes_14 : decode cX9_sittersIfNoneGoes 14 = .ok (.aload_n 0, 1) := by decide +kernel
theorem dX9_sittersIfNoneGoes_15 : decode cX9_sittersIfNoneGoes 15 = .ok (.getfield 31, 3) := by decide +kernel
theorem dX9_sittersIfNoneGoes_18 : decode cX9_sittersIfNoneGoes 18 = .ok (.iload 4, 2) := by decide +kernel
theorem dX9_sittersIfNoneGoes_20 : decode cX9_sittersIfNoneGoes 20 = .ok (.iaload, 1) := by decide +kernel
theorem dX9_sittersIfNoneGoes_21 : decode cX9_sittersIfNoneGoes 21 = .ok (.iload_n 1, 1) := by decide +kernel
theorem dX9_sittersIfNoneGoes_22 : decode cX9_sittersIfNoneGoes 22 = .ok (.if_icmp .ne 16, 3) := by decide +kernel
theorem dX9_sittersIfNoneGoes_25 : decode cX9_sittersIfNoneGoes 25 = .ok (.aload_n 0, 1) := by decide +kernel
theorem dX9_sittersIfNoneGoes_26 : decode cX9_sittersIfNoneGoes 26 = .ok (.iload 4, 2) := by decide +kernel
theorem dX9_sittersIfNoneGoes_28 : decode cX9_sittersIfNoneGoes 28 = .ok (.invokevirtual 83, 3) := by decide +kernel
theorem dX9_sittersIfNoneGoes_31 : decode cX9_sittersIfNoneGoes 31 = .ok (.iload_n 2, 1) := by decide +kernel
theorem dX9_sittersIfNoneGoes_32 : decode cX9_sittersIfNoneGoes 32 = .ok (.if_icmp .gt 6, 3) := by decide +kernel
theorem dX9_sittersIfNoneGoes_35 : decode cX9_sittersIfNoneGoes 35 = .ok (.iinc 3 1, 3) := by decide +kernel
theorem dX9_sittersIfNoneGoes_38 : decode cX9_sittersIfNoneGoes 38 = .ok (.iinc 4 1, 3) := by decide +kernel
theorem dX9_sittersIfNoneGoes_41 : decode cX9_sittersIfNoneGoes 41 = .ok (.goto (-36), 3) := by decide +kernel
theorem dX9_sittersIfNoneGoes_44 : decode cX9_sittersIfNoneGoes 44 = .ok (.iload_n 3, 1) := by decide +kernel
theorem dX9_sittersIfNoneGoes_45 : decode cX9_sittersIfNoneGoes 45 = .ok (.ireturn, 1) := by decide +kernel
theorem dX10_init_0 : decode cX10_init 0 = .ok (.aload_n 0, 1) := by decide +kernel
theorem dX10_init_1 : decode cX10_init 1 = .ok (.invokespecial 1, 3) := by decide +kernel
theorem dX10_init_4 : decode cX10_init 4 = .ok (.aload_n 0, 1) := by decide +kernel
theorem dX10_init_5 : decode cX10_init 5 = .ok (.new 7, 3) := by decide +kernel
theorem dX10_init_8 : decode cX10_init 8 = .ok (.dup, 1) := by decide +kernel
theorem dX10_init_9 : decode cX10_init 9 = .ok (.invokespecial 9, 3) := by decide +kernel
theorem dX10_init_12 : decode cX10_init 12 = .ok (.putfield 10, 3) := by decide +kernel
theorem dX10_init_15 : decode cX10_init 15 = .ok (.aload_n 0, 1) := by decide +kernel
theorem dX10_init_16 : decode cX10_init 16 = .ok (.new 16, 3) := by decide +kernel
theorem dX10_init_19 : decode cX10_init 19 = .ok (.dup, 1) := by decide +kernel
theorem dX10_init_20 : decode cX10_init 20 = .ok (.invokespecial 18, 3) := by decide +kernel
theorem dX10_init_23 : decode cX10_init 23 = .ok (.putfield 19, 3) := by decide +kernel
theorem dX10_init_26 : decode cX10_init 26 = .ok (.aload_n 0, 1) := by decide +kernel
theorem dX10_init_27 : decode cX10_init 27 = .ok (.new 23, 3) := by decide +kernel
theorem dX10_init_30 : decode cX10_init 30 = .ok (.dup, 1) := by decide +kernel
theorem dX10_init_31 : decode cX10_init 31 = .ok (.invokespecial 25, 3) := by decide +kernel
theorem dX10_init_34 : decode cX10_init 34 = .ok (.putfield 26, 3) := by decide +kernel
theorem dX10_init_37 : decode cX10_init 37 = .ok (.aload_n 0, 1) := by decide +kernel
theorem dX10_init_38 : decode cX10_init 38 = .ok (.new 30, 3) := by decide +kernel
theorem dX10_init_41 : decode cX10_init 41 = .ok (.dup, 1) := by decide +kernel
theorem dX10_init_42 : decode cX10_init 42 = .ok (.invokespecial 32, 3) := by decide +kernel
theorem dX10_init_45 : decode cX10_init 45 = .ok (.putfield 33, 3) := by decide +kernel
theorem dX10_init_48 : decode cX10_init 48 = .ok (.aload_n 0, 1) := by decide +kernel
theorem dX10_init_49 : decode cX10_init 49 = .ok (.new 37, 3) := by decide +kernel
theorem dX10_init_52 : decode cX10_init 52 = .ok (.dup, 1) := by decide +kernel
theorem dX10_init_53 : decode cX10_init 53 = .ok (.invokespecial 39, 3) := by decide +kernel
theorem dX10_init_56 : decode cX10_init 56 = .ok (.putfield 40, 3) := by decide +kernel
theorem dX10_init_59 : decode cX10_init 59 = .ok (.aload_n 0, 1) := by decide +kernel
theorem dX10_init_60 : decode cX10_init 60 = .ok (.new 44, 3) := by decide +kernel
theorem dX10_init_63 : decode cX10_init 63 = .ok (.dup, 1) := by decide +kernel
theorem dX10_init_64 : decode cX10_init 64 = .ok (.invokespecial 46, 3) := by decide +kernel
theorem dX10_init_67 : decode cX10_init 67 = .ok (.putfield 47, 3) := by decide +kernel
theorem dX10_init_70 : decode cX10_init 70 = .ok (.aload_n 0, 1) := by decide +kernel
theorem dX10_init_71 : decode cX10_init 71 = .ok (.new 51, 3) := by decide +kernel
theorem dX10_init_74 : decode cX10_init 74 = .ok (.dup, 1) := by decide +kernel
theorem dX10_init_75 : decode cX10_init 75 = .ok (.invokespecial 53, 3) := by decide +kernel
theorem dX10_init_78 : decode cX10_init 78 = .ok (.putfield 54, 3) := by decide +kernel
theorem dX10_init_81 : decode cX10_init 81 = .ok (.return_, 1) := by decide +kernel
theorem dX10_feed_0 : decode cX10_feed 0 = .ok (.aload_n 0, 1) := by decide +kernel
theorem dX10_feed_1 : decode cX10_feed 1 = .ok (.getfield 10, 3) := by decide +kernel
theorem dX10_feed_4 : decode cX10_feed 4 = .ok (.getfield 58, 3) := by decide +kernel
theorem dX10_feed_7 : decode cX10_feed 7 = .ok (.astore 6, 2) := by decide +kernel
theorem dX10_feed_9 : decode cX10_feed 9 = .ok (.aload 6, 2) := by decide +kernel
theorem dX10_feed_11 : decode cX10_feed 11 = .ok (.getfield 62, 3) := by decide +kernel
theorem dX10_feed_14 : decode cX10_feed 14 = .ok (.bipush 20, 2) := by decide +kernel
theorem dX10_feed_16 : decode cX10_feed 16 = .ok (.iadd, 1) := by decide +kernel
theorem dX10_feed_17 : decode cX10_feed 17 = .ok (.sipush 900, 3) := by decide +kernel
theorem dX10_feed_20 : decode cX10_feed 20 = .ok (.if_icmp .le 5, 3) := by decide +kernel
theorem dX10_feed_23 : decode cX10_feed 23 = .ok (.iconst (-1), 1) := by decide +kernel
theorem dX10_feed_24 : decode cX10_feed 24 = .ok (.ireturn, 1) := by decide +kernel
theorem dX10_feed_25 : decode cX10_feed 25 = .ok (.aload 6, 2) := by decide +kernel
theorem dX10_feed_27 : decode cX10_feed 27 = .ok (.iload_n 1, 1) := by decide +kernel
theorem dX10_feed_28 : decode cX10_feed 28 = .ok (.invokevirtual 68, 3) := by decide +kernel
theorem dX10_feed_31 : decode cX10_feed 31 = .ok (.aload 6, 2) := by decide +kernel
theorem dX10_feed_33 : decode cX10_feed 33 = .ok (.iload_n 2, 1) := by decide +kernel
theorem dX10_feed_34 : decode cX10_feed 34 = .ok (.invokevirtual 68, 3) := by decide +kernel
theorem dX10_feed_37 : decode cX10_feed 37 = .ok (.aload 6, 2) := by decide +kernel
theorem dX10_feed_39 : decode cX10_feed 39 = .ok (.iload_n 3, 1) := by decide +kernel
theorem dX10_feed_40 : decode cX10_feed 40 = .ok (.invokevirtual 68, 3) := by decide +kernel
theorem dX10_feed_43 : decode cX10_feed 43 = .ok (.aload 6, 2) := by decide +kernel
theorem dX10_feed_45 : decode cX10_feed 45 = .ok (.iload 4, 2) := by decide +kernel
theorem dX10_feed_47 : decode cX10_feed 47 = .ok (.invokevirtual 68, 3) := by decide +kernel
theorem dX10_feed_50 : decode cX10_feed 50 = .ok (.aload 6, 2) := by decide +kernel
theorem dX10_feed_52 : decode cX10_feed 52 = .ok (.iload 5, 2) := by decide +kernel
theorem dX10_feed_54 : decode cX10_feed 54 = .ok (.invokevirtual 68, 3) := by decide +kernel
theorem dX10_feed_57 : decode cX10_feed 57 = .ok (.aload 6, 2) := by decide +kernel
theorem dX10_feed_59 : decode cX10_feed 59 = .ok (.getfield 62, 3) := by decide +kernel
theorem dX10_feed_62 : decode cX10_feed 62 = .ok (.ireturn, 1) := by decide +kernel
theorem dX10_loft_0 : decode cX10_loft 0 = .ok (.iload_n 1, 1) := by decide +kernel
theorem dX10_loft_1 : decode cX10_loft 1 = .ok (.ifCond .lt 17, 3) := by decide +kernel
theorem dX10_loft_4 : decode cX10_loft 4 = .ok (.iload_n 1, 1) := by decide +kernel
theorem dX10_loft_5 : decode cX10_loft 5 = .ok (.aload_n 0, 1) := by decide +kernel
theorem dX10_loft_6 : decode cX10_loft 6 = .ok (.getfield 10, 3) := by decide +kernel
theorem dX10_loft_9 : decode cX10_loft 9 = .ok (.getfield 58, 3) := by decide +kernel
theorem dX10_loft_12 : decode cX10_loft 12 = .ok (.getfield 62, 3) := by decide +kernel
theorem dX10_loft_15 : decode cX10_loft 15 = .ok (.if_icmp .le 9, 3) := by decide +kernel
theorem dX10_loft_18 : decode cX10_loft 18 = .ok (.aload_n 0, 1) := by decide +kernel
theorem dX10_loft_19 : decode cX10_loft 19 = .ok (.iconst 2, 1) := by decide +kernel
theorem dX10_loft_20 : decode cX10_loft 20 = .ok (.invokevirtual 72, 3) := by decide +kernel
theorem dX10_loft_23 : decode cX10_loft 23 = .ok (.ireturn, 1) := by decide +kernel
theorem dX10_loft_24 : decode cX10_loft 24 = .ok (.aload_n 0, 1) := by decide +kernel
theorem dX10_loft_25 : decode cX10_loft 25 = .ok (.getfield 10, 3) := by decide +kernel
theorem dX10_loft_28 : decode cX10_loft 28 = .ok (.getfield 58, 3) := by decide +kernel
theorem dX10_loft_31 : decode cX10_loft 31 = .ok (.iconst 0, 1) := by decide +kernel
theorem dX10_loft_32 : decode cX10_loft 32 = .ok (.putfield 62, 3) := by decide +kernel
theorem dX10_loft_35 : decode cX10_loft 35 = .ok (.aload_n 0, 1) := by decide +kernel
theorem dX10_loft_36 : decode cX10_loft 36 = .ok (.getfield 10, 3) := by decide +kernel
theorem dX10_loft_39 : decode cX10_loft 39 = .ok (.iload_n 1, 1) := by decide +kernel
theorem dX10_loft_40 : decode cX10_loft 40 = .ok (.invokevirtual 76, 3) := by decide +kernel
theorem dX10_loft_43 : decode cX10_loft 43 = .ok (.istore_n 2, 1) := by decide +kernel
theorem dX10_loft_44 : decode cX10_loft 44 = .ok (.aload_n 0, 1) := by decide +kernel
theorem dX10_loft_45 : decode cX10_loft 45 = .ok (.aload_n 0, 1) := by decide +kernel
theorem dX10_loft_46 : decode cX10_loft 46 = .ok (.getfield 10, 3) := by decide +kernel
theorem dX10_loft_49 : decode cX10_loft 49 = .ok (.getfield 80, 3) := by decide +kernel
theorem dX10_loft_52 : decode cX10_loft 52 = .ok (.putfield 83, 3) := by decide +kernel
theorem dX10_loft_55 : decode cX10_loft 55 = .ok (.aload_n 0, 1) := by decide +kernel
theorem dX10_loft_56 : decode cX10_loft 56 = .ok (.aload_n 0, 1) := by decide +kernel
theorem dX10_loft_57 : decode cX10_loft 57 = .ok (.getfield 10, 3) := by decide +kernel
theorem dX10_loft_60 : decode cX10_loft 60 = .ok (.getfield 86, 3) := by decide +kernel
theorem dX10_loft_63 : decode cX10_loft 63 = .ok (.putfield 89, 3) := by decide +kernel
theorem dX10_loft_66 : decode cX10_loft 66 = .ok (.iload_n 2, 1) := by decide +kernel
theorem dX10_loft_67 : decode cX10_loft 67 = .ok (.ifCond .ne 9, 3) := by decide +kernel
theorem dX10_loft_70 : decode cX10_loft 70 = .ok (.aload_n 0, 1) := by decide +kernel
theorem dX10_loft_71 : decode cX10_loft 71 = .ok (.iconst 4, 1) := by decide +kernel
theorem dX10_loft_72 : decode cX10_loft 72 = .ok (.invokevirtual 72, 3) := by decide +kernel
theorem dX10_loft_75 : decode cX10_loft 75 = .ok (.ireturn, 1) := by decide +kernel
theorem dX10_loft_76 : decode cX10_loft 76 = .ok (.aload_n 0, 1) := by decide +kernel
theorem dX10_loft_77 : decode cX10_loft 77 = .ok (.getfield 10, 3) := by decide +kernel
theorem dX10_loft_80 : decode cX10_loft 80 = .ok (.getfield 92, 3) := by decide +kernel
theorem dX10_loft_83 : decode cX10_loft 83 = .ok (.astore_n 3, 1) := by decide +kernel
theorem dX10_loft_84 : decode cX10_loft 84 = .ok (.aload_n 0, 1) := by decide +kernel
theorem dX10_loft_85 : decode cX10_loft 85 = .ok (.getfield 10, 3) := by decide +kernel
theorem dX10_loft_88 : decode cX10_loft 88 = .ok (.aload_n 0, 1) := by decide +kernel
theorem dX10_loft_89 : decode cX10_loft 89 = .ok (.getfield 54, 3) := by decide +kernel
theorem dX10_loft_92 : decode cX10_loft 92 = .ok (.putfield 92, 3) := by decide +kernel
theorem dX10_loft_95 : decode cX10_loft 95 = .ok (.aload_n 0, 1) := by decide +kernel
theorem dX10_loft_96 : decode cX10_loft 96 = .ok (.aload_n 3, 1) := by decide +kernel
theorem dX10_loft_97 : decode cX10_loft 97 = .ok (.putfield 54, 3) := by decide +kernel
theorem dX10_loft_100 : decode cX10_loft 100 = .ok (.aload_n 0, 1) := by decide +kernel
theorem dX10_loft_101 : decode cX10_loft 101 = .ok (.getfield 19, 3) := by decide +kernel
theorem dX10_loft_104 : decode cX10_loft 104 = .ok (.aload_n 0, 1) := by decide +kernel
theorem dX10_loft_105 : decode cX10_loft 105 = .ok (.getfield 54, 3) := by decide +kernel
theorem dX10_loft_108 : decode cX10_loft 108 = .ok (.invokevirtual 95, 3) := by decide +kernel
theorem dX10_loft_111 : decode cX10_loft 111 = .ok (.aload_n 0, 1) := by decide +kernel
theorem dX10_loft_112 : decode cX10_loft 112 = .ok (.getfield 26, 3) := by decide +kernel
theorem dX10_loft_115 : decode cX10_loft 115 = .ok (.invokevirtual 99, 3) := by decide +kernel
theorem dX10_loft_118 : decode cX10_loft 118 = .ok (.aload_n 0, 1) := by decide +kernel
theorem dX10_loft_119 : decode cX10_loft 119 = .ok (.aload_n 0, 1) := by decide +kernel
theorem dX10_loft_120 : decode cX10_loft 120 = .ok (.getfield 54, 3) := by decide +kernel
theorem dX10_loft_123 : decode cX10_loft 123 = .ok (.getfield 102, 3) := by decide +kernel
theorem dX10_loft_126 : decode cX10_loft 126 = .ok (.invokevirtual 105, 3) := by decide +kernel
theorem dX10_loft_129 : decode cX10_loft 129 = .ok (.ireturn, 1) := by decide +kernel
theorem dX10_fault_0 : decode cX10_fault 0 = .ok (.aload_n 0, 1) := by decide +kernel
theorem dX10_fault_1 : decode cX10_fault 1 = .ok (.getfield 83, 3) := by decide +kernel
theorem dX10_fault_4 : decode cX10_fault 4 = .ok (.ireturn, 1) := by decide +kernel
theorem dX10_where_0 : decode cX10_where 0 = .ok (.aload_n 0, 1) := by decide +kernel
theorem dX10_where_1 : decode cX10_where 1 = .ok (.getfield 108, 3) := by decide +kernel
theorem dX10_where_4 : decode cX10_where 4 = .ok (.iconst 4, 1) := by decide +kernel
theorem dX10_where_5 : decode cX10_where 5 = .ok (.if_icmp .ne 10, 3) := by decide +kernel
theorem dX10_where_8 : decode cX10_where 8 = .ok (.aload_n 0, 1) := by decide +kernel
theorem dX10_where_9 : decode cX10_where 9 = .ok (.getfield 89, 3) := by decide +kernel
theorem dX10_where_12 : decode cX10_where 12 = .ok (.goto 4, 3) := by decide +kernel
theorem dX10_where_15 : decode cX10_where 15 = .ok (.iconst (-1), 1) := by decide +kernel
theorem dX10_where_16 : decode cX10_where 16 = .ok (.ireturn, 1) := by decide +kernel
theorem dX10_house_0 : decode cX10_house 0 = .ok (.aload_n 0, 1) := by decide +kernel
theorem dX10_house_1 : decode cX10_house 1 = .ok (.iload_n 1, 1) := by decide +kernel
theorem dX10_house_2 : decode cX10_house 2 = .ok (.invokevirtual 111, 3) := by decide +kernel
theorem dX10_house_5 : decode cX10_house 5 = .ok (.ifCond .ne 9, 3) := by decide +kernel
theorem dX10_house_8 : decode cX10_house 8 = .ok (.aload_n 0, 1) := by decide +kernel
theorem dX10_house_9 : decode cX10_house 9 = .ok (.iconst 1, 1) := by decide +kernel
theorem dX10_house_10 : decode cX10_house 10 = .ok (.invokevirtual 72, 3) := by decide +kernel
theorem dX10_house_13 : decode cX10_house 13 = .ok (.ireturn, 1) := by decide +kernel
theorem dX10_house_14 : decode cX10_house 14 = .ok (.iload_n 2, 1) := by decide +kernel
theorem dX10_house_15 : decode cX10_house 15 = .ok (.tableswitch 116 0 4 #[33, 47, 61, 75, 99], 33) := by decide +kernel
theorem dX10_house_48 : decode cX10_house 48 = .ok (.aload_n 0, 1) := by decide +kernel
theorem dX10_house_49 : decode cX10_house 49 = .ok (.aload_n 0, 1) := by decide +kernel
theorem dX10_house_50 : decode cX10_house 50 = .ok (.getfield 54, 3) := by decide +kernel
theorem dX10_house_53 : decode cX10_house 53 = .ok (.getfield 114, 3) := by decide +kernel
theorem dX10_house_56 : decode cX10_house 56 = .ok (.iload_n 1, 1) := by decide +kernel
theorem dX10_house_57 : decode cX10_house 57 = .ok (.iaload, 1) := by decide +kernel
theorem dX10_house_58 : decode cX10_house 58 = .ok (.invokevirtual 105, 3) := by decide +kernel
theorem dX10_house_61 : decode cX10_house 61 = .ok (.ireturn, 1) := by decide +kernel
theorem dX10_house_62 : decode cX10_house 62 = .ok (.aload_n 0, 1) := by decide +kernel
theorem dX10_house_63 : decode cX10_house 63 = .ok (.aload_n 0, 1) := by decide +kernel
