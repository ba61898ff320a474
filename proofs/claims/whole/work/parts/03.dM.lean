theorem dM_init_0 : decode prog_8_method_1_code 0 = .ok (.aload_n 0, 1) := by decide +kernel
theorem dM_init_1 : decode prog_8_method_1_code 1 = .ok (.invokespecial 1, 3) := by decide +kernel
theorem dM_init_4 : decode prog_8_method_1_code 4 = .ok (.aload_n 0, 1) := by decide +kernel
theorem dM_init_5 : decode prog_8_method_1_code 5 = .ok (.bipush 12, 2) := by decide +kernel
theorem dM_init_7 : decode prog_8_method_1_code 7 = .ok (.newarray .int, 2) := by decide +kernel
theorem dM_init_9 : decode prog_8_method_1_code 9 = .ok (.putfield 7, 3) := by decide +kernel
theorem dM_init_12 : decode prog_8_method_1_code 12 = .ok (.aload_n 0, 1) := by decide +kernel
theorem dM_init_13 : decode prog_8_method_1_code 13 = .ok (.bipush 12, 2) := by decide +kernel
theorem dM_init_15 : decode prog_8_method_1_code 15 = .ok (.newarray .int, 2) := by decide +kernel
theorem dM_init_17 : decode prog_8_method_1_code 17 = .ok (.putfield 13, 3) := by decide +kernel
theorem dM_init_20 : decode prog_8_method_1_code 20 = .ok (.aload_n 0, 1) := by decide +kernel
theorem dM_init_21 : decode prog_8_method_1_code 21 = .ok (.bipush 24, 2) := by decide +kernel
theorem dM_init_23 : decode prog_8_method_1_code 23 = .ok (.newarray .int, 2) := by decide +kernel
theorem dM_init_25 : decode prog_8_method_1_code 25 = .ok (.putfield 16, 3) := by decide +kernel
theorem dM_init_28 : decode prog_8_method_1_code 28 = .ok (.aload_n 0, 1) := by decide +kernel
theorem dM_init_29 : decode prog_8_method_1_code 29 = .ok (.bipush 24, 2) := by decide +kernel
theorem dM_init_31 : decode prog_8_method_1_code 31 = .ok (.newarray .int, 2) := by decide +kernel
theorem dM_init_33 : decode prog_8_method_1_code 33 = .ok (.putfield 19, 3) := by decide +kernel
theorem dM_init_36 : decode prog_8_method_1_code 36 = .ok (.aload_n 0, 1) := by decide +kernel
theorem dM_init_37 : decode prog_8_method_1_code 37 = .ok (.sipush 168, 3) := by decide +kernel
theorem dM_init_40 : decode prog_8_method_1_code 40 = .ok (.newarray .boolean, 2) := by decide +kernel
theorem dM_init_42 : decode prog_8_method_1_code 42 = .ok (.putfield 22, 3) := by decide +kernel
theorem dM_init_45 : decode prog_8_method_1_code 45 = .ok (.aload_n 0, 1) := by decide +kernel
theorem dM_init_46 : decode prog_8_method_1_code 46 = .ok (.sipush 168, 3) := by decide +kernel
theorem dM_init_49 : decode prog_8_method_1_code 49 = .ok (.newarray .int, 2) := by decide +kernel
theorem dM_init_51 : decode prog_8_method_1_code 51 = .ok (.putfield 26, 3) := by decide +kernel
theorem dM_init_54 : decode prog_8_method_1_code 54 = .ok (.aload_n 0, 1) := by decide +kernel
theorem dM_init_55 : decode prog_8_method_1_code 55 = .ok (.bipush 7, 2) := by decide +kernel
theorem dM_init_57 : decode prog_8_method_1_code 57 = .ok (.newarray .int, 2) := by decide +kernel
theorem dM_init_59 : decode prog_8_method_1_code 59 = .ok (.dup, 1) := by decide +kernel
theorem dM_init_60 : decode prog_8_method_1_code 60 = .ok (.iconst 0, 1) := by decide +kernel
theorem dM_init_61 : decode prog_8_method_1_code 61 = .ok (.iconst 0, 1) := by decide +kernel
theorem dM_init_62 : decode prog_8_method_1_code 62 = .ok (.iastore, 1) := by decide +kernel
theorem dM_init_63 : decode prog_8_method_1_code 63 = .ok (.dup, 1) := by decide +kernel
theorem dM_init_64 : decode prog_8_method_1_code 64 = .ok (.iconst 1, 1) := by decide +kernel
theorem dM_init_65 : decode prog_8_method_1_code 65 = .ok (.iconst 0, 1) := by decide +kernel
theorem dM_init_66 : decode prog_8_method_1_code 66 = .ok (.iastore, 1) := by decide +kernel
theorem dM_init_67 : decode prog_8_method_1_code 67 = .ok (.dup, 1) := by decide +kernel
theorem dM_init_68 : decode prog_8_method_1_code 68 = .ok (.iconst 2, 1) := by decide +kernel
theorem dM_init_69 : decode prog_8_method_1_code 69 = .ok (.bipush 8, 2) := by decide +kernel
theorem dM_init_71 : decode prog_8_method_1_code 71 = .ok (.iastore, 1) := by decide +kernel
theorem dM_init_72 : decode prog_8_method_1_code 72 = .ok (.dup, 1) := by decide +kernel
theorem dM_init_73 : decode prog_8_method_1_code 73 = .ok (.iconst 3, 1) := by decide +kernel
theorem dM_init_74 : decode prog_8_method_1_code 74 = .ok (.iconst 4, 1) := by decide +kernel
theorem dM_init_75 : decode prog_8_method_1_code 75 = .ok (.iastore, 1) := by decide +kernel
theorem dM_init_76 : decode prog_8_method_1_code 76 = .ok (.dup, 1) := by decide +kernel
theorem dM_init_77 : decode prog_8_method_1_code 77 = .ok (.iconst 4, 1) := by decide +kernel
theorem dM_init_78 : decode prog_8_method_1_code 78 = .ok (.ldc 29, 2) := by decide +kernel
theorem dM_init_80 : decode prog_8_method_1_code 80 = .ok (.iastore, 1) := by decide +kernel
theorem dM_init_81 : decode prog_8_method_1_code 81 = .ok (.dup, 1) := by decide +kernel
theorem dM_init_82 : decode prog_8_method_1_code 82 = .ok (.iconst 5, 1) := by decide +kernel
theorem dM_init_83 : decode prog_8_method_1_code 83 = .ok (.sipush 255, 3) := by decide +kernel
theorem dM_init_86 : decode prog_8_method_1_code 86 = .ok (.iastore, 1) := by decide +kernel
theorem dM_init_87 : decode prog_8_method_1_code 87 = .ok (.dup, 1) := by decide +kernel
theorem dM_init_88 : decode prog_8_method_1_code 88 = .ok (.bipush 6, 2) := by decide +kernel
theorem dM_init_90 : decode prog_8_method_1_code 90 = .ok (.iconst 4, 1) := by decide +kernel
theorem dM_init_91 : decode prog_8_method_1_code 91 = .ok (.iastore, 1) := by decide +kernel
theorem dM_init_92 : decode prog_8_method_1_code 92 = .ok (.putfield 30, 3) := by decide +kernel
theorem dM_init_95 : decode prog_8_method_1_code 95 = .ok (.aload_n 0, 1) := by decide +kernel
theorem dM_init_96 : decode prog_8_method_1_code 96 = .ok (.bipush 24, 2) := by decide +kernel
theorem dM_init_98 : decode prog_8_method_1_code 98 = .ok (.newarray .int, 2) := by decide +kernel
theorem dM_init_100 : decode prog_8_method_1_code 100 = .ok (.putfield 33, 3) := by decide +kernel
theorem dM_init_103 : decode prog_8_method_1_code 103 = .ok (.aload_n 0, 1) := by decide +kernel
theorem dM_init_104 : decode prog_8_method_1_code 104 = .ok (.bipush 96, 2) := by decide +kernel
theorem dM_init_106 : decode prog_8_method_1_code 106 = .ok (.newarray .int, 2) := by decide +kernel
theorem dM_init_108 : decode prog_8_method_1_code 108 = .ok (.putfield 36, 3) := by decide +kernel
theorem dM_init_111 : decode prog_8_method_1_code 111 = .ok (.aload_n 0, 1) := by decide +kernel
theorem dM_init_112 : decode prog_8_method_1_code 112 = .ok (.bipush 96, 2) := by decide +kernel
theorem dM_init_114 : decode prog_8_method_1_code 114 = .ok (.newarray .int, 2) := by decide +kernel
theorem dM_init_116 : decode prog_8_method_1_code 116 = .ok (.putfield 39, 3) := by decide +kernel
theorem dM_init_119 : decode prog_8_method_1_code 119 = .ok (.aload_n 0, 1) := by decide +kernel
theorem dM_init_120 : decode prog_8_method_1_code 120 = .ok (.sipush 384, 3) := by decide +kernel
theorem dM_init_123 : decode prog_8_method_1_code 123 = .ok (.newarray .int, 2) := by decide +kernel
theorem dM_init_125 : decode prog_8_method_1_code 125 = .ok (.putfield 42, 3) := by decide +kernel
theorem dM_init_128 : decode prog_8_method_1_code 128 = .ok (.aload_n 0, 1) := by decide +kernel
theorem dM_init_129 : decode prog_8_method_1_code 129 = .ok (.bipush 24, 2) := by decide +kernel
theorem dM_init_131 : decode prog_8_method_1_code 131 = .ok (.newarray .int, 2) := by decide +kernel
theorem dM_init_133 : decode prog_8_method_1_code 133 = .ok (.putfield 45, 3) := by decide +kernel
theorem dM_init_136 : decode prog_8_method_1_code 136 = .ok (.aload_n 0, 1) := by decide +kernel
theorem dM_init_137 : decode prog_8_method_1_code 137 = .ok (.bipush 24, 2) := by decide +kernel
theorem dM_init_139 : decode prog_8_method_1_code 139 = .ok (.newarray .int, 2) := by decide +kernel
theorem dM_init_141 : decode prog_8_method_1_code 141 = .ok (.putfield 48, 3) := by decide +kernel
theorem dM_init_144 : decode prog_8_method_1_code 144 = .ok (.aload_n 0, 1) := by decide +kernel
theorem dM_init_145 : decode prog_8_method_1_code 145 = .ok (.bipush 24, 2) := by decide +kernel
theorem dM_init_147 : decode prog_8_method_1_code 147 = .ok (.newarray .int, 2) := by decide +kernel
theorem dM_init_149 : decode prog_8_method_1_code 149 = .ok (.putfield 51, 3) := by decide +kernel
theorem dM_init_152 : decode prog_8_method_1_code 152 = .ok (.aload_n 0, 1) := by decide +kernel
theorem dM_init_153 : decode prog_8_method_1_code 153 = .ok (.bipush 24, 2) := by decide +kernel
theorem dM_init_155 : decode prog_8_method_1_code 155 = .ok (.newarray .int, 2) := by decide +kernel
theorem dM_init_157 : decode prog_8_method_1_code 157 = .ok (.putfield 54, 3) := by decide +kernel
theorem dM_init_160 : decode prog_8_method_1_code 160 = .ok (.aload_n 0, 1) := by decide +kernel
theorem dM_init_161 : decode prog_8_method_1_code 161 = .ok (.bipush 24, 2) := by decide +kernel
theorem dM_init_163 : decode prog_8_method_1_code 163 = .ok (.newarray .int, 2) := by decide +kernel
theorem dM_init_165 : decode prog_8_method_1_code 165 = .ok (.putfield 57, 3) := by decide +kernel
theorem dM_init_168 : decode prog_8_method_1_code 168 = .ok (.aload_n 0, 1) := by decide +kernel
theorem dM_init_169 : decode prog_8_method_1_code 169 = .ok (.bipush 24, 2) := by decide +kernel
theorem dM_init_171 : decode prog_8_method_1_code 171 = .ok (.newarray .int, 2) := by decide +kernel
theorem dM_init_173 : decode prog_8_method_1_code 173 = .ok (.putfield 60, 3) := by decide +kernel
theorem dM_init_176 : decode prog_8_method_1_code 176 = .ok (.aload_n 0, 1) := by decide +kernel
theorem dM_init_177 : decode prog_8_method_1_code 177 = .ok (.bipush 16, 2) := by decide +kernel
theorem dM_init_179 : decode prog_8_method_1_code 179 = .ok (.newarray .int, 2) := by decide +kernel
theorem dM_init_181 : decode prog_8_method_1_code 181 = .ok (.putfield 63, 3) := by decide +kernel
theorem dM_init_184 : decode prog_8_method_1_code 184 = .ok (.aload_n 0, 1) := by decide +kernel
theorem dM_init_185 : decode prog_8_method_1_code 185 = .ok (.bipush 16, 2) := by decide +kernel
theorem dM_init_187 : decode prog_8_method_1_code 187 = .ok (.newarray .int, 2) := by decide +kernel
theorem dM_init_189 : decode prog_8_method_1_code 189 = .ok (.putfield 66, 3) := by decide +kernel
theorem dM_init_192 : decode prog_8_method_1_code 192 = .ok (.aload_n 0, 1) := by decide +kernel
theorem dM_init_193 : decode prog_8_method_1_code 193 = .ok (.bipush 16, 2) := by decide +kernel
theorem dM_init_195 : decode prog_8_method_1_code 195 = .ok (.newarray .int, 2) := by decide +kernel
theorem dM_init_197 : decode prog_8_method_1_code 197 = .ok (.putfield 69, 3) := by decide +kernel
theorem dM_init_200 : decode prog_8_method_1_code 200 = .ok (.aload_n 0, 1) := by decide +kernel
theorem dM_init_201 : decode prog_8_method_1_code 201 = .ok (.bipush 16, 2) := by decide +kernel
theorem dM_init_203 : decode prog_8_method_1_code 203 = .ok (.newarray .int, 2) := by decide +kernel
theorem dM_init_205 : decode prog_8_method_1_code 205 = .ok (.putfield 72, 3) := by decide +kernel
theorem dM_init_208 : decode prog_8_method_1_code 208 = .ok (.return_, 1) := by decide +kernel
theorem dM_thrown_0 : decode prog_8_method_2_code 0 = .ok (.aload_n 0, 1) := by decide +kernel
theorem dM_thrown_1 : decode prog_8_method_2_code 1 = .ok (.getfield 75, 3) := by decide +kernel
theorem dM_thrown_4 : decode prog_8_method_2_code 4 = .ok (.ireturn, 1) := by decide +kernel
theorem dM_page_0 : decode prog_8_method_6_code 0 = .ok (.iload_n 1, 1) := by decide +kernel
theorem dM_page_1 : decode prog_8_method_6_code 1 = .ok (.ifCond .ne 16, 3) := by decide +kernel
theorem dM_page_4 : decode prog_8_method_6_code 4 = .ok (.iload_n 2, 1) := by decide +kernel
theorem dM_page_5 : decode prog_8_method_6_code 5 = .ok (.iconst (-1), 1) := by decide +kernel
theorem dM_page_6 : decode prog_8_method_6_code 6 = .ok (.if_icmp .ne 7, 3) := by decide +kernel
theorem dM_page_9 : decode prog_8_method_6_code 9 = .ok (.iconst 1, 1) := by decide +kernel
theorem dM_page_10 : decode prog_8_method_6_code 10 = .ok (.goto 32, 3) := by decide +kernel
theorem dM_page_13 : decode prog_8_method_6_code 13 = .ok (.iconst 0, 1) := by decide +kernel
theorem dM_page_14 : decode prog_8_method_6_code 14 = .ok (.goto 28, 3) := by decide +kernel
theorem dM_page_17 : decode prog_8_method_6_code 17 = .ok (.aload_n 0, 1) := by decide +kernel
theorem dM_page_18 : decode prog_8_method_6_code 18 = .ok (.iload_n 2, 1) := by decide +kernel
theorem dM_page_19 : decode prog_8_method_6_code 19 = .ok (.invokevirtual 85, 3) := by decide +kernel
theorem dM_page_22 : decode prog_8_method_6_code 22 = .ok (.ifCond .ne 19, 3) := by decide +kernel
theorem dM_page_25 : decode prog_8_method_6_code 25 = .ok (.aload_n 0, 1) := by decide +kernel
theorem dM_page_26 : decode prog_8_method_6_code 26 = .ok (.getfield 7, 3) := by decide +kernel
theorem dM_page_29 : decode prog_8_method_6_code 29 = .ok (.iload_n 2, 1) := by decide +kernel
theorem dM_page_30 : decode prog_8_method_6_code 30 = .ok (.iaload, 1) := by decide +kernel
theorem dM_page_31 : decode prog_8_method_6_code 31 = .ok (.iload_n 1, 1) := by decide +kernel
theorem dM_page_32 : decode prog_8_method_6_code 32 = .ok (.iconst 1, 1) := by decide +kernel
theorem dM_page_33 : decode prog_8_method_6_code 33 = .ok (.isub, 1) := by decide +kernel
theorem dM_page_34 : decode prog_8_method_6_code 34 = .ok (.if_icmp .ne 7, 3) := by decide +kernel
theorem dM_page_37 : decode prog_8_method_6_code 37 = .ok (.iconst 1, 1) := by decide +kernel
theorem dM_page_38 : decode prog_8_method_6_code 38 = .ok (.goto 4, 3) := by decide +kernel
theorem dM_page_41 : decode prog_8_method_6_code 41 = .ok (.iconst 0, 1) := by decide +kernel
theorem dM_page_42 : decode prog_8_method_6_code 42 = .ok (.istore_n 3, 1) := by decide +kernel
theorem dM_page_43 : decode prog_8_method_6_code 43 = .ok (.aload_n 0, 1) := by decide +kernel
theorem dM_page_44 : decode prog_8_method_6_code 44 = .ok (.iload_n 1, 1) := by decide +kernel
theorem dM_page_45 : decode prog_8_method_6_code 45 = .ok (.ifCond .lt 8, 3) := by decide +kernel
theorem dM_page_48 : decode prog_8_method_6_code 48 = .ok (.iload_n 1, 1) := by decide +kernel
theorem dM_page_49 : decode prog_8_method_6_code 49 = .ok (.iconst 2, 1) := by decide +kernel
theorem dM_page_50 : decode prog_8_method_6_code 50 = .ok (.if_icmp .le 7, 3) := by decide +kernel
theorem dM_page_53 : decode prog_8_method_6_code 53 = .ok (.iconst 1, 1) := by decide +kernel
theorem dM_page_54 : decode prog_8_method_6_code 54 = .ok (.goto 25, 3) := by decide +kernel
theorem dM_page_57 : decode prog_8_method_6_code 57 = .ok (.iload_n 3, 1) := by decide +kernel
theorem dM_page_58 : decode prog_8_method_6_code 58 = .ok (.ifCond .ne 7, 3) := by decide +kernel
theorem dM_page_61 : decode prog_8_method_6_code 61 = .ok (.iconst 2, 1) := by decide +kernel
theorem dM_page_62 : decode prog_8_method_6_code 62 = .ok (.goto 17, 3) := by decide +kernel
theorem dM_page_65 : decode prog_8_method_6_code 65 = .ok (.aload_n 0, 1) := by decide +kernel
theorem dM_page_66 : decode prog_8_method_6_code 66 = .ok (.getfield 79, 3) := by decide +kernel
theorem dM_page_69 : decode prog_8_method_6_code 69 = .ok (.bipush 12, 2) := by decide +kernel
theorem dM_page_71 : decode prog_8_method_6_code 71 = .ok (.if_icmp .ne 7, 3) := by decide +kernel
theorem dM_page_74 : decode prog_8_method_6_code 74 = .ok (.iconst 3, 1) := by decide +kernel
theorem dM_page_75 : decode prog_8_method_6_code 75 = .ok (.goto 4, 3) := by decide +kernel
theorem dM_page_78 : decode prog_8_method_6_code 78 = .ok (.iconst 0, 1) := by decide +kernel
theorem dM_page_79 : decode prog_8_method_6_code 79 = .ok (.putfield 75, 3) := by decide +kernel
theorem dM_page_82 : decode prog_8_method_6_code 82 = .ok (.aload_n 0, 1) := by decide +kernel
theorem dM_page_83 : decode prog_8_method_6_code 83 = .ok (.getfield 75, 3) := by decide +kernel
theorem dM_page_86 : decode prog_8_method_6_code 86 = .ok (.ifCond .le 5, 3) := by decide +kernel
theorem dM_page_89 : decode prog_8_method_6_code 89 = .ok (.iconst 0, 1) := by decide +kernel
theorem dM_page_90 : decode prog_8_method_6_code 90 = .ok (.ireturn, 1) := by decide +kernel
theorem dM_page_91 : decode prog_8_method_6_code 91 = .ok (.aload_n 0, 1) := by decide +kernel
theorem dM_page_92 : decode prog_8_method_6_code 92 = .ok (.getfield 7, 3) := by decide +kernel
theorem dM_page_95 : decode prog_8_method_6_code 95 = .ok (.aload_n 0, 1) := by decide +kernel
theorem dM_page_96 : decode prog_8_method_6_code 96 = .ok (.getfield 79, 3) := by decide +kernel
theorem dM_page_99 : decode prog_8_method_6_code 99 = .ok (.iload_n 1, 1) := by decide +kernel
theorem dM_page_100 : decode prog_8_method_6_code 100 = .ok (.iastore, 1) := by decide +kernel
theorem dM_page_101 : decode prog_8_method_6_code 101 = .ok (.aload_n 0, 1) := by decide +kernel
theorem dM_page_102 : decode prog_8_method_6_code 102 = .ok (.getfield 13, 3) := by decide +kernel
theorem dM_page_105 : decode prog_8_method_6_code 105 = .ok (.aload_n 0, 1) := by decide +kernel
theorem dM_page_106 : decode prog_8_method_6_code 106 = .ok (.getfield 79, 3) := by decide +kernel
theorem dM_page_109 : decode prog_8_method_6_code 109 = .ok (.iload_n 2, 1) := by decide +kernel
theorem dM_page_110 : decode prog_8_method_6_code 110 = .ok (.iastore, 1) := by decide +kernel
theorem dM_page_111 : decode prog_8_method_6_code 111 = .ok (.aload_n 0, 1) := by decide +kernel
theorem dM_page_112 : decode prog_8_method_6_code 112 = .ok (.dup, 1) := by decide +kernel
theorem dM_page_113 : decode prog_8_method_6_code 113 = .ok (.getfield 79, 3) := by decide +kernel
theorem dM_page_116 : decode prog_8_method_6_code 116 = .ok (.iconst 1, 1) := by decide +kernel
theorem dM_page_117 : decode prog_8_method_6_code 117 = .ok (.iadd, 1) := by decide +kernel
theorem dM_page_118 : decode prog_8_method_6_code 118 = .ok (.putfield 79, 3) := by decide +kernel
theorem dM_page_121 : decode prog_8_method_6_code 121 = .ok (.aload_n 0, 1) := by decide +kernel
theorem dM_page_122 : decode prog_8_method_6_code 122 = .ok (.getfield 79, 3) := by decide +kernel
theorem dM_page_125 : decode prog_8_method_6_code 125 = .ok (.iconst 1, 1) := by decide +kernel
theorem dM_page_126 : decode prog_8_method_6_code 126 = .ok (.isub, 1) := by decide +kernel
theorem dM_page_127 : decode prog_8_method_6_code 127 = .ok (.ireturn, 1) := by decide +kernel
theorem dM_noPage_0 : decode prog_8_method_3_code 0 = .ok (.iload_n 1, 1) := by decide +kernel
theorem dM_noPage_1 : decode prog_8_method_3_code 1 = .ok (.ifCond .lt 11, 3) := by decide +kernel
theorem dM_noPage_4 : decode prog_8_method_3_code 4 = .ok (.iload_n 1, 1) := by decide +kernel
theorem dM_noPage_5 : decode prog_8_method_3_code 5 = .ok (.aload_n 0, 1) := by decide +kernel
theorem dM_noPage_6 : decode prog_8_method_3_code 6 = .ok (.getfield 79, 3) := by decide +kernel
theorem dM_noPage_9 : decode prog_8_method_3_code 9 = .ok (.if_icmp .lt 7, 3) := by decide +kernel
theorem dM_noPage_12 : decode prog_8_method_3_code 12 = .ok (.iconst 1, 1) := by decide +kernel
theorem dM_noPage_13 : decode prog_8_method_3_code 13 = .ok (.goto 4, 3) := by decide +kernel
theorem dM_noPage_16 : decode prog_8_method_3_code 16 = .ok (.iconst 0, 1) := by decide +kernel
theorem dM_noPage_17 : decode prog_8_method_3_code 17 = .ok (.ireturn, 1) := by decide +kernel
theorem dM_shape_0 : decode prog_8_method_8_code 0 = .ok (.aload_n 0, 1) := by decide +kernel
theorem dM_shape_1 : decode prog_8_method_8_code 1 = .ok (.aload_n 0, 1) := by decide +kernel
theorem dM_shape_2 : decode prog_8_method_8_code 2 = .ok (.iload_n 1, 1) := by decide +kernel
theorem dM_shape_3 : decode prog_8_method_8_code 3 = .ok (.invokevirtual 85, 3) := by decide +kernel
theorem dM_shape_6 : decode prog_8_method_8_code 6 = .ok (.ifCond .eq 7, 3) := by decide +kernel
theorem dM_shape_9 : decode prog_8_method_8_code 9 = .ok (.iconst 1, 1) := by decide +kernel
theorem dM_shape_10 : decode prog_8_method_8_code 10 = .ok (.goto 49, 3) := by decide +kernel
theorem dM_shape_13 : decode prog_8_method_8_code 13 = .ok (.iload_n 2, 1) := by decide +kernel
theorem dM_shape_14 : decode prog_8_method_8_code 14 = .ok (.iconst (-1), 1) := by decide +kernel
theorem dM_shape_15 : decode prog_8_method_8_code 15 = .ok (.if_icmp .lt 9, 3) := by decide +kernel
theorem dM_shape_18 : decode prog_8_method_8_code 18 = .ok (.iload_n 2, 1) := by decide +kernel
theorem dM_shape_19 : decode prog_8_method_8_code 19 = .ok (.bipush 7, 2) := by decide +kernel
theorem dM_shape_21 : decode prog_8_method_8_code 21 = .ok (.if_icmp .le 7, 3) := by decide +kernel
theorem dM_shape_24 : decode prog_8_method_8_code 24 = .ok (.iconst 2, 1) := by decide +kernel
theorem dM_shape_25 : decode prog_8_method_8_code 25 = .ok (.goto 34, 3) := by decide +kernel
theorem dM_shape_28 : decode prog_8_method_8_code 28 = .ok (.iload_n 2, 1) := by decide +kernel
theorem dM_shape_29 : decode prog_8_method_8_code 29 = .ok (.ifCond .lt 16, 3) := by decide +kernel
theorem dM_shape_32 : decode prog_8_method_8_code 32 = .ok (.aload_n 0, 1) := by decide +kernel
theorem dM_shape_33 : decode prog_8_method_8_code 33 = .ok (.iload_n 1, 1) := by decide +kernel
theorem dM_shape_34 : decode prog_8_method_8_code 34 = .ok (.iload_n 2, 1) := by decide +kernel
theorem dM_shape_35 : decode prog_8_method_8_code 35 = .ok (.invokevirtual 89, 3) := by decide +kernel
theorem dM_shape_38 : decode prog_8_method_8_code 38 = .ok (.ifCond .lt 7, 3) := by decide +kernel
theorem dM_shape_41 : decode prog_8_method_8_code 41 = .ok (.iconst 3, 1) := by decide +kernel
theorem dM_shape_42 : decode prog_8_method_8_code 42 = .ok (.goto 17, 3) := by decide +kernel
theorem dM_shape_45 : decode prog_8_method_8_code 45 = .ok (.aload_n 0, 1) := by decide +kernel
theorem dM_shape_46 : decode prog_8_method_8_code 46 = .ok (.getfield 82, 3) := by decide +kernel
theorem dM_shape_49 : decode prog_8_method_8_code 49 = .ok (.bipush 24, 2) := by decide +kernel
theorem dM_shape_51 : decode prog_8_method_8_code 51 = .ok (.if_icmp .ne 7, 3) := by decide +kernel
theorem dM_shape_54 : decode prog_8_method_8_code 54 = .ok (.iconst 4, 1) := by decide +kernel
theorem dM_shape_55 : decode prog_8_method_8_code 55 = .ok (.goto 4, 3) := by decide +kernel
theorem dM_shape_58 : decode prog_8_method_8_code 58 = .ok (.iconst 0, 1) := by decide +kernel
theorem dM_shape_59 : decode prog_8_method_8_code 59 = .ok (.putfield 75, 3) := by decide +kernel
theorem dM_shape_62 : decode prog_8_method_8_code 62 = .ok (.aload_n 0, 1) := by decide +kernel
theorem dM_shape_63 : decode prog_8_method_8_code 63 = .ok (.getfield 75, 3) := by decide +kernel
theorem dM_shape_66 : decode prog_8_method_8_code 66 = .ok (.ifCond .le 5, 3) := by decide +kernel
theorem dM_shape_69 : decode prog_8_method_8_code 69 = .ok (.iconst 0, 1) := by decide +kernel
theorem dM_shape_70 : decode prog_8_method_8_code 70 = .ok (.ireturn, 1) := by decide +kernel
theorem dM_shape_71 : decode prog_8_method_8_code 71 = .ok (.aload_n 0, 1) := by decide +kernel
theorem dM_shape_72 : decode prog_8_method_8_code 72 = .ok (.getfield 16, 3) := by decide +kernel
theorem dM_shape_75 : decode prog_8_method_8_code 75 = .ok (.aload_n 0, 1) := by decide +kernel
theorem dM_shape_76 : decode prog_8_method_8_code 76 = .ok (.getfield 82, 3) := by decide +kernel
theorem dM_shape_79 : decode prog_8_method_8_code 79 = .ok (.iload_n 1, 1) := by decide +kernel
theorem dM_shape_80 : decode prog_8_method_8_code 80 = .ok (.iastore, 1) := by decide +kernel
theorem dM_shape_81 : decode prog_8_method_8_code 81 = .ok (.aload_n 0, 1) := by decide +kernel
theorem dM_shape_82 : decode prog_8_method_8_code 82 = .ok (.getfield 19, 3) := by decide +kernel
theorem dM_shape_85 : decode prog_8_method_8_code 85 = .ok (.aload_n 0, 1) := by decide +kernel
theorem dM_shape_86 : decode prog_8_method_8_code 86 = .ok (.getfield 82, 3) := by decide +kernel
theorem dM_shape_89 : decode prog_8_method_8_code 89 = .ok (.iload_n 2, 1) := by decide +kernel
theorem dM_shape_90 : decode prog_8_method_8_code 90 = .ok (.iastore, 1) := by decide +kernel
theorem dM_shape_91 : decode prog_8_method_8_code 91 = .ok (.aload_n 0, 1) := by decide +kernel
theorem dM_shape_92 : decode prog_8_method_8_code 92 = .ok (.getfield 33, 3) := by decide +kernel
theorem dM_shape_95 : decode prog_8_method_8_code 95 = .ok (.aload_n 0, 1) := by decide +kernel
theorem dM_shape_96 : decode prog_8_method_8_code 96 = .ok (.getfield 82, 3) := by decide +kernel
theorem dM_shape_99 : decode prog_8_method_8_code 99 = .ok (.iconst 0, 1) := by decide +kernel
theorem dM_shape_100 : decode prog_8_method_8_code 100 = .ok (.iastore, 1) := by decide +kernel
theorem dM_shape_101 : decode prog_8_method_8_code 101 = .ok (.aload_n 0, 1) := by decide +kernel
theorem dM_shape_102 : decode prog_8_method_8_code 102 = .ok (.dup, 1) := by decide +kernel
theorem dM_shape_103 : decode prog_8_method_8_code 103 = .ok (.getfield 82, 3) := by decide +kernel
theorem dM_shape_106 : decode prog_8_method_8_code 106 = .ok (.iconst 1, 1) := by decide +kernel
theorem dM_shape_107 : decode prog_8_method_8_code 107 = .ok (.iadd, 1) := by decide +kernel
theorem dM_shape_108 : decode prog_8_method_8_code 108 = .ok (.putfield 82, 3) := by decide +kernel
theorem dM_shape_111 : decode prog_8_method_8_code 111 = .ok (.aload_n 0, 1) := by decide +kernel
theorem dM_shape_112 : decode prog_8_method_8_code 112 = .ok (.getfield 82, 3) := by decide +kernel
theorem dM_shape_115 : decode prog_8_method_8_code 115 = .ok (.iconst 1, 1) := by decide +kernel
theorem dM_shape_116 : decode prog_8_method_8_code 116 = .ok (.isub, 1) := by decide +kernel
theorem dM_shape_117 : decode prog_8_method_8_code 117 = .ok (.ireturn, 1) := by decide +kernel
theorem dM_slotted_0 : decode prog_8_method_7_code 0 = .ok (.iconst 0, 1) := by decide +kernel
theorem dM_slotted_1 : decode prog_8_method_7_code 1 = .ok (.istore_n 3, 1) := by decide +kernel
theorem dM_slotted_2 : decode prog_8_method_7_code 2 = .ok (.iload_n 3, 1) := by decide +kernel
theorem dM_slotted_3 : decode prog_8_method_7_code 3 = .ok (.aload_n 0, 1) := by decide +kernel
theorem dM_slotted_4 : decode prog_8_method_7_code 4 = .ok (.getfield 82, 3) := by decide +kernel
theorem dM_slotted_7 : decode prog_8_method_7_code 7 = .ok (.if_icmp .ge 31, 3) := by decide +kernel
theorem dM_slotted_10 : decode prog_8_method_7_code 10 = .ok (.aload_n 0, 1) := by decide +kernel
theorem dM_slotted_11 : decode prog_8_method_7_code 11 = .ok (.getfield 16, 3) := by decide +kernel
theorem dM_slotted_14 : decode prog_8_method_7_code 14 = .ok (.iload_n 3, 1) := by decide +kernel
theorem dM_slotted_15 : decode prog_8_method_7_code 15 = .ok (.iaload, 1) := by decide +kernel
theorem dM_slotted_16 : decode prog_8_method_7_code 16 = .ok (.iload_n 1, 1) := by decide +kernel
theorem dM_slotted_17 : decode prog_8_method_7_code 17 = .ok (.if_icmp .ne 15, 3) := by decide +kernel
theorem dM_slotted_20 : decode prog_8_method_7_code 20 = .ok (.aload_n 0, 1) := by decide +kernel
theorem dM_slotted_21 : decode prog_8_method_7_code 21 = .ok (.getfield 19, 3) := by decide +kernel
theorem dM_slotted_24 : decode prog_8_method_7_code 24 = .ok (.iload_n 3, 1) := by decide +kernel
theorem dM_slotted_25 : decode prog_8_method_7_code 25 = .ok (.iaload, 1) := by decide +kernel
theorem dM_slotted_26 : decode prog_8_method_7_code 26 = .ok (.iload_n 2, 1) := by decide +kernel
theorem dM_slotted_27 : decode prog_8_method_7_code 27 = .ok (.if_icmp .ne 5, 3) := by decide +kernel
theorem dM_slotted_30 : decode prog_8_method_7_code 30 = .ok (.iload_n 3, 1) := by decide +kernel
theorem dM_slotted_31 : decode prog_8_method_7_code 31 = .ok (.ireturn, 1) := by decide +kernel
theorem dM_slotted_32 : decode prog_8_method_7_code 32 = .ok (.iinc 3 1, 3) := by decide +kernel
theorem dM_slotted_35 : decode prog_8_method_7_code 35 = .ok (.goto (-33), 3) := by decide +kernel
theorem dM_slotted_38 : decode prog_8_method_7_code 38 = .ok (.iconst (-1), 1) := by decide +kernel
theorem dM_slotted_39 : decode prog_8_method_7_code 39 = .ok (.ireturn, 1) := by decide +kernel
theorem dM_theme_0 : decode prog_8_method_10_code 0 = .ok (.aload_n 0, 1) := by decide +kernel
theorem dM_theme_1 : decode prog_8_method_10_code 1 = .ok (.iload_n 1, 1) := by decide +kernel
theorem dM_theme_2 : decode prog_8_method_10_code 2 = .ok (.iload_n 2, 1) := by decide +kernel
theorem dM_theme_3 : decode prog_8_method_10_code 3 = .ok (.invokestatic 94, 3) := by decide +kernel
theorem dM_theme_6 : decode prog_8_method_10_code 6 = .ok (.ifCond .eq 7, 3) := by decide +kernel
theorem dM_theme_9 : decode prog_8_method_10_code 9 = .ok (.iconst 1, 1) := by decide +kernel
theorem dM_theme_10 : decode prog_8_method_10_code 10 = .ok (.goto 4, 3) := by decide +kernel
theorem dM_theme_13 : decode prog_8_method_10_code 13 = .ok (.iconst 0, 1) := by decide +kernel
theorem dM_theme_14 : decode prog_8_method_10_code 14 = .ok (.putfield 75, 3) := by decide +kernel
theorem dM_theme_17 : decode prog_8_method_10_code 17 = .ok (.aload_n 0, 1) := by decide +kernel
theorem dM_theme_18 : decode prog_8_method_10_code 18 = .ok (.getfield 75, 3) := by decide +kernel
theorem dM_theme_21 : decode prog_8_method_10_code 21 = .ok (.ifCond .ne 10, 3) := by decide +kernel
theorem dM_theme_24 : decode prog_8_method_10_code 24 = .ok (.aload_n 0, 1) := by decide +kernel
theorem dM_theme_25 : decode prog_8_method_10_code 25 = .ok (.getfield 30, 3) := by decide +kernel
theorem dM_theme_28 : decode prog_8_method_10_code 28 = .ok (.iload_n 1, 1) := by decide +kernel
theorem dM_theme_29 : decode prog_8_method_10_code 29 = .ok (.iload_n 2, 1) := by decide +kernel
theorem dM_theme_30 : decode prog_8_method_10_code 30 = .ok (.iastore, 1) := by decide +kernel
theorem dM_theme_31 : decode prog_8_method_10_code 31 = .ok (.return_, 1) := by decide +kernel
theorem dM_bad_0 : decode prog_8_method_9_code 0 = .ok (.iload_n 0, 1) := by decide +kernel
theorem dM_bad_1 : decode prog_8_method_9_code 1 = .ok (.tableswitch 126 0 6 #[43, 43, 61, 61, 77, 93, 110], 43) := by decide +kernel
theorem dM_bad_44 : decode prog_8_method_9_code 44 = .ok (.iload_n 1, 1) := by decide +kernel
theorem dM_bad_45 : decode prog_8_method_9_code 45 = .ok (.bipush (-40), 2) := by decide +kernel
theorem dM_bad_47 : decode prog_8_method_9_code 47 = .ok (.if_icmp .lt 9, 3) := by decide +kernel
theorem dM_bad_50 : decode prog_8_method_9_code 50 = .ok (.iload_n 1, 1) := by decide +kernel
theorem dM_bad_51 : decode prog_8_method_9_code 51 = .ok (.bipush 40, 2) := by decide +kernel
theorem dM_bad_53 : decode prog_8_method_9_code 53 = .ok (.if_icmp .le 7, 3) := by decide +kernel
theorem dM_bad_56 : decode prog_8_method_9_code 56 = .ok (.iconst 1, 1) := by decide +kernel
theorem dM_bad_57 : decode prog_8_method_9_code 57 = .ok (.goto 4, 3) := by decide +kernel
theorem dM_bad_60 : decode prog_8_method_9_code 60 = .ok (.iconst 0, 1) := by decide +kernel
theorem dM_bad_61 : decode prog_8_method_9_code 61 = .ok (.ireturn, 1) := by decide +kernel
theorem dM_bad_62 : decode prog_8_method_9_code 62 = .ok (.iload_n 1, 1) := by decide +kernel
theorem dM_bad_63 : decode prog_8_method_9_code 63 = .ok (.ifCond .lt 9, 3) := by decide +kernel
theorem dM_bad_66 : decode prog_8_method_9_code 66 = .ok (.iload_n 1, 1) := by decide +kernel
theorem dM_bad_67 : decode prog_8_method_9_code 67 = .ok (.bipush 40, 2) := by decide +kernel
theorem dM_bad_69 : decode prog_8_method_9_code 69 = .ok (.if_icmp .le 7, 3) := by decide +kernel
theorem dM_bad_72 : decode prog_8_method_9_code 72 = .ok (.iconst 1, 1) := by decide +kernel
theorem dM_bad_73 : decode prog_8_method_9_code 73 = .ok (.goto 4, 3) := by decide +kernel
theorem dM_bad_76 : decode prog_8_method_9_code 76 = .ok (.iconst 0, 1) := by decide +kernel
theorem dM_bad_77 : decode prog_8_method_9_code 77 = .ok (.ireturn, 1) := by decide +kernel
theorem dM_bad_78 : decode prog_8_method_9_code 78 = .ok (.iload_n 1, 1) := by decide +kernel
theorem dM_bad_79 : decode prog_8_method_9_code 79 = .ok (.ifCond .lt 9, 3) := by decide +kernel
theorem dM_bad_82 : decode prog_8_method_9_code 82 = .ok (.iload_n 1, 1) := by decide +kernel
theorem dM_bad_83 : decode prog_8_method_9_code 83 = .ok (.ldc 93, 2) := by decide +kernel
theorem dM_bad_85 : decode prog_8_method_9_code 85 = .ok (.if_icmp .le 7, 3) := by decide +kernel
theorem dM_bad_88 : decode prog_8_method_9_code 88 = .ok (.iconst 1, 1) := by decide +kernel
theorem dM_bad_89 : decode prog_8_method_9_code 89 = .ok (.goto 4, 3) := by decide +kernel
theorem dM_bad_92 : decode prog_8_method_9_code 92 = .ok (.iconst 0, 1) := by decide +kernel
theorem dM_bad_93 : decode prog_8_method_9_code 93 = .ok (.ireturn, 1) := by decide +kernel
theorem dM_bad_94 : decode prog_8_method_9_code 94 = .ok (.iload_n 1, 1) := by decide +kernel
theorem dM_bad_95 : decode prog_8_method_9_code 95 = .ok (.ifCond .lt 10, 3) := by decide +kernel
theorem dM_bad_98 : decode prog_8_method_9_code 98 = .ok (.iload_n 1, 1) := by decide +kernel
theorem dM_bad_99 : decode prog_8_method_9_code 99 = .ok (.sipush 255, 3) := by decide +kernel
theorem dM_bad_102 : decode prog_8_method_9_code 102 = .ok (.if_icmp .le 7, 3) := by decide +kernel
theorem dM_bad_105 : decode prog_8_method_9_code 105 = .ok (.iconst 1, 1) := by decide +kernel
theorem dM_bad_106 : decode prog_8_method_9_code 106 = .ok (.goto 4, 3) := by decide +kernel
theorem dM_bad_109 : decode prog_8_method_9_code 109 = .ok (.iconst 0, 1) := by decide +kernel
theorem dM_bad_110 : decode prog_8_method_9_code 110 = .ok (.ireturn, 1) := by decide +kernel
theorem dM_bad_111 : decode prog_8_method_9_code 111 = .ok (.iload_n 1, 1) := by decide +kernel
theorem dM_bad_112 : decode prog_8_method_9_code 112 = .ok (.iconst 1, 1) := by decide +kernel
theorem dM_bad_113 : decode prog_8_method_9_code 113 = .ok (.if_icmp .lt 8, 3) := by decide +kernel
theorem dM_bad_116 : decode prog_8_method_9_code 116 = .ok (.iload_n 1, 1) := by decide +kernel
theorem dM_bad_117 : decode prog_8_method_9_code 117 = .ok (.iconst 4, 1) := by decide +kernel
theorem dM_bad_118 : decode prog_8_method_9_code 118 = .ok (.if_icmp .le 7, 3) := by decide +kernel
theorem dM_bad_121 : decode prog_8_method_9_code 121 = .ok (.iconst 1, 1) := by decide +kernel
theorem dM_bad_122 : decode prog_8_method_9_code 122 = .ok (.goto 4, 3) := by decide +kernel
theorem dM_bad_125 : decode prog_8_method_9_code 125 = .ok (.iconst 0, 1) := by decide +kernel
theorem dM_bad_126 : decode prog_8_method_9_code 126 = .ok (.ireturn, 1) := by decide +kernel
theorem dM_bad_127 : decode prog_8_method_9_code 127 = .ok (.iconst 1, 1) := by decide +kernel
theorem dM_bad_128 : decode prog_8_method_9_code 128 = .ok (.ireturn, 1) := by decide +kernel
theorem dM_set_0 : decode prog_8_method_11_code 0 = .ok (.aload_n 0, 1) := by decide +kernel
theorem dM_set_1 : decode prog_8_method_11_code 1 = .ok (.aload_n 0, 1) := by decide +kernel
theorem dM_set_2 : decode prog_8_method_11_code 2 = .ok (.iload_n 1, 1) := by decide +kernel
theorem dM_set_3 : decode prog_8_method_11_code 3 = .ok (.invokevirtual 98, 3) := by decide +kernel
theorem dM_set_6 : decode prog_8_method_11_code 6 = .ok (.ifCond .eq 7, 3) := by decide +kernel
theorem dM_set_9 : decode prog_8_method_11_code 9 = .ok (.iconst 1, 1) := by decide +kernel
theorem dM_set_10 : decode prog_8_method_11_code 10 = .ok (.goto 16, 3) := by decide +kernel
theorem dM_set_13 : decode prog_8_method_11_code 13 = .ok (.iload_n 2, 1) := by decide +kernel
theorem dM_set_14 : decode prog_8_method_11_code 14 = .ok (.iload_n 3, 1) := by decide +kernel
theorem dM_set_15 : decode prog_8_method_11_code 15 = .ok (.invokestatic 94, 3) := by decide +kernel
theorem dM_set_18 : decode prog_8_method_11_code 18 = .ok (.ifCond .eq 7, 3) := by decide +kernel
theorem dM_set_21 : decode prog_8_method_11_code 21 = .ok (.iconst 2, 1) := by decide +kernel
theorem dM_set_22 : decode prog_8_method_11_code 22 = .ok (.goto 4, 3) := by decide +kernel
theorem dM_set_25 : decode prog_8_method_11_code 25 = .ok (.iconst 0, 1) := by decide +kernel
theorem dM_set_26 : decode prog_8_method_11_code 26 = .ok (.putfield 75, 3) := by decide +kernel
theorem dM_set_29 : decode prog_8_method_11_code 29 = .ok (.aload_n 0, 1) := by decide +kernel
theorem dM_set_30 : decode prog_8_method_11_code 30 = .ok (.getfield 75, 3) := by decide +kernel
theorem dM_set_33 : decode prog_8_method_11_code 33 = .ok (.ifCond .ne 27, 3) := by decide +kernel
theorem dM_set_36 : decode prog_8_method_11_code 36 = .ok (.aload_n 0, 1) := by decide +kernel
theorem dM_set_37 : decode prog_8_method_11_code 37 = .ok (.getfield 22, 3) := by decide +kernel
theorem dM_set_40 : decode prog_8_method_11_code 40 = .ok (.bipush 7, 2) := by decide +kernel
theorem dM_set_42 : decode prog_8_method_11_code 42 = .ok (.iload_n 1, 1) := by decide +kernel
theorem dM_set_43 : decode prog_8_method_11_code 43 = .ok (.imul, 1) := by decide +kernel
theorem dM_set_44 : decode prog_8_method_11_code 44 = .ok (.iload_n 2, 1) := by decide +kernel
theorem dM_set_45 : decode prog_8_method_11_code 45 = .ok (.iadd, 1) := by decide +kernel
theorem dM_set_46 : decode prog_8_method_11_code 46 = .ok (.iconst 1, 1) := by decide +kernel
theorem dM_set_47 : decode prog_8_method_11_code 47 = .ok (.bastore, 1) := by decide +kernel
theorem dM_set_48 : decode prog_8_method_11_code 48 = .ok (.aload_n 0, 1) := by decide +kernel
theorem dM_set_49 : decode prog_8_method_11_code 49 = .ok (.getfield 26, 3) := by decide +kernel
theorem dM_set_52 : decode prog_8_method_11_code 52 = .ok (.bipush 7, 2) := by decide +kernel
theorem dM_set_54 : decode prog_8_method_11_code 54 = .ok (.iload_n 1, 1) := by decide +kernel
theorem dM_set_55 : decode prog_8_method_11_code 55 = .ok (.imul, 1) := by decide +kernel
theorem dM_set_56 : decode prog_8_method_11_code 56 = .ok (.iload_n 2, 1) := by decide +kernel
theorem dM_set_57 : decode prog_8_method_11_code 57 = .ok (.iadd, 1) := by decide +kernel
theorem dM_set_58 : decode prog_8_method_11_code 58 = .ok (.iload_n 3, 1) := by decide +kernel
theorem dM_set_59 : decode prog_8_method_11_code 59 = .ok (.iastore, 1) := by decide +kernel
theorem dM_set_60 : decode prog_8_method_11_code 60 = .ok (.return_, 1) := by decide +kernel
theorem dM_noShape_0 : decode prog_8_method_4_code 0 = .ok (.iload_n 1, 1) := by decide +kernel
theorem dM_noShape_1 : decode prog_8_method_4_code 1 = .ok (.ifCond .lt 11, 3) := by decide +kernel
theorem dM_noShape_4 : decode prog_8_method_4_code 4 = .ok (.iload_n 1, 1) := by decide +kernel
theorem dM_noShape_5 : decode prog_8_method_4_code 5 = .ok (.aload_n 0, 1) := by decide +kernel
theorem dM_noShape_6 : decode prog_8_method_4_code 6 = .ok (.getfield 82, 3) := by decide +kernel
theorem dM_noShape_9 : decode prog_8_method_4_code 9 = .ok (.if_icmp .lt 7, 3) := by decide +kernel
theorem dM_noShape_12 : decode prog_8_method_4_code 12 = .ok (.iconst 1, 1) := by decide +kernel
theorem dM_noShape_13 : decode prog_8_method_4_code 13 = .ok (.goto 4, 3) := by decide +kernel
theorem dM_noShape_16 : decode prog_8_method_4_code 16 = .ok (.iconst 0, 1) := by decide +kernel
theorem dM_noShape_17 : decode prog_8_method_4_code 17 = .ok (.ireturn, 1) := by decide +kernel
theorem dM_unset_0 : decode prog_8_method_12_code 0 = .ok (.aload_n 0, 1) := by decide +kernel
theorem dM_unset_1 : decode prog_8_method_12_code 1 = .ok (.aload_n 0, 1) := by decide +kernel
theorem dM_unset_2 : decode prog_8_method_12_code 2 = .ok (.iload_n 1, 1) := by decide +kernel
theorem dM_unset_3 : decode prog_8_method_12_code 3 = .ok (.invokevirtual 98, 3) := by decide +kernel
theorem dM_unset_6 : decode prog_8_method_12_code 6 = .ok (.ifCond .eq 7, 3) := by decide +kernel
theorem dM_unset_9 : decode prog_8_method_12_code 9 = .ok (.iconst 1, 1) := by decide +kernel
theorem dM_unset_10 : decode prog_8_method_12_code 10 = .ok (.goto 15, 3) := by decide +kernel
theorem dM_unset_13 : decode prog_8_method_12_code 13 = .ok (.iload_n 2, 1) := by decide +kernel
theorem dM_unset_14 : decode prog_8_method_12_code 14 = .ok (.invokestatic 101, 3) := by decide +kernel
theorem dM_unset_17 : decode prog_8_method_12_code 17 = .ok (.ifCond .eq 7, 3) := by decide +kernel
theorem dM_unset_20 : decode prog_8_method_12_code 20 = .ok (.iconst 2, 1) := by decide +kernel
theorem dM_unset_21 : decode prog_8_method_12_code 21 = .ok (.goto 4, 3) := by decide +kernel
theorem dM_unset_24 : decode prog_8_method_12_code 24 = .ok (.iconst 0, 1) := by decide +kernel
theorem dM_unset_25 : decode prog_8_method_12_code 25 = .ok (.putfield 75, 3) := by decide +kernel
theorem dM_unset_28 : decode prog_8_method_12_code 28 = .ok (.aload_n 0, 1) := by decide +kernel
theorem dM_unset_29 : decode prog_8_method_12_code 29 = .ok (.getfield 75, 3) := by decide +kernel
theorem dM_unset_32 : decode prog_8_method_12_code 32 = .ok (.ifCond .le 5, 3) := by decide +kernel
theorem dM_unset_35 : decode prog_8_method_12_code 35 = .ok (.iconst 0, 1) := by decide +kernel
theorem dM_unset_36 : decode prog_8_method_12_code 36 = .ok (.ireturn, 1) := by decide +kernel
theorem dM_unset_37 : decode prog_8_method_12_code 37 = .ok (.aload_n 0, 1) := by decide +kernel
theorem dM_unset_38 : decode prog_8_method_12_code 38 = .ok (.getfield 22, 3) := by decide +kernel
theorem dM_unset_41 : decode prog_8_method_12_code 41 = .ok (.bipush 7, 2) := by decide +kernel
theorem dM_unset_43 : decode prog_8_method_12_code 43 = .ok (.iload_n 1, 1) := by decide +kernel
theorem dM_unset_44 : decode prog_8_method_12_code 44 = .ok (.imul, 1) := by decide +kernel
theorem dM_unset_45 : decode prog_8_method_12_code 45 = .ok (.iload_n 2, 1) := by decide +kernel
theorem dM_unset_46 : decode prog_8_method_12_code 46 = .ok (.iadd, 1) := by decide +kernel
theorem dM_unset_47 : decode prog_8_method_12_code 47 = .ok (.baload, 1) := by decide +kernel
theorem dM_unset_48 : decode prog_8_method_12_code 48 = .ok (.istore_n 3, 1) := by decide +kernel
theorem dM_unset_49 : decode prog_8_method_12_code 49 = .ok (.aload_n 0, 1) := by decide +kernel
theorem dM_unset_50 : decode prog_8_method_12_code 50 = .ok (.getfield 22, 3) := by decide +kernel
theorem dM_unset_53 : decode prog_8_method_12_code 53 = .ok (.bipush 7, 2) := by decide +kernel
theorem dM_unset_55 : decode prog_8_method_12_code 55 = .ok (.iload_n 1, 1) := by decide +kernel
theorem dM_unset_56 : decode prog_8_method_12_code 56 = .ok (.imul, 1) := by decide +kernel
theorem dM_unset_57 : decode prog_8_method_12_code 57 = .ok (.iload_n 2, 1) := by decide +kernel
theorem dM_unset_58 : decode prog_8_method_12_code 58 = .ok (.iadd, 1) := by decide +kernel
theorem dM_unset_59 : decode prog_8_method_12_code 59 = .ok (.iconst 0, 1) := by decide +kernel
theorem dM_unset_60 : decode prog_8_method_12_code 60 = .ok (.bastore, 1) := by decide +kernel
theorem dM_unset_61 : decode prog_8_method_12_code 61 = .ok (.iload_n 3, 1) := by decide +kernel
theorem dM_unset_62 : decode prog_8_method_12_code 62 = .ok (.ireturn, 1) := by decide +kernel
theorem dM_noProperty_0 : decode prog_8_method_5_code 0 = .ok (.iload_n 0, 1) := by decide +kernel
theorem dM_noProperty_1 : decode prog_8_method_5_code 1 = .ok (.ifCond .lt 9, 3) := by decide +kernel
theorem dM_noProperty_4 : decode prog_8_method_5_code 4 = .ok (.iload_n 0, 1) := by decide +kernel
theorem dM_noProperty_5 : decode prog_8_method_5_code 5 = .ok (.bipush 6, 2) := by decide +kernel
theorem dM_noProperty_7 : decode prog_8_method_5_code 7 = .ok (.if_icmp .le 7, 3) := by decide +kernel
theorem dM_noProperty_10 : decode prog_8_method_5_code 10 = .ok (.iconst 1, 1) := by decide +kernel
theorem dM_noProperty_11 : decode prog_8_method_5_code 11 = .ok (.goto 4, 3) := by decide +kernel
theorem dM_noProperty_14 : decode prog_8_method_5_code 14 = .ok (.iconst 0, 1) := by decide +kernel
theorem dM_noProperty_15 : decode prog_8_method_5_code 15 = .ok (.ireturn, 1) := by decide +kernel
theorem dM_resolved_0 : decode prog_8_method_15_code 0 = .ok (.aload_n 0, 1) := by decide +kernel
theorem dM_resolved_1 : decode prog_8_method_15_code 1 = .ok (.aload_n 0, 1) := by decide +kernel
theorem dM_resolved_2 : decode prog_8_method_15_code 2 = .ok (.iload_n 1, 1) := by decide +kernel
theorem dM_resolved_3 : decode prog_8_method_15_code 3 = .ok (.invokevirtual 98, 3) := by decide +kernel
theorem dM_resolved_6 : decode prog_8_method_15_code 6 = .ok (.ifCond .eq 7, 3) := by decide +kernel
theorem dM_resolved_9 : decode prog_8_method_15_code 9 = .ok (.iconst 1, 1) := by decide +kernel
theorem dM_resolved_10 : decode prog_8_method_15_code 10 = .ok (.goto 15, 3) := by decide +kernel
theorem dM_resolved_13 : decode prog_8_method_15_code 13 = .ok (.iload_n 2, 1) := by decide +kernel
theorem dM_resolved_14 : decode prog_8_method_15_code 14 = .ok (.invokestatic 101, 3) := by decide +kernel
theorem dM_resolved_17 : decode prog_8_method_15_code 17 = .ok (.ifCond .eq 7, 3) := by decide +kernel
theorem dM_resolved_20 : decode prog_8_method_15_code 20 = .ok (.iconst 2, 1) := by decide +kernel
theorem dM_resolved_21 : decode prog_8_method_15_code 21 = .ok (.goto 4, 3) := by decide +kernel
theorem dM_resolved_24 : decode prog_8_method_15_code 24 = .ok (.iconst 0, 1) := by decide +kernel
theorem dM_resolved_25 : decode prog_8_method_15_code 25 = .ok (.putfield 75, 3) := by decide +kernel
theorem dM_resolved_28 : decode prog_8_method_15_code 28 = .ok (.aload_n 0, 1) := by decide +kernel
theorem dM_resolved_29 : decode prog_8_method_15_code 29 = .ok (.getfield 75, 3) := by decide +kernel
theorem dM_resolved_32 : decode prog_8_method_15_code 32 = .ok (.ifCond .le 7, 3) := by decide +kernel
theorem dM_resolved_35 : decode prog_8_method_15_code 35 = .ok (.iconst 0, 1) := by decide +kernel
theorem dM_resolved_36 : decode prog_8_method_15_code 36 = .ok (.goto 9, 3) := by decide +kernel
theorem dM_resolved_39 : decode prog_8_method_15_code 39 = .ok (.aload_n 0, 1) := by decide +kernel
theorem dM_resolved_40 : decode prog_8_method_15_code 40 = .ok (.iload_n 1, 1) := by decide +kernel
theorem dM_resolved_41 : decode prog_8_method_15_code 41 = .ok (.iload_n 2, 1) := by decide +kernel
theorem dM_resolved_42 : decode prog_8_method_15_code 42 = .ok (.invokevirtual 107, 3) := by decide +kernel
theorem dM_resolved_45 : decode prog_8_method_15_code 45 = .ok (.ireturn, 1) := by decide +kernel
theorem dM_value_0 : decode prog_8_method_14_code 0 = .ok (.aload_n 0, 1) := by decide +kernel
theorem dM_value_1 : decode prog_8_method_14_code 1 = .ok (.iload_n 1, 1) := by decide +kernel
theorem dM_value_2 : decode prog_8_method_14_code 2 = .ok (.iload_n 2, 1) := by decide +kernel
theorem dM_value_3 : decode prog_8_method_14_code 3 = .ok (.invokevirtual 104, 3) := by decide +kernel
theorem dM_value_6 : decode prog_8_method_14_code 6 = .ok (.istore_n 3, 1) := by decide +kernel
theorem dM_value_7 : decode prog_8_method_14_code 7 = .ok (.iload_n 3, 1) := by decide +kernel
theorem dM_value_8 : decode prog_8_method_14_code 8 = .ok (.ifCond .ge 12, 3) := by decide +kernel
theorem dM_value_11 : decode prog_8_method_14_code 11 = .ok (.aload_n 0, 1) := by decide +kernel
theorem dM_value_12 : decode prog_8_method_14_code 12 = .ok (.getfield 30, 3) := by decide +kernel
theorem dM_value_15 : decode prog_8_method_14_code 15 = .ok (.iload_n 2, 1) := by decide +kernel
theorem dM_value_16 : decode prog_8_method_14_code 16 = .ok (.iaload, 1) := by decide +kernel
theorem dM_value_17 : decode prog_8_method_14_code 17 = .ok (.goto 14, 3) := by decide +kernel
theorem dM_value_20 : decode prog_8_method_14_code 20 = .ok (.aload_n 0, 1) := by decide +kernel
theorem dM_value_21 : decode prog_8_method_14_code 21 = .ok (.getfield 26, 3) := by decide +kernel
theorem dM_value_24 : decode prog_8_method_14_code 24 = .ok (.bipush 7, 2) := by decide +kernel
theorem dM_value_26 : decode prog_8_method_14_code 26 = .ok (.iload_n 3, 1) := by decide +kernel
theorem dM_value_27 : decode prog_8_method_14_code 27 = .ok (.imul, 1) := by decide +kernel
theorem dM_value_28 : decode prog_8_method_14_code 28 = .ok (.iload_n 2, 1) := by decide +kernel
theorem dM_value_29 : decode prog_8_method_14_code 29 = .ok (.iadd, 1) := by decide +kernel
theorem dM_value_30 : decode prog_8_method_14_code 30 = .ok (.iaload, 1) := by decide +kernel
theorem dM_value_31 : decode prog_8_method_14_code 31 = .ok (.ireturn, 1) := by decide +kernel
theorem dM_source_0 : decode prog_8_method_13_code 0 = .ok (.aload_n 0, 1) := by decide +kernel
theorem dM_source_1 : decode prog_8_method_13_code 1 = .ok (.getfield 22, 3) := by decide +kernel
theorem dM_source_4 : decode prog_8_method_13_code 4 = .ok (.bipush 7, 2) := by decide +kernel
theorem dM_source_6 : decode prog_8_method_13_code 6 = .ok (.iload_n 1, 1) := by decide +kernel
theorem dM_source_7 : decode prog_8_method_13_code 7 = .ok (.imul, 1) := by decide +kernel
theorem dM_source_8 : decode prog_8_method_13_code 8 = .ok (.iload_n 2, 1) := by decide +kernel
theorem dM_source_9 : decode prog_8_method_13_code 9 = .ok (.iadd, 1) := by decide +kernel
theorem dM_source_10 : decode prog_8_method_13_code 10 = .ok (.baload, 1) := by decide +kernel
theorem dM_source_11 : decode prog_8_method_13_code 11 = .ok (.ifCond .eq 5, 3) := by decide +kernel
theorem dM_source_14 : decode prog_8_method_13_code 14 = .ok (.iload_n 1, 1) := by decide +kernel
theorem dM_source_15 : decode prog_8_method_13_code 15 = .ok (.ireturn, 1) := by decide +kernel
theorem dM_source_16 : decode prog_8_method_13_code 16 = .ok (.aload_n 0, 1) := by decide +kernel
theorem dM_source_17 : decode prog_8_method_13_code 17 = .ok (.getfield 19, 3) := by decide +kernel
theorem dM_source_20 : decode prog_8_method_13_code 20 = .ok (.iload_n 1, 1) := by decide +kernel
theorem dM_source_21 : decode prog_8_method_13_code 21 = .ok (.iaload, 1) := by decide +kernel
theorem dM_source_22 : decode prog_8_method_13_code 22 = .ok (.ifCond .ge 7, 3) := by decide +kernel
theorem dM_source_25 : decode prog_8_method_13_code 25 = .ok (.iconst (-1), 1) := by decide +kernel
theorem dM_source_26 : decode prog_8_method_13_code 26 = .ok (.goto 14, 3) := by decide +kernel
theorem dM_source_29 : decode prog_8_method_13_code 29 = .ok (.aload_n 0, 1) := by decide +kernel
theorem dM_source_30 : decode prog_8_method_13_code 30 = .ok (.getfield 13, 3) := by decide +kernel
theorem dM_source_33 : decode prog_8_method_13_code 33 = .ok (.aload_n 0, 1) := by decide +kernel
theorem dM_source_34 : decode prog_8_method_13_code 34 = .ok (.getfield 16, 3) := by decide +kernel
theorem dM_source_37 : decode prog_8_method_13_code 37 = .ok (.iload_n 1, 1) := by decide +kernel
theorem dM_source_38 : decode prog_8_method_13_code 38 = .ok (.iaload, 1) := by decide +kernel
theorem dM_source_39 : decode prog_8_method_13_code 39 = .ok (.iaload, 1) := by decide +kernel
theorem dM_source_40 : decode prog_8_method_13_code 40 = .ok (.istore_n 3, 1) := by decide +kernel
theorem dM_source_41 : decode prog_8_method_13_code 41 = .ok (.iload_n 3, 1) := by decide +kernel
theorem dM_source_42 : decode prog_8_method_13_code 42 = .ok (.ifCond .lt 49, 3) := by decide +kernel
theorem dM_source_45 : decode prog_8_method_13_code 45 = .ok (.aload_n 0, 1) := by decide +kernel
theorem dM_source_46 : decode prog_8_method_13_code 46 = .ok (.iload_n 3, 1) := by decide +kernel
theorem dM_source_47 : decode prog_8_method_13_code 47 = .ok (.aload_n 0, 1) := by decide +kernel
theorem dM_source_48 : decode prog_8_method_13_code 48 = .ok (.getfield 19, 3) := by decide +kernel
theorem dM_source_51 : decode prog_8_method_13_code 51 = .ok (.iload_n 1, 1) := by decide +kernel
theorem dM_source_52 : decode prog_8_method_13_code 52 = .ok (.iaload, 1) := by decide +kernel
theorem dM_source_53 : decode prog_8_method_13_code 53 = .ok (.invokevirtual 89, 3) := by decide +kernel
theorem dM_source_56 : decode prog_8_method_13_code 56 = .ok (.istore 4, 2) := by decide +kernel
theorem dM_source_58 : decode prog_8_method_13_code 58 = .ok (.iload 4, 2) := by decide +kernel
theorem dM_source_60 : decode prog_8_method_13_code 60 = .ok (.ifCond .lt 21, 3) := by decide +kernel
theorem dM_source_63 : decode prog_8_method_13_code 63 = .ok (.aload_n 0, 1) := by decide +kernel
theorem dM_source_64 : decode prog_8_method_13_code 64 = .ok (.getfield 22, 3) := by decide +kernel
theorem dM_source_67 : decode prog_8_method_13_code 67 = .ok (.bipush 7, 2) := by decide +kernel
theorem dM_source_69 : decode prog_8_method_13_code 69 = .ok (.iload 4, 2) := by decide +kernel
theorem dM_source_71 : decode prog_8_method_13_code 71 = .ok (.imul, 1) := by decide +kernel
theorem dM_source_72 : decode prog_8_method_13_code 72 = .ok (.iload_n 2, 1) := by decide +kernel
theorem dM_source_73 : decode prog_8_method_13_code 73 = .ok (.iadd, 1) := by decide +kernel
theorem dM_source_74 : decode prog_8_method_13_code 74 = .ok (.baload, 1) := by decide +kernel
theorem dM_source_75 : decode prog_8_method_13_code 75 = .ok (.ifCond .eq 6, 3) := by decide +kernel
theorem dM_source_78 : decode prog_8_method_13_code 78 = .ok (.iload 4, 2) := by decide +kernel
theorem dM_source_80 : decode prog_8_method_13_code 80 = .ok (.ireturn, 1) := by decide +kernel
theorem dM_source_81 : decode prog_8_method_13_code 81 = .ok (.aload_n 0, 1) := by decide +kernel
theorem dM_source_82 : decode prog_8_method_13_code 82 = .ok (.getfield 13, 3) := by decide +kernel
theorem dM_source_85 : decode prog_8_method_13_code 85 = .ok (.iload_n 3, 1) := by decide +kernel
theorem dM_source_86 : decode prog_8_method_13_code 86 = .ok (.iaload, 1) := by decide +kernel
theorem dM_source_87 : decode prog_8_method_13_code 87 = .ok (.istore_n 3, 1) := by decide +kernel
theorem dM_source_88 : decode prog_8_method_13_code 88 = .ok (.goto (-47), 3) := by decide +kernel
theorem dM_source_91 : decode prog_8_method_13_code 91 = .ok (.iconst (-1), 1) := by decide +kernel
theorem dM_source_92 : decode prog_8_method_13_code 92 = .ok (.ireturn, 1) := by decide +kernel
theorem dM_origin_0 : decode prog_8_method_16_code 0 = .ok (.aload_n 0, 1) := by decide +kernel
theorem dM_origin_1 : decode prog_8_method_16_code 1 = .ok (.aload_n 0, 1) := by decide +kernel
theorem dM_origin_2 : decode prog_8_method_16_code 2 = .ok (.iload_n 1, 1) := by decide +kernel
theorem dM_origin_3 : decode prog_8_method_16_code 3 = .ok (.invokevirtual 98, 3) := by decide +kernel
theorem dM_origin_6 : decode prog_8_method_16_code 6 = .ok (.ifCond .eq 7, 3) := by decide +kernel
theorem dM_origin_9 : decode prog_8_method_16_code 9 = .ok (.iconst 1, 1) := by decide +kernel
theorem dM_origin_10 : decode prog_8_method_16_code 10 = .ok (.goto 15, 3) := by decide +kernel
theorem dM_origin_13 : decode prog_8_method_16_code 13 = .ok (.iload_n 2, 1) := by decide +kernel
theorem dM_origin_14 : decode prog_8_method_16_code 14 = .ok (.invokestatic 101, 3) := by decide +kernel
theorem dM_origin_17 : decode prog_8_method_16_code 17 = .ok (.ifCond .eq 7, 3) := by decide +kernel
theorem dM_origin_20 : decode prog_8_method_16_code 20 = .ok (.iconst 2, 1) := by decide +kernel
theorem dM_origin_21 : decode prog_8_method_16_code 21 = .ok (.goto 4, 3) := by decide +kernel
theorem dM_origin_24 : decode prog_8_method_16_code 24 = .ok (.iconst 0, 1) := by decide +kernel
theorem dM_origin_25 : decode prog_8_method_16_code 25 = .ok (.putfield 75, 3) := by decide +kernel
theorem dM_origin_28 : decode prog_8_method_16_code 28 = .ok (.aload_n 0, 1) := by decide +kernel
theorem dM_origin_29 : decode prog_8_method_16_code 29 = .ok (.getfield 75, 3) := by decide +kernel
theorem dM_origin_32 : decode prog_8_method_16_code 32 = .ok (.ifCond .le 7, 3) := by decide +kernel
theorem dM_origin_35 : decode prog_8_method_16_code 35 = .ok (.iconst 0, 1) := by decide +kernel
theorem dM_origin_36 : decode prog_8_method_16_code 36 = .ok (.goto 9, 3) := by decide +kernel
theorem dM_origin_39 : decode prog_8_method_16_code 39 = .ok (.aload_n 0, 1) := by decide +kernel
theorem dM_origin_40 : decode prog_8_method_16_code 40 = .ok (.iload_n 1, 1) := by decide +kernel
theorem dM_origin_41 : decode prog_8_method_16_code 41 = .ok (.iload_n 2, 1) := by decide +kernel
theorem dM_origin_42 : decode prog_8_method_16_code 42 = .ok (.invokevirtual 104, 3) := by decide +kernel
theorem dM_origin_45 : decode prog_8_method_16_code 45 = .ok (.ireturn, 1) := by decide +kernel
theorem dM_binding_0 : decode prog_8_method_17_code 0 = .ok (.aload_n 0, 1) := by decide +kernel
theorem dM_binding_1 : decode prog_8_method_17_code 1 = .ok (.aload_n 0, 1) := by decide +kernel
theorem dM_binding_2 : decode prog_8_method_17_code 2 = .ok (.iload_n 1, 1) := by decide +kernel
theorem dM_binding_3 : decode prog_8_method_17_code 3 = .ok (.invokevirtual 98, 3) := by decide +kernel
theorem dM_binding_6 : decode prog_8_method_17_code 6 = .ok (.ifCond .eq 7, 3) := by decide +kernel
theorem dM_binding_9 : decode prog_8_method_17_code 9 = .ok (.iconst 1, 1) := by decide +kernel
theorem dM_binding_10 : decode prog_8_method_17_code 10 = .ok (.goto 4, 3) := by decide +kernel
theorem dM_binding_13 : decode prog_8_method_17_code 13 = .ok (.iconst 0, 1) := by decide +kernel
theorem dM_binding_14 : decode prog_8_method_17_code 14 = .ok (.putfield 75, 3) := by decide +kernel
theorem dM_binding_17 : decode prog_8_method_17_code 17 = .ok (.aload_n 0, 1) := by decide +kernel
theorem dM_binding_18 : decode prog_8_method_17_code 18 = .ok (.getfield 75, 3) := by decide +kernel
theorem dM_binding_21 : decode prog_8_method_17_code 21 = .ok (.ifCond .le 5, 3) := by decide +kernel
theorem dM_binding_24 : decode prog_8_method_17_code 24 = .ok (.iconst 0, 1) := by decide +kernel
theorem dM_binding_25 : decode prog_8_method_17_code 25 = .ok (.ireturn, 1) := by decide +kernel
theorem dM_binding_26 : decode prog_8_method_17_code 26 = .ok (.aload_n 0, 1) := by decide +kernel
theorem dM_binding_27 : decode prog_8_method_17_code 27 = .ok (.getfield 13, 3) := by decide +kernel
theorem dM_binding_30 : decode prog_8_method_17_code 30 = .ok (.aload_n 0, 1) := by decide +kernel
theorem dM_binding_31 : decode prog_8_method_17_code 31 = .ok (.getfield 16, 3) := by decide +kernel
theorem dM_binding_34 : decode prog_8_method_17_code 34 = .ok (.iload_n 1, 1) := by decide +kernel
theorem dM_binding_35 : decode prog_8_method_17_code 35 = .ok (.iaload, 1) := by decide +kernel
theorem dM_binding_36 : decode prog_8_method_17_code 36 = .ok (.iaload, 1) := by decide +kernel
theorem dM_binding_37 : decode prog_8_method_17_code 37 = .ok (.istore_n 2, 1) := by decide +kernel
theorem dM_binding_38 : decode prog_8_method_17_code 38 = .ok (.aload_n 0, 1) := by decide +kernel
theorem dM_binding_39 : decode prog_8_method_17_code 39 = .ok (.getfield 19, 3) := by decide +kernel
theorem dM_binding_42 : decode prog_8_method_17_code 42 = .ok (.iload_n 1, 1) := by decide +kernel
theorem dM_binding_43 : decode prog_8_method_17_code 43 = .ok (.iaload, 1) := by decide +kernel
theorem dM_binding_44 : decode prog_8_method_17_code 44 = .ok (.ifCond .lt 7, 3) := by decide +kernel
theorem dM_binding_47 : decode prog_8_method_17_code 47 = .ok (.iload_n 2, 1) := by decide +kernel
theorem dM_binding_48 : decode prog_8_method_17_code 48 = .ok (.ifCond .ge 7, 3) := by decide +kernel
theorem dM_binding_51 : decode prog_8_method_17_code 51 = .ok (.iconst (-1), 1) := by decide +kernel
theorem dM_binding_52 : decode prog_8_method_17_code 52 = .ok (.goto 14, 3) := by decide +kernel
theorem dM_binding_55 : decode prog_8_method_17_code 55 = .ok (.aload_n 0, 1) := by decide +kernel
theorem dM_binding_56 : decode prog_8_method_17_code 56 = .ok (.iload_n 2, 1) := by decide +kernel
theorem dM_binding_57 : decode prog_8_method_17_code 57 = .ok (.aload_n 0, 1) := by decide +kernel
theorem dM_binding_58 : decode prog_8_method_17_code 58 = .ok (.getfield 19, 3) := by decide +kernel
theorem dM_binding_61 : decode prog_8_method_17_code 61 = .ok (.iload_n 1, 1) := by decide +kernel
theorem dM_binding_62 : decode prog_8_method_17_code 62 = .ok (.iaload, 1) := by decide +kernel
theorem dM_binding_63 : decode prog_8_method_17_code 63 = .ok (.invokevirtual 89, 3) := by decide +kernel
theorem dM_binding_66 : decode prog_8_method_17_code 66 = .ok (.ireturn, 1) := by decide +kernel
theorem dM_write_0 : decode prog_8_method_18_code 0 = .ok (.iload_n 2, 1) := by decide +kernel
theorem dM_write_1 : decode prog_8_method_18_code 1 = .ok (.ifCond .lt 16, 3) := by decide +kernel
theorem dM_write_4 : decode prog_8_method_18_code 4 = .ok (.iload_n 2, 1) := by decide +kernel
theorem dM_write_5 : decode prog_8_method_18_code 5 = .ok (.iconst 2, 1) := by decide +kernel
theorem dM_write_6 : decode prog_8_method_18_code 6 = .ok (.if_icmp .gt 11, 3) := by decide +kernel
theorem dM_write_9 : decode prog_8_method_18_code 9 = .ok (.iload_n 3, 1) := by decide +kernel
theorem dM_write_10 : decode prog_8_method_18_code 10 = .ok (.ifCond .eq 7, 3) := by decide +kernel
theorem dM_write_13 : decode prog_8_method_18_code 13 = .ok (.iconst 1, 1) := by decide +kernel
theorem dM_write_14 : decode prog_8_method_18_code 14 = .ok (.goto 4, 3) := by decide +kernel
theorem dM_write_17 : decode prog_8_method_18_code 17 = .ok (.iconst 0, 1) := by decide +kernel
theorem dM_write_18 : decode prog_8_method_18_code 18 = .ok (.istore 4, 2) := by decide +kernel
theorem dM_write_20 : decode prog_8_method_18_code 20 = .ok (.iconst 0, 1) := by decide +kernel
theorem dM_write_21 : decode prog_8_method_18_code 21 = .ok (.istore 5, 2) := by decide +kernel
theorem dM_write_23 : decode prog_8_method_18_code 23 = .ok (.iload 5, 2) := by decide +kernel
theorem dM_write_25 : decode prog_8_method_18_code 25 = .ok (.iconst 4, 1) := by decide +kernel
theorem dM_write_26 : decode prog_8_method_18_code 26 = .ok (.if_icmp .ge 37, 3) := by decide +kernel
theorem dM_write_29 : decode prog_8_method_18_code 29 = .ok (.iload 4, 2) := by decide +kernel
theorem dM_write_31 : decode prog_8_method_18_code 31 = .ok (.ifCond .eq 23, 3) := by decide +kernel
theorem dM_write_34 : decode prog_8_method_18_code 34 = .ok (.iload_n 3, 1) := by decide +kernel
theorem dM_write_35 : decode prog_8_method_18_code 35 = .ok (.bipush 8, 2) := by decide +kernel
theorem dM_write_37 : decode prog_8_method_18_code 37 = .ok (.iload 5, 2) := by decide +kernel
theorem dM_write_39 : decode prog_8_method_18_code 39 = .ok (.imul, 1) := by decide +kernel
theorem dM_write_40 : decode prog_8_method_18_code 40 = .ok (.ishr, 1) := by decide +kernel
theorem dM_write_41 : decode prog_8_method_18_code 41 = .ok (.sipush 255, 3) := by decide +kernel
theorem dM_write_44 : decode prog_8_method_18_code 44 = .ok (.iand, 1) := by decide +kernel
theorem dM_write_45 : decode prog_8_method_18_code 45 = .ok (.bipush 15, 2) := by decide +kernel
theorem dM_write_47 : decode prog_8_method_18_code 47 = .ok (.if_icmp .gt 7, 3) := by decide +kernel
theorem dM_write_50 : decode prog_8_method_18_code 50 = .ok (.iconst 1, 1) := by decide +kernel
theorem dM_write_51 : decode prog_8_method_18_code 51 = .ok (.goto 4, 3) := by decide +kernel
theorem dM_write_54 : decode prog_8_method_18_code 54 = .ok (.iconst 0, 1) := by decide +kernel
theorem dM_write_55 : decode prog_8_method_18_code 55 = .ok (.istore 4, 2) := by decide +kernel
theorem dM_write_57 : decode prog_8_method_18_code 57 = .ok (.iinc 5 1, 3) := by decide +kernel
theorem dM_write_60 : decode prog_8_method_18_code 60 = .ok (.goto (-37), 3) := by decide +kernel
theorem dM_write_63 : decode prog_8_method_18_code 63 = .ok (.aload_n 0, 1) := by decide +kernel
theorem dM_write_64 : decode prog_8_method_18_code 64 = .ok (.aload_n 0, 1) := by decide +kernel
theorem dM_write_65 : decode prog_8_method_18_code 65 = .ok (.iload_n 1, 1) := by decide +kernel
theorem dM_write_66 : decode prog_8_method_18_code 66 = .ok (.invokevirtual 98, 3) := by decide +kernel
theorem dM_write_69 : decode prog_8_method_18_code 69 = .ok (.ifCond .eq 7, 3) := by decide +kernel
theorem dM_write_72 : decode prog_8_method_18_code 72 = .ok (.iconst 1, 1) := by decide +kernel
theorem dM_write_73 : decode prog_8_method_18_code 73 = .ok (.goto 27, 3) := by decide +kernel
theorem dM_write_76 : decode prog_8_method_18_code 76 = .ok (.iload 4, 2) := by decide +kernel
theorem dM_write_78 : decode prog_8_method_18_code 78 = .ok (.ifCond .ne 7, 3) := by decide +kernel
theorem dM_write_81 : decode prog_8_method_18_code 81 = .ok (.iconst 2, 1) := by decide +kernel
theorem dM_write_82 : decode prog_8_method_18_code 82 = .ok (.goto 18, 3) := by decide +kernel
theorem dM_write_85 : decode prog_8_method_18_code 85 = .ok (.aload_n 0, 1) := by decide +kernel
theorem dM_write_86 : decode prog_8_method_18_code 86 = .ok (.getfield 33, 3) := by decide +kernel
theorem dM_write_89 : decode prog_8_method_18_code 89 = .ok (.iload_n 1, 1) := by decide +kernel
theorem dM_write_90 : decode prog_8_method_18_code 90 = .ok (.iaload, 1) := by decide +kernel
theorem dM_write_91 : decode prog_8_method_18_code 91 = .ok (.iconst 4, 1) := by decide +kernel
theorem dM_write_92 : decode prog_8_method_18_code 92 = .ok (.if_icmp .ne 7, 3) := by decide +kernel
theorem dM_write_95 : decode prog_8_method_18_code 95 = .ok (.iconst 3, 1) := by decide +kernel
theorem dM_write_96 : decode prog_8_method_18_code 96 = .ok (.goto 4, 3) := by decide +kernel
theorem dM_write_99 : decode prog_8_method_18_code 99 = .ok (.iconst 0, 1) := by decide +kernel
theorem dM_write_100 : decode prog_8_method_18_code 100 = .ok (.putfield 75, 3) := by decide +kernel
theorem dM_write_103 : decode prog_8_method_18_code 103 = .ok (.aload_n 0, 1) := by decide +kernel
theorem dM_write_104 : decode prog_8_method_18_code 104 = .ok (.getfield 75, 3) := by decide +kernel
theorem dM_write_107 : decode prog_8_method_18_code 107 = .ok (.ifCond .le 5, 3) := by decide +kernel
theorem dM_write_110 : decode prog_8_method_18_code 110 = .ok (.iconst 0, 1) := by decide +kernel
theorem dM_write_111 : decode prog_8_method_18_code 111 = .ok (.ireturn, 1) := by decide +kernel
theorem dM_write_112 : decode prog_8_method_18_code 112 = .ok (.iconst 4, 1) := by decide +kernel
theorem dM_write_113 : decode prog_8_method_18_code 113 = .ok (.iload_n 1, 1) := by decide +kernel
theorem dM_write_114 : decode prog_8_method_18_code 114 = .ok (.imul, 1) := by decide +kernel
theorem dM_write_115 : decode prog_8_method_18_code 115 = .ok (.aload_n 0, 1) := by decide +kernel
theorem dM_write_116 : decode prog_8_method_18_code 116 = .ok (.getfield 33, 3) := by decide +kernel
theorem dM_write_119 : decode prog_8_method_18_code 119 = .ok (.iload_n 1, 1) := by decide +kernel
theorem dM_write_120 : decode prog_8_method_18_code 120 = .ok (.iaload, 1) := by decide +kernel
theorem dM_write_121 : decode prog_8_method_18_code 121 = .ok (.iadd, 1) := by decide +kernel
theorem dM_write_122 : decode prog_8_method_18_code 122 = .ok (.istore 5, 2) := by decide +kernel
theorem dM_write_124 : decode prog_8_method_18_code 124 = .ok (.aload_n 0, 1) := by decide +kernel
theorem dM_write_125 : decode prog_8_method_18_code 125 = .ok (.getfield 36, 3) := by decide +kernel
theorem dM_write_128 : decode prog_8_method_18_code 128 = .ok (.iload 5, 2) := by decide +kernel
theorem dM_write_130 : decode prog_8_method_18_code 130 = .ok (.iload_n 2, 1) := by decide +kernel
theorem dM_write_131 : decode prog_8_method_18_code 131 = .ok (.iastore, 1) := by decide +kernel
theorem dM_write_132 : decode prog_8_method_18_code 132 = .ok (.aload_n 0, 1) := by decide +kernel
theorem dM_write_133 : decode prog_8_method_18_code 133 = .ok (.getfield 39, 3) := by decide +kernel
theorem dM_write_136 : decode prog_8_method_18_code 136 = .ok (.iload 5, 2) := by decide +kernel
theorem dM_write_138 : decode prog_8_method_18_code 138 = .ok (.iconst 0, 1) := by decide +kernel
theorem dM_write_139 : decode prog_8_method_18_code 139 = .ok (.iastore, 1) := by decide +kernel
theorem dM_write_140 : decode prog_8_method_18_code 140 = .ok (.iconst 3, 1) := by decide +kernel
theorem dM_write_141 : decode prog_8_method_18_code 141 = .ok (.istore 6, 2) := by decide +kernel
theorem dM_write_143 : decode prog_8_method_18_code 143 = .ok (.iload 6, 2) := by decide +kernel
theorem dM_write_145 : decode prog_8_method_18_code 145 = .ok (.ifCond .lt 57, 3) := by decide +kernel
theorem dM_write_148 : decode prog_8_method_18_code 148 = .ok (.iload_n 3, 1) := by decide +kernel
theorem dM_write_149 : decode prog_8_method_18_code 149 = .ok (.bipush 8, 2) := by decide +kernel
theorem dM_write_151 : decode prog_8_method_18_code 151 = .ok (.iload 6, 2) := by decide +kernel
theorem dM_write_153 : decode prog_8_method_18_code 153 = .ok (.imul, 1) := by decide +kernel
theorem dM_write_154 : decode prog_8_method_18_code 154 = .ok (.ishr, 1) := by decide +kernel
theorem dM_write_155 : decode prog_8_method_18_code 155 = .ok (.sipush 255, 3) := by decide +kernel
theorem dM_write_158 : decode prog_8_method_18_code 158 = .ok (.iand, 1) := by decide +kernel
theorem dM_write_159 : decode prog_8_method_18_code 159 = .ok (.istore 7, 2) := by decide +kernel
theorem dM_write_161 : decode prog_8_method_18_code 161 = .ok (.iload 7, 2) := by decide +kernel
theorem dM_write_163 : decode prog_8_method_18_code 163 = .ok (.ifCond .le 33, 3) := by decide +kernel
theorem dM_write_166 : decode prog_8_method_18_code 166 = .ok (.aload_n 0, 1) := by decide +kernel
theorem dM_write_167 : decode prog_8_method_18_code 167 = .ok (.getfield 42, 3) := by decide +kernel
theorem dM_write_170 : decode prog_8_method_18_code 170 = .ok (.iconst 4, 1) := by decide +kernel
theorem dM_write_171 : decode prog_8_method_18_code 171 = .ok (.iload 5, 2) := by decide +kernel
theorem dM_write_173 : decode prog_8_method_18_code 173 = .ok (.imul, 1) := by decide +kernel
theorem dM_write_174 : decode prog_8_method_18_code 174 = .ok (.aload_n 0, 1) := by decide +kernel
theorem dM_write_175 : decode prog_8_method_18_code 175 = .ok (.getfield 39, 3) := by decide +kernel
theorem dM_write_178 : decode prog_8_method_18_code 178 = .ok (.iload 5, 2) := by decide +kernel
theorem dM_write_180 : decode prog_8_method_18_code 180 = .ok (.iaload, 1) := by decide +kernel
theorem dM_write_181 : decode prog_8_method_18_code 181 = .ok (.iadd, 1) := by decide +kernel
theorem dM_write_182 : decode prog_8_method_18_code 182 = .ok (.iload 7, 2) := by decide +kernel
theorem dM_write_184 : decode prog_8_method_18_code 184 = .ok (.iastore, 1) := by decide +kernel
theorem dM_write_185 : decode prog_8_method_18_code 185 = .ok (.aload_n 0, 1) := by decide +kernel
theorem dM_write_186 : decode prog_8_method_18_code 186 = .ok (.getfield 39, 3) := by decide +kernel
theorem dM_write_189 : decode prog_8_method_18_code 189 = .ok (.iload 5, 2) := by decide +kernel
theorem dM_write_191 : decode prog_8_method_18_code 191 = .ok (.dup2, 1) := by decide +kernel
theorem dM_write_192 : decode prog_8_method_18_code 192 = .ok (.iaload, 1) := by decide +kernel
theorem dM_write_193 : decode prog_8_method_18_code 193 = .ok (.iconst 1, 1) := by decide +kernel
theorem dM_write_194 : decode prog_8_method_18_code 194 = .ok (.iadd, 1) := by decide +kernel
theorem dM_write_195 : decode prog_8_method_18_code 195 = .ok (.iastore, 1) := by decide +kernel
theorem dM_write_196 : decode prog_8_method_18_code 196 = .ok (.iinc 6 (-1), 3) := by decide +kernel
theorem dM_write_199 : decode prog_8_method_18_code 199 = .ok (.goto (-56), 3) := by decide +kernel
theorem dM_write_202 : decode prog_8_method_18_code 202 = .ok (.aload_n 0, 1) := by decide +kernel
theorem dM_write_203 : decode prog_8_method_18_code 203 = .ok (.getfield 33, 3) := by decide +kernel
theorem dM_write_206 : decode prog_8_method_18_code 206 = .ok (.iload_n 1, 1) := by decide +kernel
theorem dM_write_207 : decode prog_8_method_18_code 207 = .ok (.dup2, 1) := by decide +kernel
theorem dM_write_208 : decode prog_8_method_18_code 208 = .ok (.iaload, 1) := by decide +kernel
theorem dM_write_209 : decode prog_8_method_18_code 209 = .ok (.iconst 1, 1) := by decide +kernel
theorem dM_write_210 : decode prog_8_method_18_code 210 = .ok (.iadd, 1) := by decide +kernel
theorem dM_write_211 : decode prog_8_method_18_code 211 = .ok (.iastore, 1) := by decide +kernel
theorem dM_write_212 : decode prog_8_method_18_code 212 = .ok (.aload_n 0, 1) := by decide +kernel
theorem dM_write_213 : decode prog_8_method_18_code 213 = .ok (.getfield 33, 3) := by decide +kernel
theorem dM_write_216 : decode prog_8_method_18_code 216 = .ok (.iload_n 1, 1) := by decide +kernel
theorem dM_write_217 : decode prog_8_method_18_code 217 = .ok (.iaload, 1) := by decide +kernel
theorem dM_write_218 : decode prog_8_method_18_code 218 = .ok (.iconst 1, 1) := by decide +kernel
theorem dM_write_219 : decode prog_8_method_18_code 219 = .ok (.isub, 1) := by decide +kernel
theorem dM_write_220 : decode prog_8_method_18_code 220 = .ok (.ireturn, 1) := by decide +kernel
theorem dM_scale_0 : decode prog_8_method_21_code 0 = .ok (.aload_n 0, 1) := by decide +kernel
theorem dM_scale_1 : decode prog_8_method_21_code 1 = .ok (.aload_n 0, 1) := by decide +kernel
theorem dM_scale_2 : decode prog_8_method_21_code 2 = .ok (.iload_n 1, 1) := by decide +kernel
theorem dM_scale_3 : decode prog_8_method_21_code 3 = .ok (.invokevirtual 98, 3) := by decide +kernel
theorem dM_scale_6 : decode prog_8_method_21_code 6 = .ok (.ifCond .eq 7, 3) := by decide +kernel
theorem dM_scale_9 : decode prog_8_method_21_code 9 = .ok (.iconst 1, 1) := by decide +kernel
theorem dM_scale_10 : decode prog_8_method_21_code 10 = .ok (.goto 4, 3) := by decide +kernel
theorem dM_scale_13 : decode prog_8_method_21_code 13 = .ok (.iconst 0, 1) := by decide +kernel
theorem dM_scale_14 : decode prog_8_method_21_code 14 = .ok (.putfield 75, 3) := by decide +kernel
theorem dM_scale_17 : decode prog_8_method_21_code 17 = .ok (.aload_n 0, 1) := by decide +kernel
theorem dM_scale_18 : decode prog_8_method_21_code 18 = .ok (.getfield 75, 3) := by decide +kernel
theorem dM_scale_21 : decode prog_8_method_21_code 21 = .ok (.ifCond .le 7, 3) := by decide +kernel
theorem dM_scale_24 : decode prog_8_method_21_code 24 = .ok (.iconst 0, 1) := by decide +kernel
theorem dM_scale_25 : decode prog_8_method_21_code 25 = .ok (.goto 8, 3) := by decide +kernel
theorem dM_scale_28 : decode prog_8_method_21_code 28 = .ok (.aload_n 0, 1) := by decide +kernel
theorem dM_scale_29 : decode prog_8_method_21_code 29 = .ok (.iload_n 1, 1) := by decide +kernel
theorem dM_scale_30 : decode prog_8_method_21_code 30 = .ok (.invokevirtual 117, 3) := by decide +kernel
theorem dM_scale_33 : decode prog_8_method_21_code 33 = .ok (.ireturn, 1) := by decide +kernel
theorem dM_fit_0 : decode prog_8_method_20_code 0 = .ok (.aload_n 0, 1) := by decide +kernel
theorem dM_fit_1 : decode prog_8_method_20_code 1 = .ok (.iload_n 1, 1) := by decide +kernel
theorem dM_fit_2 : decode prog_8_method_20_code 2 = .ok (.bipush 6, 2) := by decide +kernel
theorem dM_fit_4 : decode prog_8_method_20_code 4 = .ok (.invokevirtual 107, 3) := by decide +kernel
theorem dM_fit_7 : decode prog_8_method_20_code 7 = .ok (.istore_n 2, 1) := by decide +kernel
theorem dM_fit_8 : decode prog_8_method_20_code 8 = .ok (.iload_n 2, 1) := by decide +kernel
theorem dM_fit_9 : decode prog_8_method_20_code 9 = .ok (.iconst 1, 1) := by decide +kernel
theorem dM_fit_10 : decode prog_8_method_20_code 10 = .ok (.if_icmp .lt 32, 3) := by decide +kernel
theorem dM_fit_13 : decode prog_8_method_20_code 13 = .ok (.aload_n 0, 1) := by decide +kernel
theorem dM_fit_14 : decode prog_8_method_20_code 14 = .ok (.iload_n 1, 1) := by decide +kernel
theorem dM_fit_15 : decode prog_8_method_20_code 15 = .ok (.iload_n 2, 1) := by decide +kernel
theorem dM_fit_16 : decode prog_8_method_20_code 16 = .ok (.invokevirtual 113, 3) := by decide +kernel
theorem dM_fit_19 : decode prog_8_method_20_code 19 = .ok (.iload_n 2, 1) := by decide +kernel
theorem dM_fit_20 : decode prog_8_method_20_code 20 = .ok (.aload_n 0, 1) := by decide +kernel
theorem dM_fit_21 : decode prog_8_method_20_code 21 = .ok (.getfield 110, 3) := by decide +kernel
theorem dM_fit_24 : decode prog_8_method_20_code 24 = .ok (.imul, 1) := by decide +kernel
theorem dM_fit_25 : decode prog_8_method_20_code 25 = .ok (.aload_n 0, 1) := by decide +kernel
theorem dM_fit_26 : decode prog_8_method_20_code 26 = .ok (.iload_n 1, 1) := by decide +kernel
theorem dM_fit_27 : decode prog_8_method_20_code 27 = .ok (.iconst 3, 1) := by decide +kernel
theorem dM_fit_28 : decode prog_8_method_20_code 28 = .ok (.invokevirtual 107, 3) := by decide +kernel
theorem dM_fit_31 : decode prog_8_method_20_code 31 = .ok (.if_icmp .gt 5, 3) := by decide +kernel
theorem dM_fit_34 : decode prog_8_method_20_code 34 = .ok (.iload_n 2, 1) := by decide +kernel
theorem dM_fit_35 : decode prog_8_method_20_code 35 = .ok (.ireturn, 1) := by decide +kernel
theorem dM_fit_36 : decode prog_8_method_20_code 36 = .ok (.iinc 2 (-1), 3) := by decide +kernel
theorem dM_fit_39 : decode prog_8_method_20_code 39 = .ok (.goto (-31), 3) := by decide +kernel
theorem dM_fit_42 : decode prog_8_method_20_code 42 = .ok (.iconst 0, 1) := by decide +kernel
theorem dM_fit_43 : decode prog_8_method_20_code 43 = .ok (.ireturn, 1) := by decide +kernel
theorem dM_breakText_0 : decode prog_8_method_19_code 0 = .ok (.aload_n 0, 1) := by decide +kernel
theorem dM_breakText_1 : decode prog_8_method_19_code 1 = .ok (.iconst 0, 1) := by decide +kernel
theorem dM_breakText_2 : decode prog_8_method_19_code 2 = .ok (.putfield 110, 3) := by decide +kernel
theorem dM_breakText_5 : decode prog_8_method_19_code 5 = .ok (.aload_n 0, 1) := by decide +kernel
theorem dM_breakText_6 : decode prog_8_method_19_code 6 = .ok (.iload_n 1, 1) := by decide +kernel
theorem dM_breakText_7 : decode prog_8_method_19_code 7 = .ok (.iconst 2, 1) := by decide +kernel
theorem dM_breakText_8 : decode prog_8_method_19_code 8 = .ok (.invokevirtual 107, 3) := by decide +kernel
theorem dM_breakText_11 : decode prog_8_method_19_code 11 = .ok (.istore_n 3, 1) := by decide +kernel
theorem dM_breakText_12 : decode prog_8_method_19_code 12 = .ok (.iconst 0, 1) := by decide +kernel
theorem dM_breakText_13 : decode prog_8_method_19_code 13 = .ok (.istore 4, 2) := by decide +kernel
theorem dM_breakText_15 : decode prog_8_method_19_code 15 = .ok (.iload 4, 2) := by decide +kernel
theorem dM_breakText_17 : decode prog_8_method_19_code 17 = .ok (.aload_n 0, 1) := by decide +kernel
theorem dM_breakText_18 : decode prog_8_method_19_code 18 = .ok (.getfield 33, 3) := by decide +kernel
theorem dM_breakText_21 : decode prog_8_method_19_code 21 = .ok (.iload_n 1, 1) := by decide +kernel
theorem dM_breakText_22 : decode prog_8_method_19_code 22 = .ok (.iaload, 1) := by decide +kernel
theorem dM_breakText_23 : decode prog_8_method_19_code 23 = .ok (.if_icmp .ge 205, 3) := by decide +kernel
theorem dM_breakText_26 : decode prog_8_method_19_code 26 = .ok (.iconst 4, 1) := by decide +kernel
theorem dM_breakText_27 : decode prog_8_method_19_code 27 = .ok (.iload_n 1, 1) := by decide +kernel
theorem dM_breakText_28 : decode prog_8_method_19_code 28 = .ok (.imul, 1) := by decide +kernel
theorem dM_breakText_29 : decode prog_8_method_19_code 29 = .ok (.iload 4, 2) := by decide +kernel
theorem dM_breakText_31 : decode prog_8_method_19_code 31 = .ok (.iadd, 1) := by decide +kernel
theorem dM_breakText_32 : decode prog_8_method_19_code 32 = .ok (.istore 5, 2) := by decide +kernel
theorem dM_breakText_34 : decode prog_8_method_19_code 34 = .ok (.iload_n 3, 1) := by decide +kernel
theorem dM_breakText_35 : decode prog_8_method_19_code 35 = .ok (.iconst 2, 1) := by decide +kernel
theorem dM_breakText_36 : decode prog_8_method_19_code 36 = .ok (.iload_n 2, 1) := by decide +kernel
theorem dM_breakText_37 : decode prog_8_method_19_code 37 = .ok (.imul, 1) := by decide +kernel
theorem dM_breakText_38 : decode prog_8_method_19_code 38 = .ok (.aload_n 0, 1) := by decide +kernel
theorem dM_breakText_39 : decode prog_8_method_19_code 39 = .ok (.getfield 36, 3) := by decide +kernel
theorem dM_breakText_42 : decode prog_8_method_19_code 42 = .ok (.iload 5, 2) := by decide +kernel
theorem dM_breakText_44 : decode prog_8_method_19_code 44 = .ok (.iaload, 1) := by decide +kernel
theorem dM_breakText_45 : decode prog_8_method_19_code 45 = .ok (.imul, 1) := by decide +kernel
theorem dM_breakText_46 : decode prog_8_method_19_code 46 = .ok (.isub, 1) := by decide +kernel
theorem dM_breakText_47 : decode prog_8_method_19_code 47 = .ok (.istore 6, 2) := by decide +kernel
theorem dM_breakText_49 : decode prog_8_method_19_code 49 = .ok (.iconst 0, 1) := by decide +kernel
theorem dM_breakText_50 : decode prog_8_method_19_code 50 = .ok (.istore 7, 2) := by decide +kernel
theorem dM_breakText_52 : decode prog_8_method_19_code 52 = .ok (.iload 7, 2) := by decide +kernel
theorem dM_breakText_54 : decode prog_8_method_19_code 54 = .ok (.aload_n 0, 1) := by decide +kernel
theorem dM_breakText_55 : decode prog_8_method_19_code 55 = .ok (.getfield 39, 3) := by decide +kernel
theorem dM_breakText_58 : decode prog_8_method_19_code 58 = .ok (.iload 5, 2) := by decide +kernel
theorem dM_breakText_60 : decode prog_8_method_19_code 60 = .ok (.iaload, 1) := by decide +kernel
theorem dM_breakText_61 : decode prog_8_method_19_code 61 = .ok (.if_icmp .ge 161, 3) := by decide +kernel
theorem dM_breakText_64 : decode prog_8_method_19_code 64 = .ok (.iload_n 2, 1) := by decide +kernel
theorem dM_breakText_65 : decode prog_8_method_19_code 65 = .ok (.aload_n 0, 1) := by decide +kernel
theorem dM_breakText_66 : decode prog_8_method_19_code 66 = .ok (.getfield 42, 3) := by decide +kernel
theorem dM_breakText_69 : decode prog_8_method_19_code 69 = .ok (.iconst 4, 1) := by decide +kernel
theorem dM_breakText_70 : decode prog_8_method_19_code 70 = .ok (.iload 5, 2) := by decide +kernel
theorem dM_breakText_72 : decode prog_8_method_19_code 72 = .ok (.imul, 1) := by decide +kernel
theorem dM_breakText_73 : decode prog_8_method_19_code 73 = .ok (.iload 7, 2) := by decide +kernel
theorem dM_breakText_75 : decode prog_8_method_19_code 75 = .ok (.iadd, 1) := by decide +kernel
theorem dM_breakText_76 : decode prog_8_method_19_code 76 = .ok (.iaload, 1) := by decide +kernel
theorem dM_breakText_77 : decode prog_8_method_19_code 77 = .ok (.imul, 1) := by decide +kernel
theorem dM_breakText_78 : decode prog_8_method_19_code 78 = .ok (.istore 8, 2) := by decide +kernel
theorem dM_breakText_80 : decode prog_8_method_19_code 80 = .ok (.iload 7, 2) := by decide +kernel
theorem dM_breakText_82 : decode prog_8_method_19_code 82 = .ok (.ifCond .le 28, 3) := by decide +kernel
theorem dM_breakText_85 : decode prog_8_method_19_code 85 = .ok (.aload_n 0, 1) := by decide +kernel
theorem dM_breakText_86 : decode prog_8_method_19_code 86 = .ok (.getfield 72, 3) := by decide +kernel
theorem dM_breakText_89 : decode prog_8_method_19_code 89 = .ok (.aload_n 0, 1) := by decide +kernel
theorem dM_breakText_90 : decode prog_8_method_19_code 90 = .ok (.getfield 110, 3) := by decide +kernel
theorem dM_breakText_93 : decode prog_8_method_19_code 93 = .ok (.iconst 1, 1) := by decide +kernel
theorem dM_breakText_94 : decode prog_8_method_19_code 94 = .ok (.isub, 1) := by decide +kernel
theorem dM_breakText_95 : decode prog_8_method_19_code 95 = .ok (.iaload, 1) := by decide +kernel
theorem dM_breakText_96 : decode prog_8_method_19_code 96 = .ok (.iload_n 2, 1) := by decide +kernel
theorem dM_breakText_97 : decode prog_8_method_19_code 97 = .ok (.iadd, 1) := by decide +kernel
theorem dM_breakText_98 : decode prog_8_method_19_code 98 = .ok (.iload 8, 2) := by decide +kernel
theorem dM_breakText_100 : decode prog_8_method_19_code 100 = .ok (.iadd, 1) := by decide +kernel
theorem dM_breakText_101 : decode prog_8_method_19_code 101 = .ok (.iload 6, 2) := by decide +kernel
theorem dM_breakText_103 : decode prog_8_method_19_code 103 = .ok (.if_icmp .gt 7, 3) := by decide +kernel
theorem dM_breakText_106 : decode prog_8_method_19_code 106 = .ok (.iconst 1, 1) := by decide +kernel
theorem dM_breakText_107 : decode prog_8_method_19_code 107 = .ok (.goto 4, 3) := by decide +kernel
theorem dM_breakText_110 : decode prog_8_method_19_code 110 = .ok (.iconst 0, 1) := by decide +kernel
theorem dM_breakText_111 : decode prog_8_method_19_code 111 = .ok (.istore 9, 2) := by decide +kernel
theorem dM_breakText_113 : decode prog_8_method_19_code 113 = .ok (.iload 9, 2) := by decide +kernel
theorem dM_breakText_115 : decode prog_8_method_19_code 115 = .ok (.ifCond .eq 48, 3) := by decide +kernel
theorem dM_breakText_118 : decode prog_8_method_19_code 118 = .ok (.aload_n 0, 1) := by decide +kernel
theorem dM_breakText_119 : decode prog_8_method_19_code 119 = .ok (.getfield 72, 3) := by decide +kernel
theorem dM_breakText_122 : decode prog_8_method_19_code 122 = .ok (.aload_n 0, 1) := by decide +kernel
theorem dM_breakText_123 : decode prog_8_method_19_code 123 = .ok (.getfield 110, 3) := by decide +kernel
theorem dM_breakText_126 : decode prog_8_method_19_code 126 = .ok (.iconst 1, 1) := by decide +kernel
theorem dM_breakText_127 : decode prog_8_method_19_code 127 = .ok (.isub, 1) := by decide +kernel
theorem dM_breakText_128 : decode prog_8_method_19_code 128 = .ok (.aload_n 0, 1) := by decide +kernel
theorem dM_breakText_129 : decode prog_8_method_19_code 129 = .ok (.getfield 72, 3) := by decide +kernel
theorem dM_breakText_132 : decode prog_8_method_19_code 132 = .ok (.aload_n 0, 1) := by decide +kernel
theorem dM_breakText_133 : decode prog_8_method_19_code 133 = .ok (.getfield 110, 3) := by decide +kernel
theorem dM_breakText_136 : decode prog_8_method_19_code 136 = .ok (.iconst 1, 1) := by decide +kernel
theorem dM_breakText_137 : decode prog_8_method_19_code 137 = .ok (.isub, 1) := by decide +kernel
theorem dM_breakText_138 : decode prog_8_method_19_code 138 = .ok (.iaload, 1) := by decide +kernel
theorem dM_breakText_139 : decode prog_8_method_19_code 139 = .ok (.iload_n 2, 1) := by decide +kernel
theorem dM_breakText_140 : decode prog_8_method_19_code 140 = .ok (.iadd, 1) := by decide +kernel
theorem dM_breakText_141 : decode prog_8_method_19_code 141 = .ok (.iload 8, 2) := by decide +kernel
theorem dM_breakText_143 : decode prog_8_method_19_code 143 = .ok (.iadd, 1) := by decide +kernel
theorem dM_breakText_144 : decode prog_8_method_19_code 144 = .ok (.iastore, 1) := by decide +kernel
theorem dM_breakText_145 : decode prog_8_method_19_code 145 = .ok (.aload_n 0, 1) := by decide +kernel
theorem dM_breakText_146 : decode prog_8_method_19_code 146 = .ok (.getfield 69, 3) := by decide +kernel
theorem dM_breakText_149 : decode prog_8_method_19_code 149 = .ok (.aload_n 0, 1) := by decide +kernel
theorem dM_breakText_150 : decode prog_8_method_19_code 150 = .ok (.getfield 110, 3) := by decide +kernel
theorem dM_breakText_153 : decode prog_8_method_19_code 153 = .ok (.iconst 1, 1) := by decide +kernel
theorem dM_breakText_154 : decode prog_8_method_19_code 154 = .ok (.isub, 1) := by decide +kernel
theorem dM_breakText_155 : decode prog_8_method_19_code 155 = .ok (.dup2, 1) := by decide +kernel
theorem dM_breakText_156 : decode prog_8_method_19_code 156 = .ok (.iaload, 1) := by decide +kernel
theorem dM_breakText_157 : decode prog_8_method_19_code 157 = .ok (.iconst 1, 1) := by decide +kernel
theorem dM_breakText_158 : decode prog_8_method_19_code 158 = .ok (.iadd, 1) := by decide +kernel
theorem dM_breakText_159 : decode prog_8_method_19_code 159 = .ok (.iastore, 1) := by decide +kernel
theorem dM_breakText_160 : decode prog_8_method_19_code 160 = .ok (.goto 56, 3) := by decide +kernel
theorem dM_breakText_163 : decode prog_8_method_19_code 163 = .ok (.aload_n 0, 1) := by decide +kernel
theorem dM_breakText_164 : decode prog_8_method_19_code 164 = .ok (.getfield 63, 3) := by decide +kernel
theorem dM_breakText_167 : decode prog_8_method_19_code 167 = .ok (.aload_n 0, 1) := by decide +kernel
theorem dM_breakText_168 : decode prog_8_method_19_code 168 = .ok (.getfield 110, 3) := by decide +kernel
theorem dM_breakText_171 : decode prog_8_method_19_code 171 = .ok (.iload 4, 2) := by decide +kernel
theorem dM_breakText_173 : decode prog_8_method_19_code 173 = .ok (.iastore, 1) := by decide +kernel
theorem dM_breakText_174 : decode prog_8_method_19_code 174 = .ok (.aload_n 0, 1) := by decide +kernel
theorem dM_breakText_175 : decode prog_8_method_19_code 175 = .ok (.getfield 66, 3) := by decide +kernel
theorem dM_breakText_178 : decode prog_8_method_19_code 178 = .ok (.aload_n 0, 1) := by decide +kernel
theorem dM_breakText_179 : decode prog_8_method_19_code 179 = .ok (.getfield 110, 3) := by decide +kernel
theorem dM_breakText_182 : decode prog_8_method_19_code 182 = .ok (.iload 7, 2) := by decide +kernel
theorem dM_breakText_184 : decode prog_8_method_19_code 184 = .ok (.iastore, 1) := by decide +kernel
theorem dM_breakText_185 : decode prog_8_method_19_code 185 = .ok (.aload_n 0, 1) := by decide +kernel
theorem dM_breakText_186 : decode prog_8_method_19_code 186 = .ok (.getfield 69, 3) := by decide +kernel
theorem dM_breakText_189 : decode prog_8_method_19_code 189 = .ok (.aload_n 0, 1) := by decide +kernel
theorem dM_breakText_190 : decode prog_8_method_19_code 190 = .ok (.getfield 110, 3) := by decide +kernel
theorem dM_breakText_193 : decode prog_8_method_19_code 193 = .ok (.iconst 1, 1) := by decide +kernel
theorem dM_breakText_194 : decode prog_8_method_19_code 194 = .ok (.iastore, 1) := by decide +kernel
theorem dM_breakText_195 : decode prog_8_method_19_code 195 = .ok (.aload_n 0, 1) := by decide +kernel
theorem dM_breakText_196 : decode prog_8_method_19_code 196 = .ok (.getfield 72, 3) := by decide +kernel
theorem dM_breakText_199 : decode prog_8_method_19_code 199 = .ok (.aload_n 0, 1) := by decide +kernel
theorem dM_breakText_200 : decode prog_8_method_19_code 200 = .ok (.getfield 110, 3) := by decide +kernel
theorem dM_breakText_203 : decode prog_8_method_19_code 203 = .ok (.iload 8, 2) := by decide +kernel
theorem dM_breakText_205 : decode prog_8_method_19_code 205 = .ok (.iastore, 1) := by decide +kernel
theorem dM_breakText_206 : decode prog_8_method_19_code 206 = .ok (.aload_n 0, 1) := by decide +kernel
theorem dM_breakText_207 : decode prog_8_method_19_code 207 = .ok (.dup, 1) := by decide +kernel
theorem dM_breakText_208 : decode prog_8_method_19_code 208 = .ok (.getfield 110, 3) := by decide +kernel
theorem dM_breakText_211 : decode prog_8_method_19_code 211 = .ok (.iconst 1, 1) := by decide +kernel
theorem dM_breakText_212 : decode prog_8_method_19_code 212 = .ok (.iadd, 1) := by decide +kernel
theorem dM_breakText_213 : decode prog_8_method_19_code 213 = .ok (.putfield 110, 3) := by decide +kernel
theorem dM_breakText_216 : decode prog_8_method_19_code 216 = .ok (.iinc 7 1, 3) := by decide +kernel
theorem dM_breakText_219 : decode prog_8_method_19_code 219 = .ok (.goto (-167), 3) := by decide +kernel
theorem dM_breakText_222 : decode prog_8_method_19_code 222 = .ok (.iinc 4 1, 3) := by decide +kernel
theorem dM_breakText_225 : decode prog_8_method_19_code 225 = .ok (.goto (-210), 3) := by decide +kernel
theorem dM_breakText_228 : decode prog_8_method_19_code 228 = .ok (.return_, 1) := by decide +kernel
theorem dM_lines_0 : decode prog_8_method_22_code 0 = .ok (.aload_n 0, 1) := by decide +kernel
theorem dM_lines_1 : decode prog_8_method_22_code 1 = .ok (.aload_n 0, 1) := by decide +kernel
theorem dM_lines_2 : decode prog_8_method_22_code 2 = .ok (.iload_n 1, 1) := by decide +kernel
theorem dM_lines_3 : decode prog_8_method_22_code 3 = .ok (.invokevirtual 98, 3) := by decide +kernel
theorem dM_lines_6 : decode prog_8_method_22_code 6 = .ok (.ifCond .eq 7, 3) := by decide +kernel
theorem dM_lines_9 : decode prog_8_method_22_code 9 = .ok (.iconst 1, 1) := by decide +kernel
theorem dM_lines_10 : decode prog_8_method_22_code 10 = .ok (.goto 4, 3) := by decide +kernel
theorem dM_lines_13 : decode prog_8_method_22_code 13 = .ok (.iconst 0, 1) := by decide +kernel
theorem dM_lines_14 : decode prog_8_method_22_code 14 = .ok (.putfield 75, 3) := by decide +kernel
theorem dM_lines_17 : decode prog_8_method_22_code 17 = .ok (.aload_n 0, 1) := by decide +kernel
theorem dM_lines_18 : decode prog_8_method_22_code 18 = .ok (.getfield 75, 3) := by decide +kernel
theorem dM_lines_21 : decode prog_8_method_22_code 21 = .ok (.ifCond .le 5, 3) := by decide +kernel
theorem dM_lines_24 : decode prog_8_method_22_code 24 = .ok (.iconst 0, 1) := by decide +kernel
theorem dM_lines_25 : decode prog_8_method_22_code 25 = .ok (.ireturn, 1) := by decide +kernel
theorem dM_lines_26 : decode prog_8_method_22_code 26 = .ok (.aload_n 0, 1) := by decide +kernel
theorem dM_lines_27 : decode prog_8_method_22_code 27 = .ok (.iload_n 1, 1) := by decide +kernel
theorem dM_lines_28 : decode prog_8_method_22_code 28 = .ok (.invokevirtual 117, 3) := by decide +kernel
theorem dM_lines_31 : decode prog_8_method_22_code 31 = .ok (.istore_n 2, 1) := by decide +kernel
theorem dM_lines_32 : decode prog_8_method_22_code 32 = .ok (.iload_n 2, 1) := by decide +kernel
theorem dM_lines_33 : decode prog_8_method_22_code 33 = .ok (.ifCond .ge 7, 3) := by decide +kernel
theorem dM_lines_36 : decode prog_8_method_22_code 36 = .ok (.iconst 0, 1) := by decide +kernel
theorem dM_lines_37 : decode prog_8_method_22_code 37 = .ok (.goto 7, 3) := by decide +kernel
theorem dM_lines_40 : decode prog_8_method_22_code 40 = .ok (.aload_n 0, 1) := by decide +kernel
theorem dM_lines_41 : decode prog_8_method_22_code 41 = .ok (.getfield 110, 3) := by decide +kernel
theorem dM_lines_44 : decode prog_8_method_22_code 44 = .ok (.ireturn, 1) := by decide +kernel
theorem dM_line_0 : decode prog_8_method_23_code 0 = .ok (.aload_n 0, 1) := by decide +kernel
theorem dM_line_1 : decode prog_8_method_23_code 1 = .ok (.aload_n 0, 1) := by decide +kernel
theorem dM_line_2 : decode prog_8_method_23_code 2 = .ok (.iload_n 1, 1) := by decide +kernel
theorem dM_line_3 : decode prog_8_method_23_code 3 = .ok (.invokevirtual 98, 3) := by decide +kernel
theorem dM_line_6 : decode prog_8_method_23_code 6 = .ok (.ifCond .eq 7, 3) := by decide +kernel
theorem dM_line_9 : decode prog_8_method_23_code 9 = .ok (.iconst 1, 1) := by decide +kernel
theorem dM_line_10 : decode prog_8_method_23_code 10 = .ok (.goto 4, 3) := by decide +kernel
theorem dM_line_13 : decode prog_8_method_23_code 13 = .ok (.iconst 0, 1) := by decide +kernel
theorem dM_line_14 : decode prog_8_method_23_code 14 = .ok (.putfield 75, 3) := by decide +kernel
theorem dM_line_17 : decode prog_8_method_23_code 17 = .ok (.aload_n 0, 1) := by decide +kernel
theorem dM_line_18 : decode prog_8_method_23_code 18 = .ok (.getfield 75, 3) := by decide +kernel
theorem dM_line_21 : decode prog_8_method_23_code 21 = .ok (.ifCond .le 5, 3) := by decide +kernel
theorem dM_line_24 : decode prog_8_method_23_code 24 = .ok (.iconst 0, 1) := by decide +kernel
theorem dM_line_25 : decode prog_8_method_23_code 25 = .ok (.ireturn, 1) := by decide +kernel
theorem dM_line_26 : decode prog_8_method_23_code 26 = .ok (.aload_n 0, 1) := by decide +kernel
theorem dM_line_27 : decode prog_8_method_23_code 27 = .ok (.iload_n 1, 1) := by decide +kernel
theorem dM_line_28 : decode prog_8_method_23_code 28 = .ok (.invokevirtual 117, 3) := by decide +kernel
theorem dM_line_31 : decode prog_8_method_23_code 31 = .ok (.istore 4, 2) := by decide +kernel
theorem dM_line_33 : decode prog_8_method_23_code 33 = .ok (.iload 4, 2) := by decide +kernel
theorem dM_line_35 : decode prog_8_method_23_code 35 = .ok (.ifCond .lt 15, 3) := by decide +kernel
theorem dM_line_38 : decode prog_8_method_23_code 38 = .ok (.iload_n 2, 1) := by decide +kernel
theorem dM_line_39 : decode prog_8_method_23_code 39 = .ok (.ifCond .lt 11, 3) := by decide +kernel
theorem dM_line_42 : decode prog_8_method_23_code 42 = .ok (.iload_n 2, 1) := by decide +kernel
theorem dM_line_43 : decode prog_8_method_23_code 43 = .ok (.aload_n 0, 1) := by decide +kernel
theorem dM_line_44 : decode prog_8_method_23_code 44 = .ok (.getfield 110, 3) := by decide +kernel
theorem dM_line_47 : decode prog_8_method_23_code 47 = .ok (.if_icmp .lt 5, 3) := by decide +kernel
theorem dM_line_50 : decode prog_8_method_23_code 50 = .ok (.iconst (-1), 1) := by decide +kernel
theorem dM_line_51 : decode prog_8_method_23_code 51 = .ok (.ireturn, 1) := by decide +kernel
theorem dM_line_52 : decode prog_8_method_23_code 52 = .ok (.iload_n 3, 1) := by decide +kernel
theorem dM_line_53 : decode prog_8_method_23_code 53 = .ok (.tableswitch 59 0 3 #[31, 38, 45, 52], 31) := by decide +kernel
theorem dM_line_84 : decode prog_8_method_23_code 84 = .ok (.aload_n 0, 1) := by decide +kernel
theorem dM_line_85 : decode prog_8_method_23_code 85 = .ok (.getfield 63, 3) := by decide +kernel
theorem dM_line_88 : decode prog_8_method_23_code 88 = .ok (.iload_n 2, 1) := by decide +kernel
theorem dM_line_89 : decode prog_8_method_23_code 89 = .ok (.iaload, 1) := by decide +kernel
theorem dM_line_90 : decode prog_8_method_23_code 90 = .ok (.ireturn, 1) := by decide +kernel
theorem dM_line_91 : decode prog_8_method_23_code 91 = .ok (.aload_n 0, 1) := by decide +kernel
theorem dM_line_92 : decode prog_8_method_23_code 92 = .ok (.getfield 66, 3) := by decide +kernel
theorem dM_line_95 : decode prog_8_method_23_code 95 = .ok (.iload_n 2, 1) := by decide +kernel
theorem dM_line_96 : decode prog_8_method_23_code 96 = .ok (.iaload, 1) := by decide +kernel
theorem dM_line_97 : decode prog_8_method_23_code 97 = .ok (.ireturn, 1) := by decide +kernel
theorem dM_line_98 : decode prog_8_method_23_code 98 = .ok (.aload_n 0, 1) := by decide +kernel
theorem dM_line_99 : decode prog_8_method_23_code 99 = .ok (.getfield 69, 3) := by decide +kernel
theorem dM_line_102 : decode prog_8_method_23_code 102 = .ok (.iload_n 2, 1) := by decide +kernel
theorem dM_line_103 : decode prog_8_method_23_code 103 = .ok (.iaload, 1) := by decide +kernel
theorem dM_line_104 : decode prog_8_method_23_code 104 = .ok (.ireturn, 1) := by decide +kernel
theorem dM_line_105 : decode prog_8_method_23_code 105 = .ok (.aload_n 0, 1) := by decide +kernel
theorem dM_line_106 : decode prog_8_method_23_code 106 = .ok (.getfield 72, 3) := by decide +kernel
theorem dM_line_109 : decode prog_8_method_23_code 109 = .ok (.iload_n 2, 1) := by decide +kernel
theorem dM_line_110 : decode prog_8_method_23_code 110 = .ok (.iaload, 1) := by decide +kernel
theorem dM_line_111 : decode prog_8_method_23_code 111 = .ok (.ireturn, 1) := by decide +kernel
theorem dM_line_112 : decode prog_8_method_23_code 112 = .ok (.iconst (-1), 1) := by decide +kernel
theorem dM_line_113 : decode prog_8_method_23_code 113 = .ok (.ireturn, 1) := by decide +kernel
theorem dM_number_0 : decode prog_8_method_24_code 0 = .ok (.aload_n 0, 1) := by decide +kernel
theorem dM_number_1 : decode prog_8_method_24_code 1 = .ok (.aload_n 0, 1) := by decide +kernel
theorem dM_number_2 : decode prog_8_method_24_code 2 = .ok (.iload_n 1, 1) := by decide +kernel
theorem dM_number_3 : decode prog_8_method_24_code 3 = .ok (.invokevirtual 98, 3) := by decide +kernel
theorem dM_number_6 : decode prog_8_method_24_code 6 = .ok (.ifCond .eq 7, 3) := by decide +kernel
theorem dM_number_9 : decode prog_8_method_24_code 9 = .ok (.iconst 1, 1) := by decide +kernel
theorem dM_number_10 : decode prog_8_method_24_code 10 = .ok (.goto 4, 3) := by decide +kernel
theorem dM_number_13 : decode prog_8_method_24_code 13 = .ok (.iconst 0, 1) := by decide +kernel
theorem dM_number_14 : decode prog_8_method_24_code 14 = .ok (.putfield 75, 3) := by decide +kernel
theorem dM_number_17 : decode prog_8_method_24_code 17 = .ok (.aload_n 0, 1) := by decide +kernel
theorem dM_number_18 : decode prog_8_method_24_code 18 = .ok (.getfield 75, 3) := by decide +kernel
theorem dM_number_21 : decode prog_8_method_24_code 21 = .ok (.ifCond .le 5, 3) := by decide +kernel
theorem dM_number_24 : decode prog_8_method_24_code 24 = .ok (.iconst 0, 1) := by decide +kernel
theorem dM_number_25 : decode prog_8_method_24_code 25 = .ok (.ireturn, 1) := by decide +kernel
theorem dM_number_26 : decode prog_8_method_24_code 26 = .ok (.iload_n 2, 1) := by decide +kernel
theorem dM_number_27 : decode prog_8_method_24_code 27 = .ok (.ifCond .lt 13, 3) := by decide +kernel
theorem dM_number_30 : decode prog_8_method_24_code 30 = .ok (.iload_n 2, 1) := by decide +kernel
theorem dM_number_31 : decode prog_8_method_24_code 31 = .ok (.aload_n 0, 1) := by decide +kernel
theorem dM_number_32 : decode prog_8_method_24_code 32 = .ok (.getfield 33, 3) := by decide +kernel
theorem dM_number_35 : decode prog_8_method_24_code 35 = .ok (.iload_n 1, 1) := by decide +kernel
theorem dM_number_36 : decode prog_8_method_24_code 36 = .ok (.iaload, 1) := by decide +kernel
theorem dM_number_37 : decode prog_8_method_24_code 37 = .ok (.if_icmp .lt 5, 3) := by decide +kernel
theorem dM_number_40 : decode prog_8_method_24_code 40 = .ok (.iconst (-1), 1) := by decide +kernel
theorem dM_number_41 : decode prog_8_method_24_code 41 = .ok (.ireturn, 1) := by decide +kernel
theorem dM_number_42 : decode prog_8_method_24_code 42 = .ok (.aload_n 0, 1) := by decide +kernel
theorem dM_number_43 : decode prog_8_method_24_code 43 = .ok (.getfield 36, 3) := by decide +kernel
theorem dM_number_46 : decode prog_8_method_24_code 46 = .ok (.iconst 4, 1) := by decide +kernel
theorem dM_number_47 : decode prog_8_method_24_code 47 = .ok (.iload_n 1, 1) := by decide +kernel
theorem dM_number_48 : decode prog_8_method_24_code 48 = .ok (.imul, 1) := by decide +kernel
theorem dM_number_49 : decode prog_8_method_24_code 49 = .ok (.iload_n 2, 1) := by decide +kernel
theorem dM_number_50 : decode prog_8_method_24_code 50 = .ok (.iadd, 1) := by decide +kernel
theorem dM_number_51 : decode prog_8_method_24_code 51 = .ok (.iaload, 1) := by decide +kernel
theorem dM_number_52 : decode prog_8_method_24_code 52 = .ok (.istore_n 3, 1) := by decide +kernel
theorem dM_number_53 : decode prog_8_method_24_code 53 = .ok (.iconst 0, 1) := by decide +kernel
theorem dM_number_54 : decode prog_8_method_24_code 54 = .ok (.istore 4, 2) := by decide +kernel
theorem dM_number_56 : decode prog_8_method_24_code 56 = .ok (.iconst 0, 1) := by decide +kernel
theorem dM_number_57 : decode prog_8_method_24_code 57 = .ok (.istore 5, 2) := by decide +kernel
theorem dM_number_59 : decode prog_8_method_24_code 59 = .ok (.iload 5, 2) := by decide +kernel
theorem dM_number_61 : decode prog_8_method_24_code 61 = .ok (.iload_n 2, 1) := by decide +kernel
theorem dM_number_62 : decode prog_8_method_24_code 62 = .ok (.if_icmp .gt 49, 3) := by decide +kernel
theorem dM_number_65 : decode prog_8_method_24_code 65 = .ok (.aload_n 0, 1) := by decide +kernel
theorem dM_number_66 : decode prog_8_method_24_code 66 = .ok (.getfield 36, 3) := by decide +kernel
theorem dM_number_69 : decode prog_8_method_24_code 69 = .ok (.iconst 4, 1) := by decide +kernel
theorem dM_number_70 : decode prog_8_method_24_code 70 = .ok (.iload_n 1, 1) := by decide +kernel
theorem dM_number_71 : decode prog_8_method_24_code 71 = .ok (.imul, 1) := by decide +kernel
theorem dM_number_72 : decode prog_8_method_24_code 72 = .ok (.iload 5, 2) := by decide +kernel
theorem dM_number_74 : decode prog_8_method_24_code 74 = .ok (.iadd, 1) := by decide +kernel
theorem dM_number_75 : decode prog_8_method_24_code 75 = .ok (.iaload, 1) := by decide +kernel
theorem dM_number_76 : decode prog_8_method_24_code 76 = .ok (.istore 6, 2) := by decide +kernel
theorem dM_number_78 : decode prog_8_method_24_code 78 = .ok (.iload 6, 2) := by decide +kernel
theorem dM_number_80 : decode prog_8_method_24_code 80 = .ok (.iload_n 3, 1) := by decide +kernel
theorem dM_number_81 : decode prog_8_method_24_code 81 = .ok (.if_icmp .ge 7, 3) := by decide +kernel
theorem dM_number_84 : decode prog_8_method_24_code 84 = .ok (.iconst 0, 1) := by decide +kernel
theorem dM_number_85 : decode prog_8_method_24_code 85 = .ok (.goto 18, 3) := by decide +kernel
theorem dM_number_88 : decode prog_8_method_24_code 88 = .ok (.iload 6, 2) := by decide +kernel
theorem dM_number_90 : decode prog_8_method_24_code 90 = .ok (.iload_n 3, 1) := by decide +kernel
theorem dM_number_91 : decode prog_8_method_24_code 91 = .ok (.if_icmp .ne 10, 3) := by decide +kernel
theorem dM_number_94 : decode prog_8_method_24_code 94 = .ok (.iload 4, 2) := by decide +kernel
theorem dM_number_96 : decode prog_8_method_24_code 96 = .ok (.iconst 1, 1) := by decide +kernel
theorem dM_number_97 : decode prog_8_method_24_code 97 = .ok (.iadd, 1) := by decide +kernel
theorem dM_number_98 : decode prog_8_method_24_code 98 = .ok (.goto 5, 3) := by decide +kernel
theorem dM_number_101 : decode prog_8_method_24_code 101 = .ok (.iload 4, 2) := by decide +kernel
theorem dM_number_103 : decode prog_8_method_24_code 103 = .ok (.istore 4, 2) := by decide +kernel
theorem dM_number_105 : decode prog_8_method_24_code 105 = .ok (.iinc 5 1, 3) := by decide +kernel
theorem dM_number_108 : decode prog_8_method_24_code 108 = .ok (.goto (-49), 3) := by decide +kernel
theorem dM_number_111 : decode prog_8_method_24_code 111 = .ok (.iload 4, 2) := by decide +kernel
theorem dM_number_113 : decode prog_8_method_24_code 113 = .ok (.ireturn, 1) := by decide +kernel
theorem dM_effect_0 : decode prog_8_method_25_code 0 = .ok (.iload_n 2, 1) := by decide +kernel
theorem dM_effect_1 : decode prog_8_method_25_code 1 = .ok (.ifCond .lt 45, 3) := by decide +kernel
theorem dM_effect_4 : decode prog_8_method_25_code 4 = .ok (.iload_n 2, 1) := by decide +kernel
theorem dM_effect_5 : decode prog_8_method_25_code 5 = .ok (.iconst 3, 1) := by decide +kernel
theorem dM_effect_6 : decode prog_8_method_25_code 6 = .ok (.if_icmp .gt 40, 3) := by decide +kernel
theorem dM_effect_9 : decode prog_8_method_25_code 9 = .ok (.iload_n 3, 1) := by decide +kernel
theorem dM_effect_10 : decode prog_8_method_25_code 10 = .ok (.ifCond .lt 36, 3) := by decide +kernel
theorem dM_effect_13 : decode prog_8_method_25_code 13 = .ok (.iload_n 3, 1) := by decide +kernel
theorem dM_effect_14 : decode prog_8_method_25_code 14 = .ok (.iconst 2, 1) := by decide +kernel
theorem dM_effect_15 : decode prog_8_method_25_code 15 = .ok (.if_icmp .gt 31, 3) := by decide +kernel
theorem dM_effect_18 : decode prog_8_method_25_code 18 = .ok (.iload 4, 2) := by decide +kernel
theorem dM_effect_20 : decode prog_8_method_25_code 20 = .ok (.ifCond .lt 26, 3) := by decide +kernel
theorem dM_effect_23 : decode prog_8_method_25_code 23 = .ok (.iload 4, 2) := by decide +kernel
theorem dM_effect_25 : decode prog_8_method_25_code 25 = .ok (.bipush 50, 2) := by decide +kernel
theorem dM_effect_27 : decode prog_8_method_25_code 27 = .ok (.if_icmp .gt 19, 3) := by decide +kernel
theorem dM_effect_30 : decode prog_8_method_25_code 30 = .ok (.iload 5, 2) := by decide +kernel
theorem dM_effect_32 : decode prog_8_method_25_code 32 = .ok (.ifCond .lt 14, 3) := by decide +kernel
theorem dM_effect_35 : decode prog_8_method_25_code 35 = .ok (.iload 5, 2) := by decide +kernel
theorem dM_effect_37 : decode prog_8_method_25_code 37 = .ok (.bipush 50, 2) := by decide +kernel
theorem dM_effect_39 : decode prog_8_method_25_code 39 = .ok (.if_icmp .gt 7, 3) := by decide +kernel
theorem dM_effect_42 : decode prog_8_method_25_code 42 = .ok (.iconst 1, 1) := by decide +kernel
theorem dM_effect_43 : decode prog_8_method_25_code 43 = .ok (.goto 4, 3) := by decide +kernel
theorem dM_effect_46 : decode prog_8_method_25_code 46 = .ok (.iconst 0, 1) := by decide +kernel
theorem dM_effect_47 : decode prog_8_method_25_code 47 = .ok (.istore 6, 2) := by decide +kernel
theorem dM_effect_49 : decode prog_8_method_25_code 49 = .ok (.aload_n 0, 1) := by decide +kernel
theorem dM_effect_50 : decode prog_8_method_25_code 50 = .ok (.aload_n 0, 1) := by decide +kernel
theorem dM_effect_51 : decode prog_8_method_25_code 51 = .ok (.iload_n 1, 1) := by decide +kernel
theorem dM_effect_52 : decode prog_8_method_25_code 52 = .ok (.invokevirtual 98, 3) := by decide +kernel
theorem dM_effect_55 : decode prog_8_method_25_code 55 = .ok (.ifCond .eq 7, 3) := by decide +kernel
theorem dM_effect_58 : decode prog_8_method_25_code 58 = .ok (.iconst 1, 1) := by decide +kernel
theorem dM_effect_59 : decode prog_8_method_25_code 59 = .ok (.goto 45, 3) := by decide +kernel
theorem dM_effect_62 : decode prog_8_method_25_code 62 = .ok (.iload 6, 2) := by decide +kernel
theorem dM_effect_64 : decode prog_8_method_25_code 64 = .ok (.ifCond .ne 7, 3) := by decide +kernel
theorem dM_effect_67 : decode prog_8_method_25_code 67 = .ok (.iconst 2, 1) := by decide +kernel
theorem dM_effect_68 : decode prog_8_method_25_code 68 = .ok (.goto 36, 3) := by decide +kernel
theorem dM_effect_71 : decode prog_8_method_25_code 71 = .ok (.aload_n 0, 1) := by decide +kernel
theorem dM_effect_72 : decode prog_8_method_25_code 72 = .ok (.getfield 7, 3) := by decide +kernel
theorem dM_effect_75 : decode prog_8_method_25_code 75 = .ok (.aload_n 0, 1) := by decide +kernel
theorem dM_effect_76 : decode prog_8_method_25_code 76 = .ok (.getfield 16, 3) := by decide +kernel
theorem dM_effect_79 : decode prog_8_method_25_code 79 = .ok (.iload_n 1, 1) := by decide +kernel
theorem dM_effect_80 : decode prog_8_method_25_code 80 = .ok (.iaload, 1) := by decide +kernel
theorem dM_effect_81 : decode prog_8_method_25_code 81 = .ok (.iaload, 1) := by decide +kernel
theorem dM_effect_82 : decode prog_8_method_25_code 82 = .ok (.iconst 2, 1) := by decide +kernel
theorem dM_effect_83 : decode prog_8_method_25_code 83 = .ok (.if_icmp .eq 7, 3) := by decide +kernel
theorem dM_effect_86 : decode prog_8_method_25_code 86 = .ok (.iconst 3, 1) := by decide +kernel
theorem dM_effect_87 : decode prog_8_method_25_code 87 = .ok (.goto 17, 3) := by decide +kernel
theorem dM_effect_90 : decode prog_8_method_25_code 90 = .ok (.aload_n 0, 1) := by decide +kernel
theorem dM_effect_91 : decode prog_8_method_25_code 91 = .ok (.getfield 121, 3) := by decide +kernel
theorem dM_effect_94 : decode prog_8_method_25_code 94 = .ok (.bipush 24, 2) := by decide +kernel
theorem dM_effect_96 : decode prog_8_method_25_code 96 = .ok (.if_icmp .ne 7, 3) := by decide +kernel
theorem dM_effect_99 : decode prog_8_method_25_code 99 = .ok (.iconst 4, 1) := by decide +kernel
theorem dM_effect_100 : decode prog_8_method_25_code 100 = .ok (.goto 4, 3) := by decide +kernel
theorem dM_effect_103 : decode prog_8_method_25_code 103 = .ok (.iconst 0, 1) := by decide +kernel
theorem dM_effect_104 : decode prog_8_method_25_code 104 = .ok (.putfield 75, 3) := by decide +kernel
theorem dM_effect_107 : decode prog_8_method_25_code 107 = .ok (.aload_n 0, 1) := by decide +kernel
theorem dM_effect_108 : decode prog_8_method_25_code 108 = .ok (.getfield 75, 3) := by decide +kernel
theorem dM_effect_111 : decode prog_8_method_25_code 111 = .ok (.ifCond .le 5, 3) := by decide +kernel
theorem dM_effect_114 : decode prog_8_method_25_code 114 = .ok (.iconst 0, 1) := by decide +kernel
theorem dM_effect_115 : decode prog_8_method_25_code 115 = .ok (.ireturn, 1) := by decide +kernel
theorem dM_effect_116 : decode prog_8_method_25_code 116 = .ok (.aload_n 0, 1) := by decide +kernel
theorem dM_effect_117 : decode prog_8_method_25_code 117 = .ok (.getfield 45, 3) := by decide +kernel
theorem dM_effect_120 : decode prog_8_method_25_code 120 = .ok (.aload_n 0, 1) := by decide +kernel
theorem dM_effect_121 : decode prog_8_method_25_code 121 = .ok (.getfield 121, 3) := by decide +kernel
theorem dM_effect_124 : decode prog_8_method_25_code 124 = .ok (.iload_n 1, 1) := by decide +kernel
theorem dM_effect_125 : decode prog_8_method_25_code 125 = .ok (.iastore, 1) := by decide +kernel
theorem dM_effect_126 : decode prog_8_method_25_code 126 = .ok (.aload_n 0, 1) := by decide +kernel
theorem dM_effect_127 : decode prog_8_method_25_code 127 = .ok (.getfield 48, 3) := by decide +kernel
theorem dM_effect_130 : decode prog_8_method_25_code 130 = .ok (.aload_n 0, 1) := by decide +kernel
theorem dM_effect_131 : decode prog_8_method_25_code 131 = .ok (.getfield 121, 3) := by decide +kernel
theorem dM_effect_134 : decode prog_8_method_25_code 134 = .ok (.iload_n 2, 1) := by decide +kernel
theorem dM_effect_135 : decode prog_8_method_25_code 135 = .ok (.iastore, 1) := by decide +kernel
theorem dM_effect_136 : decode prog_8_method_25_code 136 = .ok (.aload_n 0, 1) := by decide +kernel
theorem dM_effect_137 : decode prog_8_method_25_code 137 = .ok (.getfield 51, 3) := by decide +kernel
theorem dM_effect_140 : decode prog_8_method_25_code 140 = .ok (.aload_n 0, 1) := by decide +kernel
theorem dM_effect_141 : decode prog_8_method_25_code 141 = .ok (.getfield 121, 3) := by decide +kernel
theorem dM_effect_144 : decode prog_8_method_25_code 144 = .ok (.iload_n 3, 1) := by decide +kernel
theorem dM_effect_145 : decode prog_8_method_25_code 145 = .ok (.iastore, 1) := by decide +kernel
theorem dM_effect_146 : decode prog_8_method_25_code 146 = .ok (.aload_n 0, 1) := by decide +kernel
theorem dM_effect_147 : decode prog_8_method_25_code 147 = .ok (.getfield 54, 3) := by decide +kernel
theorem dM_effect_150 : decode prog_8_method_25_code 150 = .ok (.aload_n 0, 1) := by decide +kernel
theorem dM_effect_151 : decode prog_8_method_25_code 151 = .ok (.getfield 121, 3) := by decide +kernel
theorem dM_effect_154 : decode prog_8_method_25_code 154 = .ok (.iload 4, 2) := by decide +kernel
theorem dM_effect_156 : decode prog_8_method_25_code 156 = .ok (.iastore, 1) := by decide +kernel
theorem dM_effect_157 : decode prog_8_method_25_code 157 = .ok (.aload_n 0, 1) := by decide +kernel
theorem dM_effect_158 : decode prog_8_method_25_code 158 = .ok (.getfield 57, 3) := by decide +kernel
theorem dM_effect_161 : decode prog_8_method_25_code 161 = .ok (.aload_n 0, 1) := by decide +kernel
theorem dM_effect_162 : decode prog_8_method_25_code 162 = .ok (.getfield 121, 3) := by decide +kernel
theorem dM_effect_165 : decode prog_8_method_25_code 165 = .ok (.iload 5, 2) := by decide +kernel
theorem dM_effect_167 : decode prog_8_method_25_code 167 = .ok (.iastore, 1) := by decide +kernel
theorem dM_effect_168 : decode prog_8_method_25_code 168 = .ok (.aload_n 0, 1) := by decide +kernel
theorem dM_effect_169 : decode prog_8_method_25_code 169 = .ok (.getfield 60, 3) := by decide +kernel
theorem dM_effect_172 : decode prog_8_method_25_code 172 = .ok (.aload_n 0, 1) := by decide +kernel
theorem dM_effect_173 : decode prog_8_method_25_code 173 = .ok (.getfield 121, 3) := by decide +kernel
theorem dM_effect_176 : decode prog_8_method_25_code 176 = .ok (.iconst 0, 1) := by decide +kernel
theorem dM_effect_177 : decode prog_8_method_25_code 177 = .ok (.iastore, 1) := by decide +kernel
theorem dM_effect_178 : decode prog_8_method_25_code 178 = .ok (.aload_n 0, 1) := by decide +kernel
theorem dM_effect_179 : decode prog_8_method_25_code 179 = .ok (.dup, 1) := by decide +kernel
theorem dM_effect_180 : decode prog_8_method_25_code 180 = .ok (.getfield 121, 3) := by decide +kernel
theorem dM_effect_183 : decode prog_8_method_25_code 183 = .ok (.iconst 1, 1) := by decide +kernel
theorem dM_effect_184 : decode prog_8_method_25_code 184 = .ok (.iadd, 1) := by decide +kernel
theorem dM_effect_185 : decode prog_8_method_25_code 185 = .ok (.putfield 121, 3) := by decide +kernel
theorem dM_effect_188 : decode prog_8_method_25_code 188 = .ok (.aload_n 0, 1) := by decide +kernel
theorem dM_effect_189 : decode prog_8_method_25_code 189 = .ok (.getfield 121, 3) := by decide +kernel
theorem dM_effect_192 : decode prog_8_method_25_code 192 = .ok (.iconst 1, 1) := by decide +kernel
theorem dM_effect_193 : decode prog_8_method_25_code 193 = .ok (.isub, 1) := by decide +kernel
theorem dM_effect_194 : decode prog_8_method_25_code 194 = .ok (.ireturn, 1) := by decide +kernel
theorem dM_amount_0 : decode prog_8_method_27_code 0 = .ok (.aload_n 0, 1) := by decide +kernel
theorem dM_amount_1 : decode prog_8_method_27_code 1 = .ok (.aload_n 0, 1) := by decide +kernel
theorem dM_amount_2 : decode prog_8_method_27_code 2 = .ok (.iload_n 1, 1) := by decide +kernel
theorem dM_amount_3 : decode prog_8_method_27_code 3 = .ok (.invokevirtual 124, 3) := by decide +kernel
theorem dM_amount_6 : decode prog_8_method_27_code 6 = .ok (.ifCond .eq 7, 3) := by decide +kernel
theorem dM_amount_9 : decode prog_8_method_27_code 9 = .ok (.iconst 1, 1) := by decide +kernel
theorem dM_amount_10 : decode prog_8_method_27_code 10 = .ok (.goto 20, 3) := by decide +kernel
theorem dM_amount_13 : decode prog_8_method_27_code 13 = .ok (.iload_n 2, 1) := by decide +kernel
theorem dM_amount_14 : decode prog_8_method_27_code 14 = .ok (.bipush (-40), 2) := by decide +kernel
theorem dM_amount_16 : decode prog_8_method_27_code 16 = .ok (.if_icmp .lt 9, 3) := by decide +kernel
theorem dM_amount_19 : decode prog_8_method_27_code 19 = .ok (.iload_n 2, 1) := by decide +kernel
theorem dM_amount_20 : decode prog_8_method_27_code 20 = .ok (.bipush 40, 2) := by decide +kernel
theorem dM_amount_22 : decode prog_8_method_27_code 22 = .ok (.if_icmp .le 7, 3) := by decide +kernel
theorem dM_amount_25 : decode prog_8_method_27_code 25 = .ok (.iconst 2, 1) := by decide +kernel
theorem dM_amount_26 : decode prog_8_method_27_code 26 = .ok (.goto 4, 3) := by decide +kernel
theorem dM_amount_29 : decode prog_8_method_27_code 29 = .ok (.iconst 0, 1) := by decide +kernel
theorem dM_amount_30 : decode prog_8_method_27_code 30 = .ok (.putfield 75, 3) := by decide +kernel
theorem dM_amount_33 : decode prog_8_method_27_code 33 = .ok (.aload_n 0, 1) := by decide +kernel
theorem dM_amount_34 : decode prog_8_method_27_code 34 = .ok (.getfield 75, 3) := by decide +kernel
theorem dM_amount_37 : decode prog_8_method_27_code 37 = .ok (.ifCond .ne 10, 3) := by decide +kernel
theorem dM_amount_40 : decode prog_8_method_27_code 40 = .ok (.aload_n 0, 1) := by decide +kernel
theorem dM_amount_41 : decode prog_8_method_27_code 41 = .ok (.getfield 60, 3) := by decide +kernel
theorem dM_amount_44 : decode prog_8_method_27_code 44 = .ok (.iload_n 1, 1) := by decide +kernel
theorem dM_amount_45 : decode prog_8_method_27_code 45 = .ok (.iload_n 2, 1) := by decide +kernel
theorem dM_amount_46 : decode prog_8_method_27_code 46 = .ok (.iastore, 1) := by decide +kernel
theorem dM_amount_47 : decode prog_8_method_27_code 47 = .ok (.return_, 1) := by decide +kernel
theorem dM_noEffect_0 : decode prog_8_method_26_code 0 = .ok (.iload_n 1, 1) := by decide +kernel
theorem dM_noEffect_1 : decode prog_8_method_26_code 1 = .ok (.ifCond .lt 11, 3) := by decide +kernel
theorem dM_noEffect_4 : decode prog_8_method_26_code 4 = .ok (.iload_n 1, 1) := by decide +kernel
theorem dM_noEffect_5 : decode prog_8_method_26_code 5 = .ok (.aload_n 0, 1) := by decide +kernel
theorem dM_noEffect_6 : decode prog_8_method_26_code 6 = .ok (.getfield 121, 3) := by decide +kernel
theorem dM_noEffect_9 : decode prog_8_method_26_code 9 = .ok (.if_icmp .lt 7, 3) := by decide +kernel
theorem dM_noEffect_12 : decode prog_8_method_26_code 12 = .ok (.iconst 1, 1) := by decide +kernel
theorem dM_noEffect_13 : decode prog_8_method_26_code 13 = .ok (.goto 4, 3) := by decide +kernel
theorem dM_noEffect_16 : decode prog_8_method_26_code 16 = .ok (.iconst 0, 1) := by decide +kernel
theorem dM_noEffect_17 : decode prog_8_method_26_code 17 = .ok (.ireturn, 1) := by decide +kernel
theorem dM_timing_0 : decode prog_8_method_36_code 0 = .ok (.aload_n 0, 1) := by decide +kernel
theorem dM_timing_1 : decode prog_8_method_36_code 1 = .ok (.aload_n 0, 1) := by decide +kernel
theorem dM_timing_2 : decode prog_8_method_36_code 2 = .ok (.iload_n 1, 1) := by decide +kernel
theorem dM_timing_3 : decode prog_8_method_36_code 3 = .ok (.invokevirtual 124, 3) := by decide +kernel
theorem dM_timing_6 : decode prog_8_method_36_code 6 = .ok (.ifCond .eq 7, 3) := by decide +kernel
theorem dM_timing_9 : decode prog_8_method_36_code 9 = .ok (.iconst 1, 1) := by decide +kernel
theorem dM_timing_10 : decode prog_8_method_36_code 10 = .ok (.goto 4, 3) := by decide +kernel
theorem dM_timing_13 : decode prog_8_method_36_code 13 = .ok (.iconst 0, 1) := by decide +kernel
theorem dM_timing_14 : decode prog_8_method_36_code 14 = .ok (.putfield 75, 3) := by decide +kernel
theorem dM_timing_17 : decode prog_8_method_36_code 17 = .ok (.aload_n 0, 1) := by decide +kernel
theorem dM_timing_18 : decode prog_8_method_36_code 18 = .ok (.getfield 75, 3) := by decide +kernel
theorem dM_timing_21 : decode prog_8_method_36_code 21 = .ok (.ifCond .le 5, 3) := by decide +kernel
theorem dM_timing_24 : decode prog_8_method_36_code 24 = .ok (.iconst 0, 1) := by decide +kernel
theorem dM_timing_25 : decode prog_8_method_36_code 25 = .ok (.ireturn, 1) := by decide +kernel
theorem dM_timing_26 : decode prog_8_method_36_code 26 = .ok (.iload_n 2, 1) := by decide +kernel
theorem dM_timing_27 : decode prog_8_method_36_code 27 = .ok (.tableswitch 79 0 3 #[29, 35, 41, 47], 29) := by decide +kernel
theorem dM_timing_56 : decode prog_8_method_36_code 56 = .ok (.aload_n 0, 1) := by decide +kernel
theorem dM_timing_57 : decode prog_8_method_36_code 57 = .ok (.iload_n 1, 1) := by decide +kernel
theorem dM_timing_58 : decode prog_8_method_36_code 58 = .ok (.invokevirtual 127, 3) := by decide +kernel
theorem dM_timing_61 : decode prog_8_method_36_code 61 = .ok (.ireturn, 1) := by decide +kernel
theorem dM_timing_62 : decode prog_8_method_36_code 62 = .ok (.aload_n 0, 1) := by decide +kernel
theorem dM_timing_63 : decode prog_8_method_36_code 63 = .ok (.iload_n 1, 1) := by decide +kernel
theorem dM_timing_64 : decode prog_8_method_36_code 64 = .ok (.invokevirtual 133, 3) := by decide +kernel
theorem dM_timing_67 : decode prog_8_method_36_code 67 = .ok (.ireturn, 1) := by decide +kernel
theorem dM_timing_68 : decode prog_8_method_36_code 68 = .ok (.aload_n 0, 1) := by decide +kernel
theorem dM_timing_69 : decode prog_8_method_36_code 69 = .ok (.iload_n 1, 1) := by decide +kernel
theorem dM_timing_70 : decode prog_8_method_36_code 70 = .ok (.invokevirtual 130, 3) := by decide +kernel
theorem dM_timing_73 : decode prog_8_method_36_code 73 = .ok (.ireturn, 1) := by decide +kernel
theorem dM_timing_74 : decode prog_8_method_36_code 74 = .ok (.aload_n 0, 1) := by decide +kernel
theorem dM_timing_75 : decode prog_8_method_36_code 75 = .ok (.getfield 16, 3) := by decide +kernel
theorem dM_timing_78 : decode prog_8_method_36_code 78 = .ok (.aload_n 0, 1) := by decide +kernel
theorem dM_timing_79 : decode prog_8_method_36_code 79 = .ok (.getfield 45, 3) := by decide +kernel
theorem dM_timing_82 : decode prog_8_method_36_code 82 = .ok (.iload_n 1, 1) := by decide +kernel
theorem dM_timing_83 : decode prog_8_method_36_code 83 = .ok (.iaload, 1) := by decide +kernel
theorem dM_timing_84 : decode prog_8_method_36_code 84 = .ok (.iaload, 1) := by decide +kernel
theorem dM_timing_85 : decode prog_8_method_36_code 85 = .ok (.aload_n 0, 1) := by decide +kernel
theorem dM_timing_86 : decode prog_8_method_36_code 86 = .ok (.aload_n 0, 1) := by decide +kernel
theorem dM_timing_87 : decode prog_8_method_36_code 87 = .ok (.getfield 142, 3) := by decide +kernel
theorem dM_timing_90 : decode prog_8_method_36_code 90 = .ok (.invokevirtual 145, 3) := by decide +kernel
theorem dM_timing_93 : decode prog_8_method_36_code 93 = .ok (.if_icmp .ne 11, 3) := by decide +kernel
theorem dM_timing_96 : decode prog_8_method_36_code 96 = .ok (.aload_n 0, 1) := by decide +kernel
theorem dM_timing_97 : decode prog_8_method_36_code 97 = .ok (.iload_n 1, 1) := by decide +kernel
theorem dM_timing_98 : decode prog_8_method_36_code 98 = .ok (.invokevirtual 148, 3) := by decide +kernel
theorem dM_timing_101 : decode prog_8_method_36_code 101 = .ok (.goto 4, 3) := by decide +kernel
theorem dM_timing_104 : decode prog_8_method_36_code 104 = .ok (.iconst (-1), 1) := by decide +kernel
theorem dM_timing_105 : decode prog_8_method_36_code 105 = .ok (.ireturn, 1) := by decide +kernel
theorem dM_timing_106 : decode prog_8_method_36_code 106 = .ok (.iconst (-1), 1) := by decide +kernel
theorem dM_timing_107 : decode prog_8_method_36_code 107 = .ok (.ireturn, 1) := by decide +kernel
theorem dM_start_0 : decode prog_8_method_30_code 0 = .ok (.iconst 0, 1) := by decide +kernel
theorem dM_start_1 : decode prog_8_method_30_code 1 = .ok (.istore_n 2, 1) := by decide +kernel
theorem dM_start_2 : decode prog_8_method_30_code 2 = .ok (.iconst 0, 1) := by decide +kernel
theorem dM_start_3 : decode prog_8_method_30_code 3 = .ok (.istore_n 3, 1) := by decide +kernel
theorem dM_start_4 : decode prog_8_method_30_code 4 = .ok (.iconst 0, 1) := by decide +kernel
theorem dM_start_5 : decode prog_8_method_30_code 5 = .ok (.istore 4, 2) := by decide +kernel
theorem dM_start_7 : decode prog_8_method_30_code 7 = .ok (.iconst 0, 1) := by decide +kernel
theorem dM_start_8 : decode prog_8_method_30_code 8 = .ok (.istore 5, 2) := by decide +kernel
theorem dM_start_10 : decode prog_8_method_30_code 10 = .ok (.iconst 0, 1) := by decide +kernel
theorem dM_start_11 : decode prog_8_method_30_code 11 = .ok (.istore 6, 2) := by decide +kernel
theorem dM_start_13 : decode prog_8_method_30_code 13 = .ok (.iload 6, 2) := by decide +kernel
theorem dM_start_15 : decode prog_8_method_30_code 15 = .ok (.iload_n 1, 1) := by decide +kernel
theorem dM_start_16 : decode prog_8_method_30_code 16 = .ok (.if_icmp .gt 96, 3) := by decide +kernel
theorem dM_start_19 : decode prog_8_method_30_code 19 = .ok (.aload_n 0, 1) := by decide +kernel
theorem dM_start_20 : decode prog_8_method_30_code 20 = .ok (.getfield 16, 3) := by decide +kernel
theorem dM_start_23 : decode prog_8_method_30_code 23 = .ok (.aload_n 0, 1) := by decide +kernel
theorem dM_start_24 : decode prog_8_method_30_code 24 = .ok (.getfield 45, 3) := by decide +kernel
theorem dM_start_27 : decode prog_8_method_30_code 27 = .ok (.iload 6, 2) := by decide +kernel
theorem dM_start_29 : decode prog_8_method_30_code 29 = .ok (.iaload, 1) := by decide +kernel
theorem dM_start_30 : decode prog_8_method_30_code 30 = .ok (.iaload, 1) := by decide +kernel
theorem dM_start_31 : decode prog_8_method_30_code 31 = .ok (.aload_n 0, 1) := by decide +kernel
theorem dM_start_32 : decode prog_8_method_30_code 32 = .ok (.getfield 16, 3) := by decide +kernel
theorem dM_start_35 : decode prog_8_method_30_code 35 = .ok (.aload_n 0, 1) := by decide +kernel
theorem dM_start_36 : decode prog_8_method_30_code 36 = .ok (.getfield 45, 3) := by decide +kernel
theorem dM_start_39 : decode prog_8_method_30_code 39 = .ok (.iload_n 1, 1) := by decide +kernel
theorem dM_start_40 : decode prog_8_method_30_code 40 = .ok (.iaload, 1) := by decide +kernel
theorem dM_start_41 : decode prog_8_method_30_code 41 = .ok (.iaload, 1) := by decide +kernel
theorem dM_start_42 : decode prog_8_method_30_code 42 = .ok (.if_icmp .ne 64, 3) := by decide +kernel
theorem dM_start_45 : decode prog_8_method_30_code 45 = .ok (.aload_n 0, 1) := by decide +kernel
theorem dM_start_46 : decode prog_8_method_30_code 46 = .ok (.getfield 51, 3) := by decide +kernel
theorem dM_start_49 : decode prog_8_method_30_code 49 = .ok (.iload 6, 2) := by decide +kernel
theorem dM_start_51 : decode prog_8_method_30_code 51 = .ok (.iaload, 1) := by decide +kernel
theorem dM_start_52 : decode prog_8_method_30_code 52 = .ok (.ifCond .eq 8, 3) := by decide +kernel
theorem dM_start_55 : decode prog_8_method_30_code 55 = .ok (.iload 4, 2) := by decide +kernel
theorem dM_start_57 : decode prog_8_method_30_code 57 = .ok (.ifCond .ne 7, 3) := by decide +kernel
theorem dM_start_60 : decode prog_8_method_30_code 60 = .ok (.iconst 0, 1) := by decide +kernel
theorem dM_start_61 : decode prog_8_method_30_code 61 = .ok (.goto 19, 3) := by decide +kernel
theorem dM_start_64 : decode prog_8_method_30_code 64 = .ok (.aload_n 0, 1) := by decide +kernel
theorem dM_start_65 : decode prog_8_method_30_code 65 = .ok (.getfield 51, 3) := by decide +kernel
theorem dM_start_68 : decode prog_8_method_30_code 68 = .ok (.iload 6, 2) := by decide +kernel
theorem dM_start_70 : decode prog_8_method_30_code 70 = .ok (.iaload, 1) := by decide +kernel
theorem dM_start_71 : decode prog_8_method_30_code 71 = .ok (.iconst 1, 1) := by decide +kernel
theorem dM_start_72 : decode prog_8_method_30_code 72 = .ok (.if_icmp .ne 7, 3) := by decide +kernel
theorem dM_start_75 : decode prog_8_method_30_code 75 = .ok (.iload_n 2, 1) := by decide +kernel
theorem dM_start_76 : decode prog_8_method_30_code 76 = .ok (.goto 4, 3) := by decide +kernel
theorem dM_start_79 : decode prog_8_method_30_code 79 = .ok (.iload_n 3, 1) := by decide +kernel
theorem dM_start_80 : decode prog_8_method_30_code 80 = .ok (.istore_n 2, 1) := by decide +kernel
theorem dM_start_81 : decode prog_8_method_30_code 81 = .ok (.iload_n 2, 1) := by decide +kernel
theorem dM_start_82 : decode prog_8_method_30_code 82 = .ok (.aload_n 0, 1) := by decide +kernel
theorem dM_start_83 : decode prog_8_method_30_code 83 = .ok (.getfield 54, 3) := by decide +kernel
theorem dM_start_86 : decode prog_8_method_30_code 86 = .ok (.iload 6, 2) := by decide +kernel
theorem dM_start_88 : decode prog_8_method_30_code 88 = .ok (.iaload, 1) := by decide +kernel
theorem dM_start_89 : decode prog_8_method_30_code 89 = .ok (.iadd, 1) := by decide +kernel
theorem dM_start_90 : decode prog_8_method_30_code 90 = .ok (.istore 5, 2) := by decide +kernel
theorem dM_start_92 : decode prog_8_method_30_code 92 = .ok (.iload 5, 2) := by decide +kernel
theorem dM_start_94 : decode prog_8_method_30_code 94 = .ok (.aload_n 0, 1) := by decide +kernel
theorem dM_start_95 : decode prog_8_method_30_code 95 = .ok (.getfield 57, 3) := by decide +kernel
theorem dM_start_98 : decode prog_8_method_30_code 98 = .ok (.iload 6, 2) := by decide +kernel
theorem dM_start_100 : decode prog_8_method_30_code 100 = .ok (.iaload, 1) := by decide +kernel
theorem dM_start_101 : decode prog_8_method_30_code 101 = .ok (.iadd, 1) := by decide +kernel
theorem dM_start_102 : decode prog_8_method_30_code 102 = .ok (.istore_n 3, 1) := by decide +kernel
theorem dM_start_103 : decode prog_8_method_30_code 103 = .ok (.iconst 1, 1) := by decide +kernel
theorem dM_start_104 : decode prog_8_method_30_code 104 = .ok (.istore 4, 2) := by decide +kernel
theorem dM_start_106 : decode prog_8_method_30_code 106 = .ok (.iinc 6 1, 3) := by decide +kernel
theorem dM_start_109 : decode prog_8_method_30_code 109 = .ok (.goto (-96), 3) := by decide +kernel
theorem dM_start_112 : decode prog_8_method_30_code 112 = .ok (.iload 5, 2) := by decide +kernel
theorem dM_start_114 : decode prog_8_method_30_code 114 = .ok (.ireturn, 1) := by decide +kernel
theorem dM_end_0 : decode prog_8_method_31_code 0 = .ok (.aload_n 0, 1) := by decide +kernel
theorem dM_end_1 : decode prog_8_method_31_code 1 = .ok (.iload_n 1, 1) := by decide +kernel
theorem dM_end_2 : decode prog_8_method_31_code 2 = .ok (.invokevirtual 127, 3) := by decide +kernel
theorem dM_end_5 : decode prog_8_method_31_code 5 = .ok (.aload_n 0, 1) := by decide +kernel
theorem dM_end_6 : decode prog_8_method_31_code 6 = .ok (.getfield 57, 3) := by decide +kernel
theorem dM_end_9 : decode prog_8_method_31_code 9 = .ok (.iload_n 1, 1) := by decide +kernel
theorem dM_end_10 : decode prog_8_method_31_code 10 = .ok (.iaload, 1) := by decide +kernel
theorem dM_end_11 : decode prog_8_method_31_code 11 = .ok (.iadd, 1) := by decide +kernel
theorem dM_end_12 : decode prog_8_method_31_code 12 = .ok (.ireturn, 1) := by decide +kernel
theorem dM_build_0 : decode prog_8_method_29_code 0 = .ok (.iconst 0, 1) := by decide +kernel
theorem dM_build_1 : decode prog_8_method_29_code 1 = .ok (.istore_n 2, 1) := by decide +kernel
theorem dM_build_2 : decode prog_8_method_29_code 2 = .ok (.iconst 0, 1) := by decide +kernel
theorem dM_build_3 : decode prog_8_method_29_code 3 = .ok (.istore_n 3, 1) := by decide +kernel
theorem dM_build_4 : decode prog_8_method_29_code 4 = .ok (.iload_n 3, 1) := by decide +kernel
theorem dM_build_5 : decode prog_8_method_29_code 5 = .ok (.iload_n 1, 1) := by decide +kernel
theorem dM_build_6 : decode prog_8_method_29_code 6 = .ok (.if_icmp .gt 51, 3) := by decide +kernel
theorem dM_build_9 : decode prog_8_method_29_code 9 = .ok (.aload_n 0, 1) := by decide +kernel
theorem dM_build_10 : decode prog_8_method_29_code 10 = .ok (.getfield 16, 3) := by decide +kernel
theorem dM_build_13 : decode prog_8_method_29_code 13 = .ok (.aload_n 0, 1) := by decide +kernel
theorem dM_build_14 : decode prog_8_method_29_code 14 = .ok (.getfield 45, 3) := by decide +kernel
theorem dM_build_17 : decode prog_8_method_29_code 17 = .ok (.iload_n 3, 1) := by decide +kernel
theorem dM_build_18 : decode prog_8_method_29_code 18 = .ok (.iaload, 1) := by decide +kernel
theorem dM_build_19 : decode prog_8_method_29_code 19 = .ok (.iaload, 1) := by decide +kernel
theorem dM_build_20 : decode prog_8_method_29_code 20 = .ok (.aload_n 0, 1) := by decide +kernel
theorem dM_build_21 : decode prog_8_method_29_code 21 = .ok (.getfield 16, 3) := by decide +kernel
theorem dM_build_24 : decode prog_8_method_29_code 24 = .ok (.aload_n 0, 1) := by decide +kernel
theorem dM_build_25 : decode prog_8_method_29_code 25 = .ok (.getfield 45, 3) := by decide +kernel
theorem dM_build_28 : decode prog_8_method_29_code 28 = .ok (.iload_n 1, 1) := by decide +kernel
theorem dM_build_29 : decode prog_8_method_29_code 29 = .ok (.iaload, 1) := by decide +kernel
theorem dM_build_30 : decode prog_8_method_29_code 30 = .ok (.iaload, 1) := by decide +kernel
theorem dM_build_31 : decode prog_8_method_29_code 31 = .ok (.if_icmp .ne 18, 3) := by decide +kernel
theorem dM_build_34 : decode prog_8_method_29_code 34 = .ok (.aload_n 0, 1) := by decide +kernel
theorem dM_build_35 : decode prog_8_method_29_code 35 = .ok (.getfield 51, 3) := by decide +kernel
theorem dM_build_38 : decode prog_8_method_29_code 38 = .ok (.iload_n 3, 1) := by decide +kernel
theorem dM_build_39 : decode prog_8_method_29_code 39 = .ok (.iaload, 1) := by decide +kernel
theorem dM_build_40 : decode prog_8_method_29_code 40 = .ok (.ifCond .ne 9, 3) := by decide +kernel
theorem dM_build_43 : decode prog_8_method_29_code 43 = .ok (.iload_n 2, 1) := by decide +kernel
theorem dM_build_44 : decode prog_8_method_29_code 44 = .ok (.iconst 1, 1) := by decide +kernel
theorem dM_build_45 : decode prog_8_method_29_code 45 = .ok (.iadd, 1) := by decide +kernel
theorem dM_build_46 : decode prog_8_method_29_code 46 = .ok (.goto 4, 3) := by decide +kernel
theorem dM_build_49 : decode prog_8_method_29_code 49 = .ok (.iload_n 2, 1) := by decide +kernel
theorem dM_build_50 : decode prog_8_method_29_code 50 = .ok (.istore_n 2, 1) := by decide +kernel
theorem dM_build_51 : decode prog_8_method_29_code 51 = .ok (.iinc 3 1, 3) := by decide +kernel
theorem dM_build_54 : decode prog_8_method_29_code 54 = .ok (.goto (-50), 3) := by decide +kernel
theorem dM_build_57 : decode prog_8_method_29_code 57 = .ok (.iload_n 2, 1) := by decide +kernel
theorem dM_build_58 : decode prog_8_method_29_code 58 = .ok (.ireturn, 1) := by decide +kernel
theorem dM_slide_0 : decode prog_8_method_34_code 0 = .ok (.iconst 0, 1) := by decide +kernel
theorem dM_slide_1 : decode prog_8_method_34_code 1 = .ok (.istore_n 2, 1) := by decide +kernel
theorem dM_slide_2 : decode prog_8_method_34_code 2 = .ok (.iconst 0, 1) := by decide +kernel
theorem dM_slide_3 : decode prog_8_method_34_code 3 = .ok (.istore_n 3, 1) := by decide +kernel
theorem dM_slide_4 : decode prog_8_method_34_code 4 = .ok (.iload_n 3, 1) := by decide +kernel
theorem dM_slide_5 : decode prog_8_method_34_code 5 = .ok (.aload_n 0, 1) := by decide +kernel
theorem dM_slide_6 : decode prog_8_method_34_code 6 = .ok (.getfield 79, 3) := by decide +kernel
theorem dM_slide_9 : decode prog_8_method_34_code 9 = .ok (.if_icmp .ge 29, 3) := by decide +kernel
theorem dM_slide_12 : decode prog_8_method_34_code 12 = .ok (.aload_n 0, 1) := by decide +kernel
theorem dM_slide_13 : decode prog_8_method_34_code 13 = .ok (.getfield 7, 3) := by decide +kernel
theorem dM_slide_16 : decode prog_8_method_34_code 16 = .ok (.iload_n 3, 1) := by decide +kernel
theorem dM_slide_17 : decode prog_8_method_34_code 17 = .ok (.iaload, 1) := by decide +kernel
theorem dM_slide_18 : decode prog_8_method_34_code 18 = .ok (.iconst 2, 1) := by decide +kernel
theorem dM_slide_19 : decode prog_8_method_34_code 19 = .ok (.if_icmp .ne 13, 3) := by decide +kernel
theorem dM_slide_22 : decode prog_8_method_34_code 22 = .ok (.iload_n 2, 1) := by decide +kernel
theorem dM_slide_23 : decode prog_8_method_34_code 23 = .ok (.iload_n 1, 1) := by decide +kernel
theorem dM_slide_24 : decode prog_8_method_34_code 24 = .ok (.if_icmp .ne 5, 3) := by decide +kernel
theorem dM_slide_27 : decode prog_8_method_34_code 27 = .ok (.iload_n 3, 1) := by decide +kernel
theorem dM_slide_28 : decode prog_8_method_34_code 28 = .ok (.ireturn, 1) := by decide +kernel
theorem dM_slide_29 : decode prog_8_method_34_code 29 = .ok (.iinc 2 1, 3) := by decide +kernel
theorem dM_slide_32 : decode prog_8_method_34_code 32 = .ok (.iinc 3 1, 3) := by decide +kernel
theorem dM_slide_35 : decode prog_8_method_34_code 35 = .ok (.goto (-31), 3) := by decide +kernel
theorem dM_slide_38 : decode prog_8_method_34_code 38 = .ok (.iconst (-1), 1) := by decide +kernel
theorem dM_slide_39 : decode prog_8_method_34_code 39 = .ok (.ireturn, 1) := by decide +kernel
theorem dM_stage_0 : decode prog_8_method_35_code 0 = .ok (.aload_n 0, 1) := by decide +kernel
theorem dM_stage_1 : decode prog_8_method_35_code 1 = .ok (.iload_n 1, 1) := by decide +kernel
theorem dM_stage_2 : decode prog_8_method_35_code 2 = .ok (.invokevirtual 130, 3) := by decide +kernel
theorem dM_stage_5 : decode prog_8_method_35_code 5 = .ok (.istore_n 2, 1) := by decide +kernel
theorem dM_stage_6 : decode prog_8_method_35_code 6 = .ok (.iload_n 2, 1) := by decide +kernel
theorem dM_stage_7 : decode prog_8_method_35_code 7 = .ok (.aload_n 0, 1) := by decide +kernel
theorem dM_stage_8 : decode prog_8_method_35_code 8 = .ok (.getfield 136, 3) := by decide +kernel
theorem dM_stage_11 : decode prog_8_method_35_code 11 = .ok (.if_icmp .lt 23, 3) := by decide +kernel
theorem dM_stage_14 : decode prog_8_method_35_code 14 = .ok (.iload_n 2, 1) := by decide +kernel
theorem dM_stage_15 : decode prog_8_method_35_code 15 = .ok (.aload_n 0, 1) := by decide +kernel
theorem dM_stage_16 : decode prog_8_method_35_code 16 = .ok (.getfield 136, 3) := by decide +kernel
theorem dM_stage_19 : decode prog_8_method_35_code 19 = .ok (.if_icmp .ne 17, 3) := by decide +kernel
theorem dM_stage_22 : decode prog_8_method_35_code 22 = .ok (.aload_n 0, 1) := by decide +kernel
theorem dM_stage_23 : decode prog_8_method_35_code 23 = .ok (.iload_n 1, 1) := by decide +kernel
theorem dM_stage_24 : decode prog_8_method_35_code 24 = .ok (.invokevirtual 133, 3) := by decide +kernel
theorem dM_stage_27 : decode prog_8_method_35_code 27 = .ok (.aload_n 0, 1) := by decide +kernel
theorem dM_stage_28 : decode prog_8_method_35_code 28 = .ok (.getfield 139, 3) := by decide +kernel
theorem dM_stage_31 : decode prog_8_method_35_code 31 = .ok (.if_icmp .gt 5, 3) := by decide +kernel
theorem dM_stage_34 : decode prog_8_method_35_code 34 = .ok (.iconst 2, 1) := by decide +kernel
theorem dM_stage_35 : decode prog_8_method_35_code 35 = .ok (.ireturn, 1) := by decide +kernel
theorem dM_stage_36 : decode prog_8_method_35_code 36 = .ok (.iload_n 2, 1) := by decide +kernel
theorem dM_stage_37 : decode prog_8_method_35_code 37 = .ok (.aload_n 0, 1) := by decide +kernel
theorem dM_stage_38 : decode prog_8_method_35_code 38 = .ok (.getfield 136, 3) := by decide +kernel
theorem dM_stage_41 : decode prog_8_method_35_code 41 = .ok (.if_icmp .ne 19, 3) := by decide +kernel
theorem dM_stage_44 : decode prog_8_method_35_code 44 = .ok (.aload_n 0, 1) := by decide +kernel
theorem dM_stage_45 : decode prog_8_method_35_code 45 = .ok (.iload_n 1, 1) := by decide +kernel
theorem dM_stage_46 : decode prog_8_method_35_code 46 = .ok (.invokevirtual 127, 3) := by decide +kernel
theorem dM_stage_49 : decode prog_8_method_35_code 49 = .ok (.aload_n 0, 1) := by decide +kernel
theorem dM_stage_50 : decode prog_8_method_35_code 50 = .ok (.getfield 139, 3) := by decide +kernel
theorem dM_stage_53 : decode prog_8_method_35_code 53 = .ok (.if_icmp .gt 7, 3) := by decide +kernel
theorem dM_stage_56 : decode prog_8_method_35_code 56 = .ok (.iconst 1, 1) := by decide +kernel
theorem dM_stage_57 : decode prog_8_method_35_code 57 = .ok (.goto 4, 3) := by decide +kernel
theorem dM_stage_60 : decode prog_8_method_35_code 60 = .ok (.iconst 0, 1) := by decide +kernel
theorem dM_stage_61 : decode prog_8_method_35_code 61 = .ok (.ireturn, 1) := by decide +kernel
theorem dM_click_0 : decode prog_8_method_37_code 0 = .ok (.aload_n 0, 1) := by decide +kernel
theorem dM_click_1 : decode prog_8_method_37_code 1 = .ok (.iconst 0, 1) := by decide +kernel
theorem dM_click_2 : decode prog_8_method_37_code 2 = .ok (.putfield 75, 3) := by decide +kernel
theorem dM_click_5 : decode prog_8_method_37_code 5 = .ok (.aload_n 0, 1) := by decide +kernel
theorem dM_click_6 : decode prog_8_method_37_code 6 = .ok (.aload_n 0, 1) := by decide +kernel
theorem dM_click_7 : decode prog_8_method_37_code 7 = .ok (.getfield 142, 3) := by decide +kernel
theorem dM_click_10 : decode prog_8_method_37_code 10 = .ok (.invokevirtual 145, 3) := by decide +kernel
theorem dM_click_13 : decode prog_8_method_37_code 13 = .ok (.istore_n 1, 1) := by decide +kernel
theorem dM_click_14 : decode prog_8_method_37_code 14 = .ok (.iload_n 1, 1) := by decide +kernel
theorem dM_click_15 : decode prog_8_method_37_code 15 = .ok (.ifCond .ge 5, 3) := by decide +kernel
theorem dM_click_18 : decode prog_8_method_37_code 18 = .ok (.iconst 0, 1) := by decide +kernel
theorem dM_click_19 : decode prog_8_method_37_code 19 = .ok (.ireturn, 1) := by decide +kernel
theorem dM_click_20 : decode prog_8_method_37_code 20 = .ok (.aload_n 0, 1) := by decide +kernel
theorem dM_click_21 : decode prog_8_method_37_code 21 = .ok (.getfield 136, 3) := by decide +kernel
theorem dM_click_24 : decode prog_8_method_37_code 24 = .ok (.aload_n 0, 1) := by decide +kernel
theorem dM_click_25 : decode prog_8_method_37_code 25 = .ok (.iload_n 1, 1) := by decide +kernel
theorem dM_click_26 : decode prog_8_method_37_code 26 = .ok (.invokevirtual 151, 3) := by decide +kernel
theorem dM_click_29 : decode prog_8_method_37_code 29 = .ok (.if_icmp .ge 20, 3) := by decide +kernel
theorem dM_click_32 : decode prog_8_method_37_code 32 = .ok (.aload_n 0, 1) := by decide +kernel
theorem dM_click_33 : decode prog_8_method_37_code 33 = .ok (.dup, 1) := by decide +kernel
theorem dM_click_34 : decode prog_8_method_37_code 34 = .ok (.getfield 136, 3) := by decide +kernel
theorem dM_click_37 : decode prog_8_method_37_code 37 = .ok (.iconst 1, 1) := by decide +kernel
theorem dM_click_38 : decode prog_8_method_37_code 38 = .ok (.iadd, 1) := by decide +kernel
theorem dM_click_39 : decode prog_8_method_37_code 39 = .ok (.putfield 136, 3) := by decide +kernel
theorem dM_click_42 : decode prog_8_method_37_code 42 = .ok (.aload_n 0, 1) := by decide +kernel
theorem dM_click_43 : decode prog_8_method_37_code 43 = .ok (.iconst 0, 1) := by decide +kernel
theorem dM_click_44 : decode prog_8_method_37_code 44 = .ok (.putfield 139, 3) := by decide +kernel
theorem dM_click_47 : decode prog_8_method_37_code 47 = .ok (.iconst 1, 1) := by decide +kernel
theorem dM_click_48 : decode prog_8_method_37_code 48 = .ok (.ireturn, 1) := by decide +kernel
theorem dM_click_49 : decode prog_8_method_37_code 49 = .ok (.aload_n 0, 1) := by decide +kernel
theorem dM_click_50 : decode prog_8_method_37_code 50 = .ok (.aload_n 0, 1) := by decide +kernel
theorem dM_click_51 : decode prog_8_method_37_code 51 = .ok (.getfield 142, 3) := by decide +kernel
theorem dM_click_54 : decode prog_8_method_37_code 54 = .ok (.iconst 1, 1) := by decide +kernel
theorem dM_click_55 : decode prog_8_method_37_code 55 = .ok (.iadd, 1) := by decide +kernel
theorem dM_click_56 : decode prog_8_method_37_code 56 = .ok (.invokevirtual 145, 3) := by decide +kernel
theorem dM_click_59 : decode prog_8_method_37_code 59 = .ok (.ifCond .ge 5, 3) := by decide +kernel
theorem dM_click_62 : decode prog_8_method_37_code 62 = .ok (.iconst 0, 1) := by decide +kernel
theorem dM_click_63 : decode prog_8_method_37_code 63 = .ok (.ireturn, 1) := by decide +kernel
theorem dM_click_64 : decode prog_8_method_37_code 64 = .ok (.aload_n 0, 1) := by decide +kernel
theorem dM_click_65 : decode prog_8_method_37_code 65 = .ok (.dup, 1) := by decide +kernel
theorem dM_click_66 : decode prog_8_method_37_code 66 = .ok (.getfield 142, 3) := by decide +kernel
theorem dM_click_69 : decode prog_8_method_37_code 69 = .ok (.iconst 1, 1) := by decide +kernel
theorem dM_click_70 : decode prog_8_method_37_code 70 = .ok (.iadd, 1) := by decide +kernel
theorem dM_click_71 : decode prog_8_method_37_code 71 = .ok (.putfield 142, 3) := by decide +kernel
theorem dM_click_74 : decode prog_8_method_37_code 74 = .ok (.aload_n 0, 1) := by decide +kernel
theorem dM_click_75 : decode prog_8_method_37_code 75 = .ok (.iconst 0, 1) := by decide +kernel
theorem dM_click_76 : decode prog_8_method_37_code 76 = .ok (.putfield 136, 3) := by decide +kernel
theorem dM_click_79 : decode prog_8_method_37_code 79 = .ok (.aload_n 0, 1) := by decide +kernel
theorem dM_click_80 : decode prog_8_method_37_code 80 = .ok (.iconst 0, 1) := by decide +kernel
theorem dM_click_81 : decode prog_8_method_37_code 81 = .ok (.putfield 139, 3) := by decide +kernel
theorem dM_click_84 : decode prog_8_method_37_code 84 = .ok (.iconst 1, 1) := by decide +kernel
theorem dM_click_85 : decode prog_8_method_37_code 85 = .ok (.ireturn, 1) := by decide +kernel
theorem dM_lastBuild_0 : decode prog_8_method_32_code 0 = .ok (.iconst 0, 1) := by decide +kernel
theorem dM_lastBuild_1 : decode prog_8_method_32_code 1 = .ok (.istore_n 2, 1) := by decide +kernel
theorem dM_lastBuild_2 : decode prog_8_method_32_code 2 = .ok (.iconst 0, 1) := by decide +kernel
theorem dM_lastBuild_3 : decode prog_8_method_32_code 3 = .ok (.istore_n 3, 1) := by decide +kernel
theorem dM_lastBuild_4 : decode prog_8_method_32_code 4 = .ok (.iload_n 3, 1) := by decide +kernel
theorem dM_lastBuild_5 : decode prog_8_method_32_code 5 = .ok (.aload_n 0, 1) := by decide +kernel
theorem dM_lastBuild_6 : decode prog_8_method_32_code 6 = .ok (.getfield 121, 3) := by decide +kernel
theorem dM_lastBuild_9 : decode prog_8_method_32_code 9 = .ok (.if_icmp .ge 41, 3) := by decide +kernel
theorem dM_lastBuild_12 : decode prog_8_method_32_code 12 = .ok (.aload_n 0, 1) := by decide +kernel
theorem dM_lastBuild_13 : decode prog_8_method_32_code 13 = .ok (.getfield 16, 3) := by decide +kernel
theorem dM_lastBuild_16 : decode prog_8_method_32_code 16 = .ok (.aload_n 0, 1) := by decide +kernel
theorem dM_lastBuild_17 : decode prog_8_method_32_code 17 = .ok (.getfield 45, 3) := by decide +kernel
theorem dM_lastBuild_20 : decode prog_8_method_32_code 20 = .ok (.iload_n 3, 1) := by decide +kernel
theorem dM_lastBuild_21 : decode prog_8_method_32_code 21 = .ok (.iaload, 1) := by decide +kernel
theorem dM_lastBuild_22 : decode prog_8_method_32_code 22 = .ok (.iaload, 1) := by decide +kernel
theorem dM_lastBuild_23 : decode prog_8_method_32_code 23 = .ok (.iload_n 1, 1) := by decide +kernel
theorem dM_lastBuild_24 : decode prog_8_method_32_code 24 = .ok (.if_icmp .ne 18, 3) := by decide +kernel
theorem dM_lastBuild_27 : decode prog_8_method_32_code 27 = .ok (.aload_n 0, 1) := by decide +kernel
theorem dM_lastBuild_28 : decode prog_8_method_32_code 28 = .ok (.getfield 51, 3) := by decide +kernel
theorem dM_lastBuild_31 : decode prog_8_method_32_code 31 = .ok (.iload_n 3, 1) := by decide +kernel
theorem dM_lastBuild_32 : decode prog_8_method_32_code 32 = .ok (.iaload, 1) := by decide +kernel
theorem dM_lastBuild_33 : decode prog_8_method_32_code 33 = .ok (.ifCond .ne 9, 3) := by decide +kernel
theorem dM_lastBuild_36 : decode prog_8_method_32_code 36 = .ok (.iload_n 2, 1) := by decide +kernel
theorem dM_lastBuild_37 : decode prog_8_method_32_code 37 = .ok (.iconst 1, 1) := by decide +kernel
theorem dM_lastBuild_38 : decode prog_8_method_32_code 38 = .ok (.iadd, 1) := by decide +kernel
theorem dM_lastBuild_39 : decode prog_8_method_32_code 39 = .ok (.goto 4, 3) := by decide +kernel
theorem dM_lastBuild_42 : decode prog_8_method_32_code 42 = .ok (.iload_n 2, 1) := by decide +kernel
theorem dM_lastBuild_43 : decode prog_8_method_32_code 43 = .ok (.istore_n 2, 1) := by decide +kernel
theorem dM_lastBuild_44 : decode prog_8_method_32_code 44 = .ok (.iinc 3 1, 3) := by decide +kernel
theorem dM_lastBuild_47 : decode prog_8_method_32_code 47 = .ok (.goto (-43), 3) := by decide +kernel
theorem dM_lastBuild_50 : decode prog_8_method_32_code 50 = .ok (.iload_n 2, 1) := by decide +kernel
theorem dM_lastBuild_51 : decode prog_8_method_32_code 51 = .ok (.ireturn, 1) := by decide +kernel
theorem dM_back_0 : decode prog_8_method_38_code 0 = .ok (.aload_n 0, 1) := by decide +kernel
theorem dM_back_1 : decode prog_8_method_38_code 1 = .ok (.iconst 0, 1) := by decide +kernel
theorem dM_back_2 : decode prog_8_method_38_code 2 = .ok (.putfield 75, 3) := by decide +kernel
theorem dM_back_5 : decode prog_8_method_38_code 5 = .ok (.aload_n 0, 1) := by decide +kernel
theorem dM_back_6 : decode prog_8_method_38_code 6 = .ok (.getfield 136, 3) := by decide +kernel
theorem dM_back_9 : decode prog_8_method_38_code 9 = .ok (.ifCond .le 35, 3) := by decide +kernel
theorem dM_back_12 : decode prog_8_method_38_code 12 = .ok (.aload_n 0, 1) := by decide +kernel
theorem dM_back_13 : decode prog_8_method_38_code 13 = .ok (.dup, 1) := by decide +kernel
theorem dM_back_14 : decode prog_8_method_38_code 14 = .ok (.getfield 136, 3) := by decide +kernel
theorem dM_back_17 : decode prog_8_method_38_code 17 = .ok (.iconst 1, 1) := by decide +kernel
theorem dM_back_18 : decode prog_8_method_38_code 18 = .ok (.isub, 1) := by decide +kernel
theorem dM_back_19 : decode prog_8_method_38_code 19 = .ok (.putfield 136, 3) := by decide +kernel
theorem dM_back_22 : decode prog_8_method_38_code 22 = .ok (.aload_n 0, 1) := by decide +kernel
theorem dM_back_23 : decode prog_8_method_38_code 23 = .ok (.aload_n 0, 1) := by decide +kernel
theorem dM_back_24 : decode prog_8_method_38_code 24 = .ok (.aload_n 0, 1) := by decide +kernel
theorem dM_back_25 : decode prog_8_method_38_code 25 = .ok (.aload_n 0, 1) := by decide +kernel
theorem dM_back_26 : decode prog_8_method_38_code 26 = .ok (.getfield 142, 3) := by decide +kernel
theorem dM_back_29 : decode prog_8_method_38_code 29 = .ok (.invokevirtual 145, 3) := by decide +kernel
theorem dM_back_32 : decode prog_8_method_38_code 32 = .ok (.aload_n 0, 1) := by decide +kernel
theorem dM_back_33 : decode prog_8_method_38_code 33 = .ok (.getfield 136, 3) := by decide +kernel
theorem dM_back_36 : decode prog_8_method_38_code 36 = .ok (.invokevirtual 154, 3) := by decide +kernel
theorem dM_back_39 : decode prog_8_method_38_code 39 = .ok (.putfield 139, 3) := by decide +kernel
theorem dM_back_42 : decode prog_8_method_38_code 42 = .ok (.iconst 1, 1) := by decide +kernel
theorem dM_back_43 : decode prog_8_method_38_code 43 = .ok (.ireturn, 1) := by decide +kernel
theorem dM_back_44 : decode prog_8_method_38_code 44 = .ok (.aload_n 0, 1) := by decide +kernel
theorem dM_back_45 : decode prog_8_method_38_code 45 = .ok (.getfield 142, 3) := by decide +kernel
theorem dM_back_48 : decode prog_8_method_38_code 48 = .ok (.ifCond .ne 5, 3) := by decide +kernel
theorem dM_back_51 : decode prog_8_method_38_code 51 = .ok (.iconst 0, 1) := by decide +kernel
theorem dM_back_52 : decode prog_8_method_38_code 52 = .ok (.ireturn, 1) := by decide +kernel
theorem dM_back_53 : decode prog_8_method_38_code 53 = .ok (.aload_n 0, 1) := by decide +kernel
theorem dM_back_54 : decode prog_8_method_38_code 54 = .ok (.dup, 1) := by decide +kernel
theorem dM_back_55 : decode prog_8_method_38_code 55 = .ok (.getfield 142, 3) := by decide +kernel
theorem dM_back_58 : decode prog_8_method_38_code 58 = .ok (.iconst 1, 1) := by decide +kernel
theorem dM_back_59 : decode prog_8_method_38_code 59 = .ok (.isub, 1) := by decide +kernel
theorem dM_back_60 : decode prog_8_method_38_code 60 = .ok (.putfield 142, 3) := by decide +kernel
theorem dM_back_63 : decode prog_8_method_38_code 63 = .ok (.aload_n 0, 1) := by decide +kernel
theorem dM_back_64 : decode prog_8_method_38_code 64 = .ok (.aload_n 0, 1) := by decide +kernel
theorem dM_back_65 : decode prog_8_method_38_code 65 = .ok (.aload_n 0, 1) := by decide +kernel
theorem dM_back_66 : decode prog_8_method_38_code 66 = .ok (.aload_n 0, 1) := by decide +kernel
theorem dM_back_67 : decode prog_8_method_38_code 67 = .ok (.getfield 142, 3) := by decide +kernel
theorem dM_back_70 : decode prog_8_method_38_code 70 = .ok (.invokevirtual 145, 3) := by decide +kernel
theorem dM_back_73 : decode prog_8_method_38_code 73 = .ok (.invokevirtual 151, 3) := by decide +kernel
theorem dM_back_76 : decode prog_8_method_38_code 76 = .ok (.putfield 136, 3) := by decide +kernel
theorem dM_back_79 : decode prog_8_method_38_code 79 = .ok (.aload_n 0, 1) := by decide +kernel
theorem dM_back_80 : decode prog_8_method_38_code 80 = .ok (.aload_n 0, 1) := by decide +kernel
theorem dM_back_81 : decode prog_8_method_38_code 81 = .ok (.aload_n 0, 1) := by decide +kernel
theorem dM_back_82 : decode prog_8_method_38_code 82 = .ok (.aload_n 0, 1) := by decide +kernel
theorem dM_back_83 : decode prog_8_method_38_code 83 = .ok (.getfield 142, 3) := by decide +kernel
theorem dM_back_86 : decode prog_8_method_38_code 86 = .ok (.invokevirtual 145, 3) := by decide +kernel
theorem dM_back_89 : decode prog_8_method_38_code 89 = .ok (.aload_n 0, 1) := by decide +kernel
theorem dM_back_90 : decode prog_8_method_38_code 90 = .ok (.getfield 136, 3) := by decide +kernel
theorem dM_back_93 : decode prog_8_method_38_code 93 = .ok (.invokevirtual 154, 3) := by decide +kernel
theorem dM_back_96 : decode prog_8_method_38_code 96 = .ok (.putfield 139, 3) := by decide +kernel
theorem dM_back_99 : decode prog_8_method_38_code 99 = .ok (.iconst 1, 1) := by decide +kernel
theorem dM_back_100 : decode prog_8_method_38_code 100 = .ok (.ireturn, 1) := by decide +kernel
theorem dM_length_0 : decode prog_8_method_33_code 0 = .ok (.iconst 0, 1) := by decide +kernel
theorem dM_length_1 : decode prog_8_method_33_code 1 = .ok (.istore_n 3, 1) := by decide +kernel
theorem dM_length_2 : decode prog_8_method_33_code 2 = .ok (.iconst 0, 1) := by decide +kernel
theorem dM_length_3 : decode prog_8_method_33_code 3 = .ok (.istore 4, 2) := by decide +kernel
theorem dM_length_5 : decode prog_8_method_33_code 5 = .ok (.iload 4, 2) := by decide +kernel
theorem dM_length_7 : decode prog_8_method_33_code 7 = .ok (.aload_n 0, 1) := by decide +kernel
theorem dM_length_8 : decode prog_8_method_33_code 8 = .ok (.getfield 121, 3) := by decide +kernel
theorem dM_length_11 : decode prog_8_method_33_code 11 = .ok (.if_icmp .ge 56, 3) := by decide +kernel
theorem dM_length_14 : decode prog_8_method_33_code 14 = .ok (.aload_n 0, 1) := by decide +kernel
theorem dM_length_15 : decode prog_8_method_33_code 15 = .ok (.getfield 16, 3) := by decide +kernel
theorem dM_length_18 : decode prog_8_method_33_code 18 = .ok (.aload_n 0, 1) := by decide +kernel
theorem dM_length_19 : decode prog_8_method_33_code 19 = .ok (.getfield 45, 3) := by decide +kernel
theorem dM_length_22 : decode prog_8_method_33_code 22 = .ok (.iload 4, 2) := by decide +kernel
theorem dM_length_24 : decode prog_8_method_33_code 24 = .ok (.iaload, 1) := by decide +kernel
theorem dM_length_25 : decode prog_8_method_33_code 25 = .ok (.iaload, 1) := by decide +kernel
theorem dM_length_26 : decode prog_8_method_33_code 26 = .ok (.iload_n 1, 1) := by decide +kernel
theorem dM_length_27 : decode prog_8_method_33_code 27 = .ok (.if_icmp .ne 32, 3) := by decide +kernel
theorem dM_length_30 : decode prog_8_method_33_code 30 = .ok (.aload_n 0, 1) := by decide +kernel
theorem dM_length_31 : decode prog_8_method_33_code 31 = .ok (.iload 4, 2) := by decide +kernel
theorem dM_length_33 : decode prog_8_method_33_code 33 = .ok (.invokevirtual 130, 3) := by decide +kernel
theorem dM_length_36 : decode prog_8_method_33_code 36 = .ok (.iload_n 2, 1) := by decide +kernel
theorem dM_length_37 : decode prog_8_method_33_code 37 = .ok (.if_icmp .ne 22, 3) := by decide +kernel
theorem dM_length_40 : decode prog_8_method_33_code 40 = .ok (.aload_n 0, 1) := by decide +kernel
theorem dM_length_41 : decode prog_8_method_33_code 41 = .ok (.iload 4, 2) := by decide +kernel
theorem dM_length_43 : decode prog_8_method_33_code 43 = .ok (.invokevirtual 133, 3) := by decide +kernel
theorem dM_length_46 : decode prog_8_method_33_code 46 = .ok (.iload_n 3, 1) := by decide +kernel
theorem dM_length_47 : decode prog_8_method_33_code 47 = .ok (.if_icmp .le 12, 3) := by decide +kernel
theorem dM_length_50 : decode prog_8_method_33_code 50 = .ok (.aload_n 0, 1) := by decide +kernel
theorem dM_length_51 : decode prog_8_method_33_code 51 = .ok (.iload 4, 2) := by decide +kernel
theorem dM_length_53 : decode prog_8_method_33_code 53 = .ok (.invokevirtual 133, 3) := by decide +kernel
theorem dM_length_56 : decode prog_8_method_33_code 56 = .ok (.goto 4, 3) := by decide +kernel
theorem dM_length_59 : decode prog_8_method_33_code 59 = .ok (.iload_n 3, 1) := by decide +kernel
theorem dM_length_60 : decode prog_8_method_33_code 60 = .ok (.istore_n 3, 1) := by decide +kernel
theorem dM_length_61 : decode prog_8_method_33_code 61 = .ok (.iinc 4 1, 3) := by decide +kernel
theorem dM_length_64 : decode prog_8_method_33_code 64 = .ok (.goto (-59), 3) := by decide +kernel
theorem dM_length_67 : decode prog_8_method_33_code 67 = .ok (.iload_n 3, 1) := by decide +kernel
theorem dM_length_68 : decode prog_8_method_33_code 68 = .ok (.ireturn, 1) := by decide +kernel
theorem dM_jump_0 : decode prog_8_method_39_code 0 = .ok (.aload_n 0, 1) := by decide +kernel
theorem dM_jump_1 : decode prog_8_method_39_code 1 = .ok (.iload_n 1, 1) := by decide +kernel
theorem dM_jump_2 : decode prog_8_method_39_code 2 = .ok (.ifCond .lt 11, 3) := by decide +kernel
theorem dM_jump_5 : decode prog_8_method_39_code 5 = .ok (.aload_n 0, 1) := by decide +kernel
theorem dM_jump_6 : decode prog_8_method_39_code 6 = .ok (.iload_n 1, 1) := by decide +kernel
theorem dM_jump_7 : decode prog_8_method_39_code 7 = .ok (.invokevirtual 145, 3) := by decide +kernel
theorem dM_jump_10 : decode prog_8_method_39_code 10 = .ok (.ifCond .ge 7, 3) := by decide +kernel
theorem dM_jump_13 : decode prog_8_method_39_code 13 = .ok (.iconst 1, 1) := by decide +kernel
theorem dM_jump_14 : decode prog_8_method_39_code 14 = .ok (.goto 4, 3) := by decide +kernel
theorem dM_jump_17 : decode prog_8_method_39_code 17 = .ok (.iconst 0, 1) := by decide +kernel
theorem dM_jump_18 : decode prog_8_method_39_code 18 = .ok (.putfield 75, 3) := by decide +kernel
theorem dM_jump_21 : decode prog_8_method_39_code 21 = .ok (.aload_n 0, 1) := by decide +kernel
theorem dM_jump_22 : decode prog_8_method_39_code 22 = .ok (.getfield 75, 3) := by decide +kernel
theorem dM_jump_25 : decode prog_8_method_39_code 25 = .ok (.ifCond .ne 18, 3) := by decide +kernel
theorem dM_jump_28 : decode prog_8_method_39_code 28 = .ok (.aload_n 0, 1) := by decide +kernel
theorem dM_jump_29 : decode prog_8_method_39_code 29 = .ok (.iload_n 1, 1) := by decide +kernel
theorem dM_jump_30 : decode prog_8_method_39_code 30 = .ok (.putfield 142, 3) := by decide +kernel
theorem dM_jump_33 : decode prog_8_method_39_code 33 = .ok (.aload_n 0, 1) := by decide +kernel
theorem dM_jump_34 : decode prog_8_method_39_code 34 = .ok (.iconst 0, 1) := by decide +kernel
theorem dM_jump_35 : decode prog_8_method_39_code 35 = .ok (.putfield 136, 3) := by decide +kernel
theorem dM_jump_38 : decode prog_8_method_39_code 38 = .ok (.aload_n 0, 1) := by decide +kernel
theorem dM_jump_39 : decode prog_8_method_39_code 39 = .ok (.iconst 0, 1) := by decide +kernel
theorem dM_jump_40 : decode prog_8_method_39_code 40 = .ok (.putfield 139, 3) := by decide +kernel
theorem dM_jump_43 : decode prog_8_method_39_code 43 = .ok (.return_, 1) := by decide +kernel
theorem dM_tick_0 : decode prog_8_method_40_code 0 = .ok (.aload_n 0, 1) := by decide +kernel
theorem dM_tick_1 : decode prog_8_method_40_code 1 = .ok (.iload_n 1, 1) := by decide +kernel
theorem dM_tick_2 : decode prog_8_method_40_code 2 = .ok (.ifCond .lt 10, 3) := by decide +kernel
theorem dM_tick_5 : decode prog_8_method_40_code 5 = .ok (.iload_n 1, 1) := by decide +kernel
theorem dM_tick_6 : decode prog_8_method_40_code 6 = .ok (.sipush 1000, 3) := by decide +kernel
theorem dM_tick_9 : decode prog_8_method_40_code 9 = .ok (.if_icmp .le 7, 3) := by decide +kernel
theorem dM_tick_12 : decode prog_8_method_40_code 12 = .ok (.iconst 1, 1) := by decide +kernel
theorem dM_tick_13 : decode prog_8_method_40_code 13 = .ok (.goto 4, 3) := by decide +kernel
theorem dM_tick_16 : decode prog_8_method_40_code 16 = .ok (.iconst 0, 1) := by decide +kernel
theorem dM_tick_17 : decode prog_8_method_40_code 17 = .ok (.putfield 75, 3) := by decide +kernel
theorem dM_tick_20 : decode prog_8_method_40_code 20 = .ok (.aload_n 0, 1) := by decide +kernel
theorem dM_tick_21 : decode prog_8_method_40_code 21 = .ok (.getfield 75, 3) := by decide +kernel
theorem dM_tick_24 : decode prog_8_method_40_code 24 = .ok (.ifCond .ne 29, 3) := by decide +kernel
theorem dM_tick_27 : decode prog_8_method_40_code 27 = .ok (.aload_n 0, 1) := by decide +kernel
theorem dM_tick_28 : decode prog_8_method_40_code 28 = .ok (.aload_n 0, 1) := by decide +kernel
theorem dM_tick_29 : decode prog_8_method_40_code 29 = .ok (.getfield 139, 3) := by decide +kernel
theorem dM_tick_32 : decode prog_8_method_40_code 32 = .ok (.iload_n 1, 1) := by decide +kernel
theorem dM_tick_33 : decode prog_8_method_40_code 33 = .ok (.iadd, 1) := by decide +kernel
theorem dM_tick_34 : decode prog_8_method_40_code 34 = .ok (.ldc 157, 2) := by decide +kernel
theorem dM_tick_36 : decode prog_8_method_40_code 36 = .ok (.if_icmp .le 8, 3) := by decide +kernel
theorem dM_tick_39 : decode prog_8_method_40_code 39 = .ok (.ldc 157, 2) := by decide +kernel
theorem dM_tick_41 : decode prog_8_method_40_code 41 = .ok (.goto 9, 3) := by decide +kernel
theorem dM_tick_44 : decode prog_8_method_40_code 44 = .ok (.aload_n 0, 1) := by decide +kernel
theorem dM_tick_45 : decode prog_8_method_40_code 45 = .ok (.getfield 139, 3) := by decide +kernel
theorem dM_tick_48 : decode prog_8_method_40_code 48 = .ok (.iload_n 1, 1) := by decide +kernel
theorem dM_tick_49 : decode prog_8_method_40_code 49 = .ok (.iadd, 1) := by decide +kernel
theorem dM_tick_50 : decode prog_8_method_40_code 50 = .ok (.putfield 139, 3) := by decide +kernel
theorem dM_tick_53 : decode prog_8_method_40_code 53 = .ok (.return_, 1) := by decide +kernel
theorem dM_state_0 : decode prog_8_method_41_code 0 = .ok (.aload_n 0, 1) := by decide +kernel
theorem dM_state_1 : decode prog_8_method_41_code 1 = .ok (.iconst 0, 1) := by decide +kernel
theorem dM_state_2 : decode prog_8_method_41_code 2 = .ok (.putfield 75, 3) := by decide +kernel
theorem dM_state_5 : decode prog_8_method_41_code 5 = .ok (.aload_n 0, 1) := by decide +kernel
theorem dM_state_6 : decode prog_8_method_41_code 6 = .ok (.aload_n 0, 1) := by decide +kernel
theorem dM_state_7 : decode prog_8_method_41_code 7 = .ok (.getfield 142, 3) := by decide +kernel
theorem dM_state_10 : decode prog_8_method_41_code 10 = .ok (.invokevirtual 145, 3) := by decide +kernel
theorem dM_state_13 : decode prog_8_method_41_code 13 = .ok (.istore_n 2, 1) := by decide +kernel
theorem dM_state_14 : decode prog_8_method_41_code 14 = .ok (.iload_n 1, 1) := by decide +kernel
theorem dM_state_15 : decode prog_8_method_41_code 15 = .ok (.tableswitch 88 0 4 #[33, 46, 51, 56, 70], 33) := by decide +kernel
theorem dM_state_48 : decode prog_8_method_41_code 48 = .ok (.iload_n 2, 1) := by decide +kernel
theorem dM_state_49 : decode prog_8_method_41_code 49 = .ok (.ifCond .ge 7, 3) := by decide +kernel
theorem dM_state_52 : decode prog_8_method_41_code 52 = .ok (.iconst (-1), 1) := by decide +kernel
theorem dM_state_53 : decode prog_8_method_41_code 53 = .ok (.goto 7, 3) := by decide +kernel
theorem dM_state_56 : decode prog_8_method_41_code 56 = .ok (.aload_n 0, 1) := by decide +kernel
theorem dM_state_57 : decode prog_8_method_41_code 57 = .ok (.getfield 142, 3) := by decide +kernel
theorem dM_state_60 : decode prog_8_method_41_code 60 = .ok (.ireturn, 1) := by decide +kernel
theorem dM_state_61 : decode prog_8_method_41_code 61 = .ok (.aload_n 0, 1) := by decide +kernel
theorem dM_state_62 : decode prog_8_method_41_code 62 = .ok (.getfield 136, 3) := by decide +kernel
theorem dM_state_65 : decode prog_8_method_41_code 65 = .ok (.ireturn, 1) := by decide +kernel
theorem dM_state_66 : decode prog_8_method_41_code 66 = .ok (.aload_n 0, 1) := by decide +kernel
theorem dM_state_67 : decode prog_8_method_41_code 67 = .ok (.getfield 139, 3) := by decide +kernel
theorem dM_state_70 : decode prog_8_method_41_code 70 = .ok (.ireturn, 1) := by decide +kernel
theorem dM_state_71 : decode prog_8_method_41_code 71 = .ok (.iload_n 2, 1) := by decide +kernel
theorem dM_state_72 : decode prog_8_method_41_code 72 = .ok (.ifCond .ge 7, 3) := by decide +kernel
theorem dM_state_75 : decode prog_8_method_41_code 75 = .ok (.iconst 0, 1) := by decide +kernel
theorem dM_state_76 : decode prog_8_method_41_code 76 = .ok (.goto 8, 3) := by decide +kernel
theorem dM_state_79 : decode prog_8_method_41_code 79 = .ok (.aload_n 0, 1) := by decide +kernel
theorem dM_state_80 : decode prog_8_method_41_code 80 = .ok (.iload_n 2, 1) := by decide +kernel
theorem dM_state_81 : decode prog_8_method_41_code 81 = .ok (.invokevirtual 151, 3) := by decide +kernel
theorem dM_state_84 : decode prog_8_method_41_code 84 = .ok (.ireturn, 1) := by decide +kernel
theorem dM_state_85 : decode prog_8_method_41_code 85 = .ok (.iload_n 2, 1) := by decide +kernel
theorem dM_state_86 : decode prog_8_method_41_code 86 = .ok (.ifCond .ge 7, 3) := by decide +kernel
theorem dM_state_89 : decode prog_8_method_41_code 89 = .ok (.iconst 0, 1) := by decide +kernel
theorem dM_state_90 : decode prog_8_method_41_code 90 = .ok (.goto 12, 3) := by decide +kernel
theorem dM_state_93 : decode prog_8_method_41_code 93 = .ok (.aload_n 0, 1) := by decide +kernel
theorem dM_state_94 : decode prog_8_method_41_code 94 = .ok (.iload_n 2, 1) := by decide +kernel
theorem dM_state_95 : decode prog_8_method_41_code 95 = .ok (.aload_n 0, 1) := by decide +kernel
theorem dM_state_96 : decode prog_8_method_41_code 96 = .ok (.getfield 136, 3) := by decide +kernel
theorem dM_state_99 : decode prog_8_method_41_code 99 = .ok (.invokevirtual 154, 3) := by decide +kernel
theorem dM_state_102 : decode prog_8_method_41_code 102 = .ok (.ireturn, 1) := by decide +kernel
theorem dM_state_103 : decode prog_8_method_41_code 103 = .ok (.iconst (-1), 1) := by decide +kernel
theorem dM_state_104 : decode prog_8_method_41_code 104 = .ok (.ireturn, 1) := by decide +kernel
theorem dM_now_0 : decode prog_8_method_46_code 0 = .ok (.aload_n 0, 1) := by decide +kernel
theorem dM_now_1 : decode prog_8_method_46_code 1 = .ok (.aload_n 0, 1) := by decide +kernel
theorem dM_now_2 : decode prog_8_method_46_code 2 = .ok (.iload_n 1, 1) := by decide +kernel
theorem dM_now_3 : decode prog_8_method_46_code 3 = .ok (.invokevirtual 98, 3) := by decide +kernel
theorem dM_now_6 : decode prog_8_method_46_code 6 = .ok (.ifCond .eq 7, 3) := by decide +kernel
theorem dM_now_9 : decode prog_8_method_46_code 9 = .ok (.iconst 1, 1) := by decide +kernel
theorem dM_now_10 : decode prog_8_method_46_code 10 = .ok (.goto 15, 3) := by decide +kernel
theorem dM_now_13 : decode prog_8_method_46_code 13 = .ok (.iload_n 2, 1) := by decide +kernel
theorem dM_now_14 : decode prog_8_method_46_code 14 = .ok (.invokestatic 101, 3) := by decide +kernel
theorem dM_now_17 : decode prog_8_method_46_code 17 = .ok (.ifCond .eq 7, 3) := by decide +kernel
theorem dM_now_20 : decode prog_8_method_46_code 20 = .ok (.iconst 2, 1) := by decide +kernel
theorem dM_now_21 : decode prog_8_method_46_code 21 = .ok (.goto 4, 3) := by decide +kernel
theorem dM_now_24 : decode prog_8_method_46_code 24 = .ok (.iconst 0, 1) := by decide +kernel
theorem dM_now_25 : decode prog_8_method_46_code 25 = .ok (.putfield 75, 3) := by decide +kernel
theorem dM_now_28 : decode prog_8_method_46_code 28 = .ok (.aload_n 0, 1) := by decide +kernel
theorem dM_now_29 : decode prog_8_method_46_code 29 = .ok (.getfield 75, 3) := by decide +kernel
theorem dM_now_32 : decode prog_8_method_46_code 32 = .ok (.ifCond .le 7, 3) := by decide +kernel
theorem dM_now_35 : decode prog_8_method_46_code 35 = .ok (.iconst 0, 1) := by decide +kernel
theorem dM_now_36 : decode prog_8_method_46_code 36 = .ok (.goto 9, 3) := by decide +kernel
theorem dM_now_39 : decode prog_8_method_46_code 39 = .ok (.aload_n 0, 1) := by decide +kernel
theorem dM_now_40 : decode prog_8_method_46_code 40 = .ok (.iload_n 1, 1) := by decide +kernel
theorem dM_now_41 : decode prog_8_method_46_code 41 = .ok (.iload_n 2, 1) := by decide +kernel
theorem dM_now_42 : decode prog_8_method_46_code 42 = .ok (.invokevirtual 167, 3) := by decide +kernel
theorem dM_now_45 : decode prog_8_method_46_code 45 = .ok (.ireturn, 1) := by decide +kernel
theorem dM_valueNow_0 : decode prog_8_method_45_code 0 = .ok (.aload_n 0, 1) := by decide +kernel
theorem dM_valueNow_1 : decode prog_8_method_45_code 1 = .ok (.iload_n 1, 1) := by decide +kernel
theorem dM_valueNow_2 : decode prog_8_method_45_code 2 = .ok (.iload_n 2, 1) := by decide +kernel
theorem dM_valueNow_3 : decode prog_8_method_45_code 3 = .ok (.invokevirtual 107, 3) := by decide +kernel
theorem dM_valueNow_6 : decode prog_8_method_45_code 6 = .ok (.istore_n 3, 1) := by decide +kernel
theorem dM_valueNow_7 : decode prog_8_method_45_code 7 = .ok (.aload_n 0, 1) := by decide +kernel
theorem dM_valueNow_8 : decode prog_8_method_45_code 8 = .ok (.getfield 16, 3) := by decide +kernel
theorem dM_valueNow_11 : decode prog_8_method_45_code 11 = .ok (.iload_n 1, 1) := by decide +kernel
theorem dM_valueNow_12 : decode prog_8_method_45_code 12 = .ok (.iaload, 1) := by decide +kernel
theorem dM_valueNow_13 : decode prog_8_method_45_code 13 = .ok (.aload_n 0, 1) := by decide +kernel
theorem dM_valueNow_14 : decode prog_8_method_45_code 14 = .ok (.aload_n 0, 1) := by decide +kernel
theorem dM_valueNow_15 : decode prog_8_method_45_code 15 = .ok (.getfield 142, 3) := by decide +kernel
theorem dM_valueNow_18 : decode prog_8_method_45_code 18 = .ok (.invokevirtual 145, 3) := by decide +kernel
theorem dM_valueNow_21 : decode prog_8_method_45_code 21 = .ok (.if_icmp .eq 5, 3) := by decide +kernel
theorem dM_valueNow_24 : decode prog_8_method_45_code 24 = .ok (.iload_n 3, 1) := by decide +kernel
theorem dM_valueNow_25 : decode prog_8_method_45_code 25 = .ok (.ireturn, 1) := by decide +kernel
theorem dM_valueNow_26 : decode prog_8_method_45_code 26 = .ok (.iload_n 2, 1) := by decide +kernel
theorem dM_valueNow_27 : decode prog_8_method_45_code 27 = .ok (.ifCond .ne 14, 3) := by decide +kernel
theorem dM_valueNow_30 : decode prog_8_method_45_code 30 = .ok (.iload_n 3, 1) := by decide +kernel
theorem dM_valueNow_31 : decode prog_8_method_45_code 31 = .ok (.aload_n 0, 1) := by decide +kernel
theorem dM_valueNow_32 : decode prog_8_method_45_code 32 = .ok (.iload_n 1, 1) := by decide +kernel
theorem dM_valueNow_33 : decode prog_8_method_45_code 33 = .ok (.iconst 2, 1) := by decide +kernel
theorem dM_valueNow_34 : decode prog_8_method_45_code 34 = .ok (.invokevirtual 161, 3) := by decide +kernel
theorem dM_valueNow_37 : decode prog_8_method_45_code 37 = .ok (.iadd, 1) := by decide +kernel
theorem dM_valueNow_38 : decode prog_8_method_45_code 38 = .ok (.goto 34, 3) := by decide +kernel
theorem dM_valueNow_41 : decode prog_8_method_45_code 41 = .ok (.iload_n 2, 1) := by decide +kernel
theorem dM_valueNow_42 : decode prog_8_method_45_code 42 = .ok (.iconst 1, 1) := by decide +kernel
theorem dM_valueNow_43 : decode prog_8_method_45_code 43 = .ok (.if_icmp .ne 14, 3) := by decide +kernel
theorem dM_valueNow_46 : decode prog_8_method_45_code 46 = .ok (.iload_n 3, 1) := by decide +kernel
theorem dM_valueNow_47 : decode prog_8_method_45_code 47 = .ok (.aload_n 0, 1) := by decide +kernel
theorem dM_valueNow_48 : decode prog_8_method_45_code 48 = .ok (.iload_n 1, 1) := by decide +kernel
theorem dM_valueNow_49 : decode prog_8_method_45_code 49 = .ok (.iconst 3, 1) := by decide +kernel
theorem dM_valueNow_50 : decode prog_8_method_45_code 50 = .ok (.invokevirtual 161, 3) := by decide +kernel
theorem dM_valueNow_53 : decode prog_8_method_45_code 53 = .ok (.iadd, 1) := by decide +kernel
theorem dM_valueNow_54 : decode prog_8_method_45_code 54 = .ok (.goto 18, 3) := by decide +kernel
theorem dM_valueNow_57 : decode prog_8_method_45_code 57 = .ok (.iload_n 2, 1) := by decide +kernel
theorem dM_valueNow_58 : decode prog_8_method_45_code 58 = .ok (.iconst 5, 1) := by decide +kernel
theorem dM_valueNow_59 : decode prog_8_method_45_code 59 = .ok (.if_icmp .ne 12, 3) := by decide +kernel
theorem dM_valueNow_62 : decode prog_8_method_45_code 62 = .ok (.aload_n 0, 1) := by decide +kernel
theorem dM_valueNow_63 : decode prog_8_method_45_code 63 = .ok (.iload_n 1, 1) := by decide +kernel
theorem dM_valueNow_64 : decode prog_8_method_45_code 64 = .ok (.iload_n 3, 1) := by decide +kernel
theorem dM_valueNow_65 : decode prog_8_method_45_code 65 = .ok (.invokevirtual 164, 3) := by decide +kernel
theorem dM_valueNow_68 : decode prog_8_method_45_code 68 = .ok (.goto 4, 3) := by decide +kernel
theorem dM_valueNow_71 : decode prog_8_method_45_code 71 = .ok (.iload_n 3, 1) := by decide +kernel
theorem dM_valueNow_72 : decode prog_8_method_45_code 72 = .ok (.ireturn, 1) := by decide +kernel
theorem dM_moved_0 : decode prog_8_method_43_code 0 = .ok (.iconst 0, 1) := by decide +kernel
theorem dM_moved_1 : decode prog_8_method_43_code 1 = .ok (.istore_n 3, 1) := by decide +kernel
theorem dM_moved_2 : decode prog_8_method_43_code 2 = .ok (.iconst 0, 1) := by decide +kernel
theorem dM_moved_3 : decode prog_8_method_43_code 3 = .ok (.istore 4, 2) := by decide +kernel
theorem dM_moved_5 : decode prog_8_method_43_code 5 = .ok (.iload 4, 2) := by decide +kernel
theorem dM_moved_7 : decode prog_8_method_43_code 7 = .ok (.aload_n 0, 1) := by decide +kernel
theorem dM_moved_8 : decode prog_8_method_43_code 8 = .ok (.getfield 121, 3) := by decide +kernel
theorem dM_moved_11 : decode prog_8_method_43_code 11 = .ok (.if_icmp .ge 83, 3) := by decide +kernel
theorem dM_moved_14 : decode prog_8_method_43_code 14 = .ok (.aload_n 0, 1) := by decide +kernel
theorem dM_moved_15 : decode prog_8_method_43_code 15 = .ok (.getfield 45, 3) := by decide +kernel
theorem dM_moved_18 : decode prog_8_method_43_code 18 = .ok (.iload 4, 2) := by decide +kernel
theorem dM_moved_20 : decode prog_8_method_43_code 20 = .ok (.iaload, 1) := by decide +kernel
theorem dM_moved_21 : decode prog_8_method_43_code 21 = .ok (.iload_n 1, 1) := by decide +kernel
theorem dM_moved_22 : decode prog_8_method_43_code 22 = .ok (.if_icmp .ne 66, 3) := by decide +kernel
theorem dM_moved_25 : decode prog_8_method_43_code 25 = .ok (.aload_n 0, 1) := by decide +kernel
theorem dM_moved_26 : decode prog_8_method_43_code 26 = .ok (.getfield 48, 3) := by decide +kernel
theorem dM_moved_29 : decode prog_8_method_43_code 29 = .ok (.iload 4, 2) := by decide +kernel
theorem dM_moved_31 : decode prog_8_method_43_code 31 = .ok (.iaload, 1) := by decide +kernel
theorem dM_moved_32 : decode prog_8_method_43_code 32 = .ok (.iload_n 2, 1) := by decide +kernel
theorem dM_moved_33 : decode prog_8_method_43_code 33 = .ok (.if_icmp .ne 55, 3) := by decide +kernel
theorem dM_moved_36 : decode prog_8_method_43_code 36 = .ok (.aload_n 0, 1) := by decide +kernel
theorem dM_moved_37 : decode prog_8_method_43_code 37 = .ok (.iload 4, 2) := by decide +kernel
theorem dM_moved_39 : decode prog_8_method_43_code 39 = .ok (.invokevirtual 148, 3) := by decide +kernel
theorem dM_moved_42 : decode prog_8_method_43_code 42 = .ok (.istore 5, 2) := by decide +kernel
theorem dM_moved_44 : decode prog_8_method_43_code 44 = .ok (.iload 5, 2) := by decide +kernel
theorem dM_moved_46 : decode prog_8_method_43_code 46 = .ok (.iconst 2, 1) := by decide +kernel
theorem dM_moved_47 : decode prog_8_method_43_code 47 = .ok (.if_icmp .ne 15, 3) := by decide +kernel
theorem dM_moved_50 : decode prog_8_method_43_code 50 = .ok (.iload_n 3, 1) := by decide +kernel
theorem dM_moved_51 : decode prog_8_method_43_code 51 = .ok (.aload_n 0, 1) := by decide +kernel
theorem dM_moved_52 : decode prog_8_method_43_code 52 = .ok (.getfield 60, 3) := by decide +kernel
theorem dM_moved_55 : decode prog_8_method_43_code 55 = .ok (.iload 4, 2) := by decide +kernel
theorem dM_moved_57 : decode prog_8_method_43_code 57 = .ok (.iaload, 1) := by decide +kernel
theorem dM_moved_58 : decode prog_8_method_43_code 58 = .ok (.iadd, 1) := by decide +kernel
theorem dM_moved_59 : decode prog_8_method_43_code 59 = .ok (.goto 28, 3) := by decide +kernel
theorem dM_moved_62 : decode prog_8_method_43_code 62 = .ok (.iload 5, 2) := by decide +kernel
theorem dM_moved_64 : decode prog_8_method_43_code 64 = .ok (.iconst 1, 1) := by decide +kernel
theorem dM_moved_65 : decode prog_8_method_43_code 65 = .ok (.if_icmp .ne 21, 3) := by decide +kernel
theorem dM_moved_68 : decode prog_8_method_43_code 68 = .ok (.iload_n 3, 1) := by decide +kernel
theorem dM_moved_69 : decode prog_8_method_43_code 69 = .ok (.aload_n 0, 1) := by decide +kernel
theorem dM_moved_70 : decode prog_8_method_43_code 70 = .ok (.aload_n 0, 1) := by decide +kernel
theorem dM_moved_71 : decode prog_8_method_43_code 71 = .ok (.getfield 60, 3) := by decide +kernel
theorem dM_moved_74 : decode prog_8_method_43_code 74 = .ok (.iload 4, 2) := by decide +kernel
theorem dM_moved_76 : decode prog_8_method_43_code 76 = .ok (.iaload, 1) := by decide +kernel
theorem dM_moved_77 : decode prog_8_method_43_code 77 = .ok (.iload 4, 2) := by decide +kernel
theorem dM_moved_79 : decode prog_8_method_43_code 79 = .ok (.invokevirtual 158, 3) := by decide +kernel
theorem dM_moved_82 : decode prog_8_method_43_code 82 = .ok (.iadd, 1) := by decide +kernel
theorem dM_moved_83 : decode prog_8_method_43_code 83 = .ok (.goto 4, 3) := by decide +kernel
theorem dM_moved_86 : decode prog_8_method_43_code 86 = .ok (.iload_n 3, 1) := by decide +kernel
theorem dM_moved_87 : decode prog_8_method_43_code 87 = .ok (.istore_n 3, 1) := by decide +kernel
theorem dM_moved_88 : decode prog_8_method_43_code 88 = .ok (.iinc 4 1, 3) := by decide +kernel
theorem dM_moved_91 : decode prog_8_method_43_code 91 = .ok (.goto (-86), 3) := by decide +kernel
theorem dM_moved_94 : decode prog_8_method_43_code 94 = .ok (.iload_n 3, 1) := by decide +kernel
theorem dM_moved_95 : decode prog_8_method_43_code 95 = .ok (.ireturn, 1) := by decide +kernel
theorem dM_part_0 : decode prog_8_method_42_code 0 = .ok (.iload_n 1, 1) := by decide +kernel
theorem dM_part_1 : decode prog_8_method_42_code 1 = .ok (.aload_n 0, 1) := by decide +kernel
theorem dM_part_2 : decode prog_8_method_42_code 2 = .ok (.getfield 139, 3) := by decide +kernel
theorem dM_part_5 : decode prog_8_method_42_code 5 = .ok (.aload_n 0, 1) := by decide +kernel
theorem dM_part_6 : decode prog_8_method_42_code 6 = .ok (.iload_n 2, 1) := by decide +kernel
theorem dM_part_7 : decode prog_8_method_42_code 7 = .ok (.invokevirtual 127, 3) := by decide +kernel
theorem dM_part_10 : decode prog_8_method_42_code 10 = .ok (.isub, 1) := by decide +kernel
theorem dM_part_11 : decode prog_8_method_42_code 11 = .ok (.imul, 1) := by decide +kernel
theorem dM_part_12 : decode prog_8_method_42_code 12 = .ok (.aload_n 0, 1) := by decide +kernel
theorem dM_part_13 : decode prog_8_method_42_code 13 = .ok (.getfield 57, 3) := by decide +kernel
theorem dM_part_16 : decode prog_8_method_42_code 16 = .ok (.iload_n 2, 1) := by decide +kernel
theorem dM_part_17 : decode prog_8_method_42_code 17 = .ok (.iaload, 1) := by decide +kernel
theorem dM_part_18 : decode prog_8_method_42_code 18 = .ok (.idiv, 1) := by decide +kernel
theorem dM_part_19 : decode prog_8_method_42_code 19 = .ok (.ireturn, 1) := by decide +kernel
theorem dM_shown_0 : decode prog_8_method_44_code 0 = .ok (.iload_n 2, 1) := by decide +kernel
theorem dM_shown_1 : decode prog_8_method_44_code 1 = .ok (.istore_n 3, 1) := by decide +kernel
theorem dM_shown_2 : decode prog_8_method_44_code 2 = .ok (.iconst 1, 1) := by decide +kernel
theorem dM_shown_3 : decode prog_8_method_44_code 3 = .ok (.istore 4, 2) := by decide +kernel
theorem dM_shown_5 : decode prog_8_method_44_code 5 = .ok (.iconst 0, 1) := by decide +kernel
theorem dM_shown_6 : decode prog_8_method_44_code 6 = .ok (.istore 5, 2) := by decide +kernel
theorem dM_shown_8 : decode prog_8_method_44_code 8 = .ok (.iload 5, 2) := by decide +kernel
theorem dM_shown_10 : decode prog_8_method_44_code 10 = .ok (.aload_n 0, 1) := by decide +kernel
theorem dM_shown_11 : decode prog_8_method_44_code 11 = .ok (.getfield 121, 3) := by decide +kernel
theorem dM_shown_14 : decode prog_8_method_44_code 14 = .ok (.if_icmp .ge 114, 3) := by decide +kernel
theorem dM_shown_17 : decode prog_8_method_44_code 17 = .ok (.aload_n 0, 1) := by decide +kernel
theorem dM_shown_18 : decode prog_8_method_44_code 18 = .ok (.getfield 45, 3) := by decide +kernel
theorem dM_shown_21 : decode prog_8_method_44_code 21 = .ok (.iload 5, 2) := by decide +kernel
theorem dM_shown_23 : decode prog_8_method_44_code 23 = .ok (.iaload, 1) := by decide +kernel
theorem dM_shown_24 : decode prog_8_method_44_code 24 = .ok (.iload_n 1, 1) := by decide +kernel
theorem dM_shown_25 : decode prog_8_method_44_code 25 = .ok (.if_icmp .ne 97, 3) := by decide +kernel
theorem dM_shown_28 : decode prog_8_method_44_code 28 = .ok (.aload_n 0, 1) := by decide +kernel
theorem dM_shown_29 : decode prog_8_method_44_code 29 = .ok (.getfield 48, 3) := by decide +kernel
theorem dM_shown_32 : decode prog_8_method_44_code 32 = .ok (.iload 5, 2) := by decide +kernel
theorem dM_shown_34 : decode prog_8_method_44_code 34 = .ok (.iaload, 1) := by decide +kernel
theorem dM_shown_35 : decode prog_8_method_44_code 35 = .ok (.iconst 1, 1) := by decide +kernel
theorem dM_shown_36 : decode prog_8_method_44_code 36 = .ok (.if_icmp .gt 86, 3) := by decide +kernel
theorem dM_shown_39 : decode prog_8_method_44_code 39 = .ok (.aload_n 0, 1) := by decide +kernel
theorem dM_shown_40 : decode prog_8_method_44_code 40 = .ok (.getfield 48, 3) := by decide +kernel
theorem dM_shown_43 : decode prog_8_method_44_code 43 = .ok (.iload 5, 2) := by decide +kernel
theorem dM_shown_45 : decode prog_8_method_44_code 45 = .ok (.iaload, 1) := by decide +kernel
theorem dM_shown_46 : decode prog_8_method_44_code 46 = .ok (.ifCond .ne 7, 3) := by decide +kernel
theorem dM_shown_49 : decode prog_8_method_44_code 49 = .ok (.iconst 1, 1) := by decide +kernel
theorem dM_shown_50 : decode prog_8_method_44_code 50 = .ok (.goto 4, 3) := by decide +kernel
theorem dM_shown_53 : decode prog_8_method_44_code 53 = .ok (.iconst 0, 1) := by decide +kernel
theorem dM_shown_54 : decode prog_8_method_44_code 54 = .ok (.istore 6, 2) := by decide +kernel
theorem dM_shown_56 : decode prog_8_method_44_code 56 = .ok (.aload_n 0, 1) := by decide +kernel
theorem dM_shown_57 : decode prog_8_method_44_code 57 = .ok (.iload 5, 2) := by decide +kernel
theorem dM_shown_59 : decode prog_8_method_44_code 59 = .ok (.invokevirtual 148, 3) := by decide +kernel
theorem dM_shown_62 : decode prog_8_method_44_code 62 = .ok (.istore 7, 2) := by decide +kernel
theorem dM_shown_64 : decode prog_8_method_44_code 64 = .ok (.iload 4, 2) := by decide +kernel
theorem dM_shown_66 : decode prog_8_method_44_code 66 = .ok (.ifCond .eq 12, 3) := by decide +kernel
theorem dM_shown_69 : decode prog_8_method_44_code 69 = .ok (.iload 6, 2) := by decide +kernel
theorem dM_shown_71 : decode prog_8_method_44_code 71 = .ok (.ifCond .eq 7, 3) := by decide +kernel
theorem dM_shown_74 : decode prog_8_method_44_code 74 = .ok (.iconst 0, 1) := by decide +kernel
theorem dM_shown_75 : decode prog_8_method_44_code 75 = .ok (.goto 4, 3) := by decide +kernel
theorem dM_shown_78 : decode prog_8_method_44_code 78 = .ok (.iload_n 3, 1) := by decide +kernel
theorem dM_shown_79 : decode prog_8_method_44_code 79 = .ok (.istore_n 3, 1) := by decide +kernel
theorem dM_shown_80 : decode prog_8_method_44_code 80 = .ok (.iconst 0, 1) := by decide +kernel
theorem dM_shown_81 : decode prog_8_method_44_code 81 = .ok (.istore 4, 2) := by decide +kernel
theorem dM_shown_83 : decode prog_8_method_44_code 83 = .ok (.iload 7, 2) := by decide +kernel
theorem dM_shown_85 : decode prog_8_method_44_code 85 = .ok (.ifCond .le 37, 3) := by decide +kernel
theorem dM_shown_88 : decode prog_8_method_44_code 88 = .ok (.iload 7, 2) := by decide +kernel
theorem dM_shown_90 : decode prog_8_method_44_code 90 = .ok (.iconst 2, 1) := by decide +kernel
theorem dM_shown_91 : decode prog_8_method_44_code 91 = .ok (.if_icmp .ne 7, 3) := by decide +kernel
theorem dM_shown_94 : decode prog_8_method_44_code 94 = .ok (.iload_n 2, 1) := by decide +kernel
theorem dM_shown_95 : decode prog_8_method_44_code 95 = .ok (.goto 10, 3) := by decide +kernel
theorem dM_shown_98 : decode prog_8_method_44_code 98 = .ok (.aload_n 0, 1) := by decide +kernel
theorem dM_shown_99 : decode prog_8_method_44_code 99 = .ok (.iload_n 2, 1) := by decide +kernel
theorem dM_shown_100 : decode prog_8_method_44_code 100 = .ok (.iload 5, 2) := by decide +kernel
theorem dM_shown_102 : decode prog_8_method_44_code 102 = .ok (.invokevirtual 158, 3) := by decide +kernel
theorem dM_shown_105 : decode prog_8_method_44_code 105 = .ok (.istore 8, 2) := by decide +kernel
theorem dM_shown_107 : decode prog_8_method_44_code 107 = .ok (.iload 6, 2) := by decide +kernel
theorem dM_shown_109 : decode prog_8_method_44_code 109 = .ok (.ifCond .eq 8, 3) := by decide +kernel
theorem dM_shown_112 : decode prog_8_method_44_code 112 = .ok (.iload 8, 2) := by decide +kernel
theorem dM_shown_114 : decode prog_8_method_44_code 114 = .ok (.goto 7, 3) := by decide +kernel
theorem dM_shown_117 : decode prog_8_method_44_code 117 = .ok (.iload_n 2, 1) := by decide +kernel
theorem dM_shown_118 : decode prog_8_method_44_code 118 = .ok (.iload 8, 2) := by decide +kernel
theorem dM_shown_120 : decode prog_8_method_44_code 120 = .ok (.isub, 1) := by decide +kernel
theorem dM_shown_121 : decode prog_8_method_44_code 121 = .ok (.istore_n 3, 1) := by decide +kernel
theorem dM_shown_122 : decode prog_8_method_44_code 122 = .ok (.iinc 5 1, 3) := by decide +kernel
theorem dM_shown_125 : decode prog_8_method_44_code 125 = .ok (.goto (-117), 3) := by decide +kernel
theorem dM_shown_128 : decode prog_8_method_44_code 128 = .ok (.iload_n 3, 1) := by decide +kernel
theorem dM_shown_129 : decode prog_8_method_44_code 129 = .ok (.ireturn, 1) := by decide +kernel
theorem dM_pixel_0 : decode prog_8_method_51_code 0 = .ok (.aload_n 0, 1) := by decide +kernel
theorem dM_pixel_1 : decode prog_8_method_51_code 1 = .ok (.iconst 0, 1) := by decide +kernel
theorem dM_pixel_2 : decode prog_8_method_51_code 2 = .ok (.putfield 75, 3) := by decide +kernel
theorem dM_pixel_5 : decode prog_8_method_51_code 5 = .ok (.iload_n 1, 1) := by decide +kernel
theorem dM_pixel_6 : decode prog_8_method_51_code 6 = .ok (.ifCond .lt 19, 3) := by decide +kernel
theorem dM_pixel_9 : decode prog_8_method_51_code 9 = .ok (.iload_n 1, 1) := by decide +kernel
theorem dM_pixel_10 : decode prog_8_method_51_code 10 = .ok (.bipush 24, 2) := by decide +kernel
theorem dM_pixel_12 : decode prog_8_method_51_code 12 = .ok (.if_icmp .ge 13, 3) := by decide +kernel
theorem dM_pixel_15 : decode prog_8_method_51_code 15 = .ok (.iload_n 2, 1) := by decide +kernel
theorem dM_pixel_16 : decode prog_8_method_51_code 16 = .ok (.ifCond .lt 9, 3) := by decide +kernel
theorem dM_pixel_19 : decode prog_8_method_51_code 19 = .ok (.iload_n 2, 1) := by decide +kernel
theorem dM_pixel_20 : decode prog_8_method_51_code 20 = .ok (.bipush 16, 2) := by decide +kernel
theorem dM_pixel_22 : decode prog_8_method_51_code 22 = .ok (.if_icmp .lt 5, 3) := by decide +kernel
theorem dM_pixel_25 : decode prog_8_method_51_code 25 = .ok (.iconst (-1), 1) := by decide +kernel
theorem dM_pixel_26 : decode prog_8_method_51_code 26 = .ok (.ireturn, 1) := by decide +kernel
theorem dM_pixel_27 : decode prog_8_method_51_code 27 = .ok (.aload_n 0, 1) := by decide +kernel
theorem dM_pixel_28 : decode prog_8_method_51_code 28 = .ok (.aload_n 0, 1) := by decide +kernel
theorem dM_pixel_29 : decode prog_8_method_51_code 29 = .ok (.getfield 142, 3) := by decide +kernel
theorem dM_pixel_32 : decode prog_8_method_51_code 32 = .ok (.invokevirtual 145, 3) := by decide +kernel
theorem dM_pixel_35 : decode prog_8_method_51_code 35 = .ok (.istore_n 3, 1) := by decide +kernel
theorem dM_pixel_36 : decode prog_8_method_51_code 36 = .ok (.iload_n 3, 1) := by decide +kernel
theorem dM_pixel_37 : decode prog_8_method_51_code 37 = .ok (.ifCond .ge 6, 3) := by decide +kernel
theorem dM_pixel_40 : decode prog_8_method_51_code 40 = .ok (.ldc 93, 2) := by decide +kernel
theorem dM_pixel_42 : decode prog_8_method_51_code 42 = .ok (.ireturn, 1) := by decide +kernel
theorem dM_pixel_43 : decode prog_8_method_51_code 43 = .ok (.aload_n 0, 1) := by decide +kernel
theorem dM_pixel_44 : decode prog_8_method_51_code 44 = .ok (.getfield 13, 3) := by decide +kernel
theorem dM_pixel_47 : decode prog_8_method_51_code 47 = .ok (.iload_n 3, 1) := by decide +kernel
theorem dM_pixel_48 : decode prog_8_method_51_code 48 = .ok (.iaload, 1) := by decide +kernel
theorem dM_pixel_49 : decode prog_8_method_51_code 49 = .ok (.istore 4, 2) := by decide +kernel
theorem dM_pixel_51 : decode prog_8_method_51_code 51 = .ok (.aload_n 0, 1) := by decide +kernel
theorem dM_pixel_52 : decode prog_8_method_51_code 52 = .ok (.iload_n 3, 1) := by decide +kernel
theorem dM_pixel_53 : decode prog_8_method_51_code 53 = .ok (.iconst 1, 1) := by decide +kernel
theorem dM_pixel_54 : decode prog_8_method_51_code 54 = .ok (.iload_n 1, 1) := by decide +kernel
theorem dM_pixel_55 : decode prog_8_method_51_code 55 = .ok (.iload_n 2, 1) := by decide +kernel
theorem dM_pixel_56 : decode prog_8_method_51_code 56 = .ok (.aload_n 0, 1) := by decide +kernel
theorem dM_pixel_57 : decode prog_8_method_51_code 57 = .ok (.iload 4, 2) := by decide +kernel
theorem dM_pixel_59 : decode prog_8_method_51_code 59 = .ok (.iconst 0, 1) := by decide +kernel
theorem dM_pixel_60 : decode prog_8_method_51_code 60 = .ok (.iload_n 1, 1) := by decide +kernel
theorem dM_pixel_61 : decode prog_8_method_51_code 61 = .ok (.iload_n 2, 1) := by decide +kernel
theorem dM_pixel_62 : decode prog_8_method_51_code 62 = .ok (.aload_n 0, 1) := by decide +kernel
theorem dM_pixel_63 : decode prog_8_method_51_code 63 = .ok (.aload_n 0, 1) := by decide +kernel
theorem dM_pixel_64 : decode prog_8_method_51_code 64 = .ok (.getfield 13, 3) := by decide +kernel
theorem dM_pixel_67 : decode prog_8_method_51_code 67 = .ok (.iload 4, 2) := by decide +kernel
theorem dM_pixel_69 : decode prog_8_method_51_code 69 = .ok (.iaload, 1) := by decide +kernel
theorem dM_pixel_70 : decode prog_8_method_51_code 70 = .ok (.iconst 0, 1) := by decide +kernel
theorem dM_pixel_71 : decode prog_8_method_51_code 71 = .ok (.iload_n 1, 1) := by decide +kernel
theorem dM_pixel_72 : decode prog_8_method_51_code 72 = .ok (.iload_n 2, 1) := by decide +kernel
theorem dM_pixel_73 : decode prog_8_method_51_code 73 = .ok (.ldc 93, 2) := by decide +kernel
theorem dM_pixel_75 : decode prog_8_method_51_code 75 = .ok (.invokevirtual 181, 3) := by decide +kernel
theorem dM_pixel_78 : decode prog_8_method_51_code 78 = .ok (.invokevirtual 181, 3) := by decide +kernel
theorem dM_pixel_81 : decode prog_8_method_51_code 81 = .ok (.invokevirtual 181, 3) := by decide +kernel
theorem dM_pixel_84 : decode prog_8_method_51_code 84 = .ok (.ireturn, 1) := by decide +kernel
theorem dM_painted_0 : decode prog_8_method_50_code 0 = .ok (.iload 5, 2) := by decide +kernel
theorem dM_painted_2 : decode prog_8_method_50_code 2 = .ok (.istore 6, 2) := by decide +kernel
theorem dM_painted_4 : decode prog_8_method_50_code 4 = .ok (.iconst 0, 1) := by decide +kernel
theorem dM_painted_5 : decode prog_8_method_50_code 5 = .ok (.istore 7, 2) := by decide +kernel
theorem dM_painted_7 : decode prog_8_method_50_code 7 = .ok (.iload 7, 2) := by decide +kernel
theorem dM_painted_9 : decode prog_8_method_50_code 9 = .ok (.aload_n 0, 1) := by decide +kernel
theorem dM_painted_10 : decode prog_8_method_50_code 10 = .ok (.getfield 82, 3) := by decide +kernel
theorem dM_painted_13 : decode prog_8_method_50_code 13 = .ok (.if_icmp .ge 61, 3) := by decide +kernel
theorem dM_painted_16 : decode prog_8_method_50_code 16 = .ok (.aload_n 0, 1) := by decide +kernel
theorem dM_painted_17 : decode prog_8_method_50_code 17 = .ok (.getfield 16, 3) := by decide +kernel
theorem dM_painted_20 : decode prog_8_method_50_code 20 = .ok (.iload 7, 2) := by decide +kernel
theorem dM_painted_22 : decode prog_8_method_50_code 22 = .ok (.iaload, 1) := by decide +kernel
theorem dM_painted_23 : decode prog_8_method_50_code 23 = .ok (.iload_n 1, 1) := by decide +kernel
theorem dM_painted_24 : decode prog_8_method_50_code 24 = .ok (.if_icmp .ne 40, 3) := by decide +kernel
theorem dM_painted_27 : decode prog_8_method_50_code 27 = .ok (.iload_n 2, 1) := by decide +kernel
theorem dM_painted_28 : decode prog_8_method_50_code 28 = .ok (.ifCond .ne 13, 3) := by decide +kernel
theorem dM_painted_31 : decode prog_8_method_50_code 31 = .ok (.aload_n 0, 1) := by decide +kernel
theorem dM_painted_32 : decode prog_8_method_50_code 32 = .ok (.getfield 19, 3) := by decide +kernel
theorem dM_painted_35 : decode prog_8_method_50_code 35 = .ok (.iload 7, 2) := by decide +kernel
theorem dM_painted_37 : decode prog_8_method_50_code 37 = .ok (.iaload, 1) := by decide +kernel
theorem dM_painted_38 : decode prog_8_method_50_code 38 = .ok (.ifCond .ge 26, 3) := by decide +kernel
theorem dM_painted_41 : decode prog_8_method_50_code 41 = .ok (.aload_n 0, 1) := by decide +kernel
theorem dM_painted_42 : decode prog_8_method_50_code 42 = .ok (.iload 7, 2) := by decide +kernel
theorem dM_painted_44 : decode prog_8_method_50_code 44 = .ok (.iload_n 3, 1) := by decide +kernel
theorem dM_painted_45 : decode prog_8_method_50_code 45 = .ok (.iload 4, 2) := by decide +kernel
theorem dM_painted_47 : decode prog_8_method_50_code 47 = .ok (.invokevirtual 174, 3) := by decide +kernel
theorem dM_painted_50 : decode prog_8_method_50_code 50 = .ok (.ifCond .eq 14, 3) := by decide +kernel
theorem dM_painted_53 : decode prog_8_method_50_code 53 = .ok (.aload_n 0, 1) := by decide +kernel
theorem dM_painted_54 : decode prog_8_method_50_code 54 = .ok (.iload 7, 2) := by decide +kernel
theorem dM_painted_56 : decode prog_8_method_50_code 56 = .ok (.iload 6, 2) := by decide +kernel
theorem dM_painted_58 : decode prog_8_method_50_code 58 = .ok (.invokevirtual 178, 3) := by decide +kernel
theorem dM_painted_61 : decode prog_8_method_50_code 61 = .ok (.goto 5, 3) := by decide +kernel
theorem dM_painted_64 : decode prog_8_method_50_code 64 = .ok (.iload 6, 2) := by decide +kernel
theorem dM_painted_66 : decode prog_8_method_50_code 66 = .ok (.istore 6, 2) := by decide +kernel
theorem dM_painted_68 : decode prog_8_method_50_code 68 = .ok (.iinc 7 1, 3) := by decide +kernel
theorem dM_painted_71 : decode prog_8_method_50_code 71 = .ok (.goto (-64), 3) := by decide +kernel
theorem dM_painted_74 : decode prog_8_method_50_code 74 = .ok (.iload 6, 2) := by decide +kernel
theorem dM_painted_76 : decode prog_8_method_50_code 76 = .ok (.ireturn, 1) := by decide +kernel
theorem dM_covers_0 : decode prog_8_method_47_code 0 = .ok (.aload_n 0, 1) := by decide +kernel
theorem dM_covers_1 : decode prog_8_method_47_code 1 = .ok (.iload_n 1, 1) := by decide +kernel
theorem dM_covers_2 : decode prog_8_method_47_code 2 = .ok (.iconst 0, 1) := by decide +kernel
theorem dM_covers_3 : decode prog_8_method_47_code 3 = .ok (.invokevirtual 167, 3) := by decide +kernel
theorem dM_covers_6 : decode prog_8_method_47_code 6 = .ok (.istore 4, 2) := by decide +kernel
theorem dM_covers_8 : decode prog_8_method_47_code 8 = .ok (.aload_n 0, 1) := by decide +kernel
theorem dM_covers_9 : decode prog_8_method_47_code 9 = .ok (.iload_n 1, 1) := by decide +kernel
theorem dM_covers_10 : decode prog_8_method_47_code 10 = .ok (.iconst 1, 1) := by decide +kernel
theorem dM_covers_11 : decode prog_8_method_47_code 11 = .ok (.invokevirtual 167, 3) := by decide +kernel
theorem dM_covers_14 : decode prog_8_method_47_code 14 = .ok (.istore 5, 2) := by decide +kernel
theorem dM_covers_16 : decode prog_8_method_47_code 16 = .ok (.iload_n 2, 1) := by decide +kernel
theorem dM_covers_17 : decode prog_8_method_47_code 17 = .ok (.iload 4, 2) := by decide +kernel
theorem dM_covers_19 : decode prog_8_method_47_code 19 = .ok (.if_icmp .lt 39, 3) := by decide +kernel
theorem dM_covers_22 : decode prog_8_method_47_code 22 = .ok (.iload_n 2, 1) := by decide +kernel
theorem dM_covers_23 : decode prog_8_method_47_code 23 = .ok (.iload 4, 2) := by decide +kernel
theorem dM_covers_25 : decode prog_8_method_47_code 25 = .ok (.aload_n 0, 1) := by decide +kernel
theorem dM_covers_26 : decode prog_8_method_47_code 26 = .ok (.iload_n 1, 1) := by decide +kernel
theorem dM_covers_27 : decode prog_8_method_47_code 27 = .ok (.iconst 2, 1) := by decide +kernel
theorem dM_covers_28 : decode prog_8_method_47_code 28 = .ok (.invokevirtual 107, 3) := by decide +kernel
theorem dM_covers_31 : decode prog_8_method_47_code 31 = .ok (.iadd, 1) := by decide +kernel
theorem dM_covers_32 : decode prog_8_method_47_code 32 = .ok (.if_icmp .ge 26, 3) := by decide +kernel
theorem dM_covers_35 : decode prog_8_method_47_code 35 = .ok (.iload_n 3, 1) := by decide +kernel
theorem dM_covers_36 : decode prog_8_method_47_code 36 = .ok (.iload 5, 2) := by decide +kernel
theorem dM_covers_38 : decode prog_8_method_47_code 38 = .ok (.if_icmp .lt 20, 3) := by decide +kernel
theorem dM_covers_41 : decode prog_8_method_47_code 41 = .ok (.iload_n 3, 1) := by decide +kernel
theorem dM_covers_42 : decode prog_8_method_47_code 42 = .ok (.iload 5, 2) := by decide +kernel
theorem dM_covers_44 : decode prog_8_method_47_code 44 = .ok (.aload_n 0, 1) := by decide +kernel
theorem dM_covers_45 : decode prog_8_method_47_code 45 = .ok (.iload_n 1, 1) := by decide +kernel
theorem dM_covers_46 : decode prog_8_method_47_code 46 = .ok (.iconst 3, 1) := by decide +kernel
theorem dM_covers_47 : decode prog_8_method_47_code 47 = .ok (.invokevirtual 107, 3) := by decide +kernel
theorem dM_covers_50 : decode prog_8_method_47_code 50 = .ok (.iadd, 1) := by decide +kernel
theorem dM_covers_51 : decode prog_8_method_47_code 51 = .ok (.if_icmp .ge 7, 3) := by decide +kernel
theorem dM_covers_54 : decode prog_8_method_47_code 54 = .ok (.iconst 1, 1) := by decide +kernel
theorem dM_covers_55 : decode prog_8_method_47_code 55 = .ok (.goto 4, 3) := by decide +kernel
theorem dM_covers_58 : decode prog_8_method_47_code 58 = .ok (.iconst 0, 1) := by decide +kernel
theorem dM_covers_59 : decode prog_8_method_47_code 59 = .ok (.ireturn, 1) := by decide +kernel
theorem dM_over_0 : decode prog_8_method_49_code 0 = .ok (.aload_n 0, 1) := by decide +kernel
theorem dM_over_1 : decode prog_8_method_49_code 1 = .ok (.iload_n 1, 1) := by decide +kernel
theorem dM_over_2 : decode prog_8_method_49_code 2 = .ok (.iconst 4, 1) := by decide +kernel
theorem dM_over_3 : decode prog_8_method_49_code 3 = .ok (.invokevirtual 107, 3) := by decide +kernel
theorem dM_over_6 : decode prog_8_method_49_code 6 = .ok (.istore_n 3, 1) := by decide +kernel
theorem dM_over_7 : decode prog_8_method_49_code 7 = .ok (.aload_n 0, 1) := by decide +kernel
theorem dM_over_8 : decode prog_8_method_49_code 8 = .ok (.iload_n 1, 1) := by decide +kernel
theorem dM_over_9 : decode prog_8_method_49_code 9 = .ok (.iconst 5, 1) := by decide +kernel
theorem dM_over_10 : decode prog_8_method_49_code 10 = .ok (.invokevirtual 167, 3) := by decide +kernel
theorem dM_over_13 : decode prog_8_method_49_code 13 = .ok (.istore 4, 2) := by decide +kernel
theorem dM_over_15 : decode prog_8_method_49_code 15 = .ok (.iconst 0, 1) := by decide +kernel
theorem dM_over_16 : decode prog_8_method_49_code 16 = .ok (.istore 5, 2) := by decide +kernel
theorem dM_over_18 : decode prog_8_method_49_code 18 = .ok (.iconst 0, 1) := by decide +kernel
theorem dM_over_19 : decode prog_8_method_49_code 19 = .ok (.istore 6, 2) := by decide +kernel
theorem dM_over_21 : decode prog_8_method_49_code 21 = .ok (.iload 6, 2) := by decide +kernel
theorem dM_over_23 : decode prog_8_method_49_code 23 = .ok (.bipush 24, 2) := by decide +kernel
theorem dM_over_25 : decode prog_8_method_49_code 25 = .ok (.if_icmp .ge 38, 3) := by decide +kernel
theorem dM_over_28 : decode prog_8_method_49_code 28 = .ok (.iload 5, 2) := by decide +kernel
theorem dM_over_30 : decode prog_8_method_49_code 30 = .ok (.iload_n 3, 1) := by decide +kernel
theorem dM_over_31 : decode prog_8_method_49_code 31 = .ok (.iload 6, 2) := by decide +kernel
theorem dM_over_33 : decode prog_8_method_49_code 33 = .ok (.ishr, 1) := by decide +kernel
theorem dM_over_34 : decode prog_8_method_49_code 34 = .ok (.sipush 255, 3) := by decide +kernel
theorem dM_over_37 : decode prog_8_method_49_code 37 = .ok (.iand, 1) := by decide +kernel
theorem dM_over_38 : decode prog_8_method_49_code 38 = .ok (.iload_n 2, 1) := by decide +kernel
theorem dM_over_39 : decode prog_8_method_49_code 39 = .ok (.iload 6, 2) := by decide +kernel
theorem dM_over_41 : decode prog_8_method_49_code 41 = .ok (.ishr, 1) := by decide +kernel
theorem dM_over_42 : decode prog_8_method_49_code 42 = .ok (.sipush 255, 3) := by decide +kernel
theorem dM_over_45 : decode prog_8_method_49_code 45 = .ok (.iand, 1) := by decide +kernel
theorem dM_over_46 : decode prog_8_method_49_code 46 = .ok (.iload 4, 2) := by decide +kernel
theorem dM_over_48 : decode prog_8_method_49_code 48 = .ok (.invokestatic 170, 3) := by decide +kernel
theorem dM_over_51 : decode prog_8_method_49_code 51 = .ok (.iload 6, 2) := by decide +kernel
theorem dM_over_53 : decode prog_8_method_49_code 53 = .ok (.ishl, 1) := by decide +kernel
theorem dM_over_54 : decode prog_8_method_49_code 54 = .ok (.ior, 1) := by decide +kernel
theorem dM_over_55 : decode prog_8_method_49_code 55 = .ok (.istore 5, 2) := by decide +kernel
theorem dM_over_57 : decode prog_8_method_49_code 57 = .ok (.iinc 6 8, 3) := by decide +kernel
theorem dM_over_60 : decode prog_8_method_49_code 60 = .ok (.goto (-39), 3) := by decide +kernel
theorem dM_over_63 : decode prog_8_method_49_code 63 = .ok (.iload 5, 2) := by decide +kernel
theorem dM_over_65 : decode prog_8_method_49_code 65 = .ok (.ireturn, 1) := by decide +kernel
theorem dM_mixed_0 : decode prog_8_method_48_code 0 = .ok (.iload_n 0, 1) := by decide +kernel
theorem dM_mixed_1 : decode prog_8_method_48_code 1 = .ok (.iload_n 2, 1) := by decide +kernel
theorem dM_mixed_2 : decode prog_8_method_48_code 2 = .ok (.imul, 1) := by decide +kernel
theorem dM_mixed_3 : decode prog_8_method_48_code 3 = .ok (.iload_n 1, 1) := by decide +kernel
theorem dM_mixed_4 : decode prog_8_method_48_code 4 = .ok (.sipush 255, 3) := by decide +kernel
theorem dM_mixed_7 : decode prog_8_method_48_code 7 = .ok (.iload_n 2, 1) := by decide +kernel
theorem dM_mixed_8 : decode prog_8_method_48_code 8 = .ok (.isub, 1) := by decide +kernel
theorem dM_mixed_9 : decode prog_8_method_48_code 9 = .ok (.imul, 1) := by decide +kernel
theorem dM_mixed_10 : decode prog_8_method_48_code 10 = .ok (.iadd, 1) := by decide +kernel
theorem dM_mixed_11 : decode prog_8_method_48_code 11 = .ok (.bipush 127, 2) := by decide +kernel
theorem dM_mixed_13 : decode prog_8_method_48_code 13 = .ok (.iadd, 1) := by decide +kernel
theorem dM_mixed_14 : decode prog_8_method_48_code 14 = .ok (.sipush 255, 3) := by decide +kernel
theorem dM_mixed_17 : decode prog_8_method_48_code 17 = .ok (.idiv, 1) := by decide +kernel
theorem dM_mixed_18 : decode prog_8_method_48_code 18 = .ok (.ireturn, 1) := by decide +kernel
