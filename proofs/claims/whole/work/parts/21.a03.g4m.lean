theorem dX13_loaded_97 : decode cX13_loaded 97 = .ok (.imul, 1) := by decide +kernel
theorem dX13_loaded_98 : decode cX13_loaded 98 = .ok (.aload_n 0, 1) := by decide +kernel
theorem dX13_loaded_99 : decode cX13_loaded 99 = .ok (.getfield 221, 3) := by decide +kernel
theorem dX13_loaded_102 : decode cX13_loaded 102 = .ok (.aload_n 0, 1) := by decide +kernel
theorem dX13_loaded_103 : decode cX13_loaded 103 = .ok (.getfield 833, 3) := by decide +kernel
theorem dX13_loaded_106 : decode cX13_loaded 106 = .ok (.iaload, 1) := by decide +kernel
theorem dX13_loaded_107 : decode cX13_loaded 107 = .ok (.iadd, 1) := by decide +kernel
theorem dX13_loaded_108 : decode cX13_loaded 108 = .ok (.iaload, 1) := by decide +kernel
theorem dX13_loaded_109 : decode cX13_loaded 109 = .ok (.iconst 1, 1) := by decide +kernel
theorem dX13_loaded_110 : decode cX13_loaded 110 = .ok (.iadd, 1) := by decide +kernel
theorem dX13_loaded_111 : decode cX13_loaded 111 = .ok (.iaload, 1) := by decide +kernel
theorem dX13_loaded_112 : decode cX13_loaded 112 = .ok (.iadd, 1) := by decide +kernel
theorem dX13_loaded_113 : decode cX13_loaded 113 = .ok (.iaload, 1) := by decide +kernel
theorem dX13_loaded_114 : decode cX13_loaded 114 = .ok (.istore_n 1, 1) := by decide +kernel
theorem dX13_loaded_115 : decode cX13_loaded 115 = .ok (.aload_n 0, 1) := by decide +kernel
theorem dX13_loaded_116 : decode cX13_loaded 116 = .ok (.aload_n 0, 1) := by decide +kernel
theorem dX13_loaded_117 : decode cX13_loaded 117 = .ok (.getfield 245, 3) := by decide +kernel
theorem dX13_loaded_120 : decode cX13_loaded 120 = .ok (.iload_n 1, 1) := by decide +kernel
theorem dX13_loaded_121 : decode cX13_loaded 121 = .ok (.iconst 2, 1) := by decide +kernel
theorem dX13_loaded_122 : decode cX13_loaded 122 = .ok (.iadd, 1) := by decide +kernel
theorem dX13_loaded_123 : decode cX13_loaded 123 = .ok (.aload_n 0, 1) := by decide +kernel
theorem dX13_loaded_124 : decode cX13_loaded 124 = .ok (.getfield 245, 3) := by decide +kernel
theorem dX13_loaded_127 : decode cX13_loaded 127 = .ok (.iload_n 1, 1) := by decide +kernel
theorem dX13_loaded_128 : decode cX13_loaded 128 = .ok (.iconst 1, 1) := by decide +kernel
theorem dX13_loaded_129 : decode cX13_loaded 129 = .ok (.iadd, 1) := by decide +kernel
theorem dX13_loaded_130 : decode cX13_loaded 130 = .ok (.iaload, 1) := by decide +kernel
theorem dX13_loaded_131 : decode cX13_loaded 131 = .ok (.invokevirtual 849, 3) := by decide +kernel
theorem dX13_loaded_134 : decode cX13_loaded 134 = .ok (.iconst (-1), 1) := by decide +kernel
theorem dX13_loaded_135 : decode cX13_loaded 135 = .ok (.if_icmp .eq 5, 3) := by decide +kernel
theorem dX13_loaded_138 : decode cX13_loaded 138 = .ok (.iconst (-1), 1) := by decide +kernel
theorem dX13_loaded_139 : decode cX13_loaded 139 = .ok (.ireturn, 1) := by decide +kernel
theorem dX13_loaded_140 : decode cX13_loaded 140 = .ok (.aload_n 0, 1) := by decide +kernel
theorem dX13_loaded_141 : decode cX13_loaded 141 = .ok (.aload_n 0, 1) := by decide +kernel
theorem dX13_loaded_142 : decode cX13_loaded 142 = .ok (.getfield 833, 3) := by decide +kernel
theorem dX13_loaded_145 : decode cX13_loaded 145 = .ok (.invokevirtual 852, 3) := by decide +kernel
theorem dX13_loaded_148 : decode cX13_loaded 148 = .ok (.istore_n 2, 1) := by decide +kernel
theorem dX13_loaded_149 : decode cX13_loaded 149 = .ok (.aload_n 0, 1) := by decide +kernel
theorem dX13_loaded_150 : decode cX13_loaded 150 = .ok (.dup, 1) := by decide +kernel
theorem dX13_loaded_151 : decode cX13_loaded 151 = .ok (.getfield 833, 3) := by decide +kernel
theorem dX13_loaded_154 : decode cX13_loaded 154 = .ok (.iconst 1, 1) := by decide +kernel
theorem dX13_loaded_155 : decode cX13_loaded 155 = .ok (.iadd, 1) := by decide +kernel
theorem dX13_loaded_156 : decode cX13_loaded 156 = .ok (.putfield 833, 3) := by decide +kernel
theorem dX13_loaded_159 : decode cX13_loaded 159 = .ok (.aload_n 0, 1) := by decide +kernel
theorem dX13_loaded_160 : decode cX13_loaded 160 = .ok (.iconst 0, 1) := by decide +kernel
theorem dX13_loaded_161 : decode cX13_loaded 161 = .ok (.putfield 855, 3) := by decide +kernel
theorem dX13_loaded_164 : decode cX13_loaded 164 = .ok (.aload_n 0, 1) := by decide +kernel
theorem dX13_loaded_165 : decode cX13_loaded 165 = .ok (.iconst 0, 1) := by decide +kernel
theorem dX13_loaded_166 : decode cX13_loaded 166 = .ok (.putfield 858, 3) := by decide +kernel
theorem dX13_loaded_169 : decode cX13_loaded 169 = .ok (.iload_n 2, 1) := by decide +kernel
theorem dX13_loaded_170 : decode cX13_loaded 170 = .ok (.ireturn, 1) := by decide +kernel
theorem dX13_aside_0 : decode cX13_aside 0 = .ok (.iconst 0, 1) := by decide +kernel
theorem dX13_aside_1 : decode cX13_aside 1 = .ok (.istore_n 2, 1) := by decide +kernel
theorem dX13_aside_2 : decode cX13_aside 2 = .ok (.iload_n 2, 1) := by decide +kernel
theorem dX13_aside_3 : decode cX13_aside 3 = .ok (.sipush 256, 3) := by decide +kernel
theorem dX13_aside_6 : decode cX13_aside 6 = .ok (.if_icmp .ge 27, 3) := by decide +kernel
theorem dX13_aside_9 : decode cX13_aside 9 = .ok (.aload_n 0, 1) := by decide +kernel
theorem dX13_aside_10 : decode cX13_aside 10 = .ok (.getfield 248, 3) := by decide +kernel
theorem dX13_aside_13 : decode cX13_aside 13 = .ok (.iload_n 2, 1) := by decide +kernel
theorem dX13_aside_14 : decode cX13_aside 14 = .ok (.aload_n 0, 1) := by decide +kernel
theorem dX13_aside_15 : decode cX13_aside 15 = .ok (.getfield 215, 3) := by decide +kernel
theorem dX13_aside_18 : decode cX13_aside 18 = .ok (.sipush 256, 3) := by decide +kernel
theorem dX13_aside_21 : decode cX13_aside 21 = .ok (.iload_n 1, 1) := by decide +kernel
theorem dX13_aside_22 : decode cX13_aside 22 = .ok (.imul, 1) := by decide +kernel
theorem dX13_aside_23 : decode cX13_aside 23 = .ok (.iload_n 2, 1) := by decide +kernel
theorem dX13_aside_24 : decode cX13_aside 24 = .ok (.iadd, 1) := by decide +kernel
theorem dX13_aside_25 : decode cX13_aside 25 = .ok (.iaload, 1) := by decide +kernel
theorem dX13_aside_26 : decode cX13_aside 26 = .ok (.iastore, 1) := by decide +kernel
theorem dX13_aside_27 : decode cX13_aside 27 = .ok (.iinc 2 1, 3) := by decide +kernel
theorem dX13_aside_30 : decode cX13_aside 30 = .ok (.goto (-28), 3) := by decide +kernel
theorem dX13_aside_33 : decode cX13_aside 33 = .ok (.sipush 256, 3) := by decide +kernel
theorem dX13_aside_36 : decode cX13_aside 36 = .ok (.istore_n 2, 1) := by decide +kernel
theorem dX13_aside_37 : decode cX13_aside 37 = .ok (.aload_n 0, 1) := by decide +kernel
theorem dX13_aside_38 : decode cX13_aside 38 = .ok (.getfield 248, 3) := by decide +kernel
theorem dX13_aside_41 : decode cX13_aside 41 = .ok (.iload_n 2, 1) := by decide +kernel
theorem dX13_aside_42 : decode cX13_aside 42 = .ok (.aload_n 0, 1) := by decide +kernel
theorem dX13_aside_43 : decode cX13_aside 43 = .ok (.getfield 218, 3) := by decide +kernel
theorem dX13_aside_46 : decode cX13_aside 46 = .ok (.iload_n 1, 1) := by decide +kernel
theorem dX13_aside_47 : decode cX13_aside 47 = .ok (.iaload, 1) := by decide +kernel
theorem dX13_aside_48 : decode cX13_aside 48 = .ok (.iastore, 1) := by decide +kernel
theorem dX13_aside_49 : decode cX13_aside 49 = .ok (.aload_n 0, 1) := by decide +kernel
theorem dX13_aside_50 : decode cX13_aside 50 = .ok (.getfield 248, 3) := by decide +kernel
theorem dX13_aside_53 : decode cX13_aside 53 = .ok (.iload_n 2, 1) := by decide +kernel
theorem dX13_aside_54 : decode cX13_aside 54 = .ok (.iconst 1, 1) := by decide +kernel
theorem dX13_aside_55 : decode cX13_aside 55 = .ok (.iadd, 1) := by decide +kernel
theorem dX13_aside_56 : decode cX13_aside 56 = .ok (.aload_n 0, 1) := by decide +kernel
theorem dX13_aside_57 : decode cX13_aside 57 = .ok (.getfield 221, 3) := by decide +kernel
theorem dX13_aside_60 : decode cX13_aside 60 = .ok (.iload_n 1, 1) := by decide +kernel
theorem dX13_aside_61 : decode cX13_aside 61 = .ok (.iaload, 1) := by decide +kernel
theorem dX13_aside_62 : decode cX13_aside 62 = .ok (.iastore, 1) := by decide +kernel
theorem dX13_aside_63 : decode cX13_aside 63 = .ok (.aload_n 0, 1) := by decide +kernel
theorem dX13_aside_64 : decode cX13_aside 64 = .ok (.getfield 248, 3) := by decide +kernel
theorem dX13_aside_67 : decode cX13_aside 67 = .ok (.iload_n 2, 1) := by decide +kernel
theorem dX13_aside_68 : decode cX13_aside 68 = .ok (.iconst 2, 1) := by decide +kernel
theorem dX13_aside_69 : decode cX13_aside 69 = .ok (.iadd, 1) := by decide +kernel
theorem dX13_aside_70 : decode cX13_aside 70 = .ok (.aload_n 0, 1) := by decide +kernel
theorem dX13_aside_71 : decode cX13_aside 71 = .ok (.getfield 224, 3) := by decide +kernel
theorem dX13_aside_74 : decode cX13_aside 74 = .ok (.iload_n 1, 1) := by decide +kernel
theorem dX13_aside_75 : decode cX13_aside 75 = .ok (.iaload, 1) := by decide +kernel
theorem dX13_aside_76 : decode cX13_aside 76 = .ok (.iastore, 1) := by decide +kernel
theorem dX13_aside_77 : decode cX13_aside 77 = .ok (.aload_n 0, 1) := by decide +kernel
theorem dX13_aside_78 : decode cX13_aside 78 = .ok (.getfield 248, 3) := by decide +kernel
theorem dX13_aside_81 : decode cX13_aside 81 = .ok (.iload_n 2, 1) := by decide +kernel
theorem dX13_aside_82 : decode cX13_aside 82 = .ok (.iconst 3, 1) := by decide +kernel
theorem dX13_aside_83 : decode cX13_aside 83 = .ok (.iadd, 1) := by decide +kernel
theorem dX13_aside_84 : decode cX13_aside 84 = .ok (.aload_n 0, 1) := by decide +kernel
theorem dX13_aside_85 : decode cX13_aside 85 = .ok (.getfield 227, 3) := by decide +kernel
theorem dX13_aside_88 : decode cX13_aside 88 = .ok (.iload_n 1, 1) := by decide +kernel
theorem dX13_aside_89 : decode cX13_aside 89 = .ok (.iaload, 1) := by decide +kernel
theorem dX13_aside_90 : decode cX13_aside 90 = .ok (.iastore, 1) := by decide +kernel
theorem dX13_aside_91 : decode cX13_aside 91 = .ok (.aload_n 0, 1) := by decide +kernel
theorem dX13_aside_92 : decode cX13_aside 92 = .ok (.getfield 248, 3) := by decide +kernel
theorem dX13_aside_95 : decode cX13_aside 95 = .ok (.iload_n 2, 1) := by decide +kernel
theorem dX13_aside_96 : decode cX13_aside 96 = .ok (.iconst 4, 1) := by decide +kernel
theorem dX13_aside_97 : decode cX13_aside 97 = .ok (.iadd, 1) := by decide +kernel
theorem dX13_aside_98 : decode cX13_aside 98 = .ok (.aload_n 0, 1) := by decide +kernel
theorem dX13_aside_99 : decode cX13_aside 99 = .ok (.getfield 233, 3) := by decide +kernel
theorem dX13_aside_102 : decode cX13_aside 102 = .ok (.iload_n 1, 1) := by decide +kernel
theorem dX13_aside_103 : decode cX13_aside 103 = .ok (.iaload, 1) := by decide +kernel
theorem dX13_aside_104 : decode cX13_aside 104 = .ok (.iastore, 1) := by decide +kernel
theorem dX13_aside_105 : decode cX13_aside 105 = .ok (.iconst 0, 1) := by decide +kernel
theorem dX13_aside_106 : decode cX13_aside 106 = .ok (.istore_n 3, 1) := by decide +kernel
theorem dX13_aside_107 : decode cX13_aside 107 = .ok (.iload_n 3, 1) := by decide +kernel
theorem dX13_aside_108 : decode cX13_aside 108 = .ok (.bipush 12, 2) := by decide +kernel
theorem dX13_aside_110 : decode cX13_aside 110 = .ok (.if_icmp .ge 96, 3) := by decide +kernel
theorem dX13_aside_113 : decode cX13_aside 113 = .ok (.aload_n 0, 1) := by decide +kernel
theorem dX13_aside_114 : decode cX13_aside 114 = .ok (.getfield 248, 3) := by decide +kernel
theorem dX13_aside_117 : decode cX13_aside 117 = .ok (.iload_n 2, 1) := by decide +kernel
theorem dX13_aside_118 : decode cX13_aside 118 = .ok (.iconst 5, 1) := by decide +kernel
theorem dX13_aside_119 : decode cX13_aside 119 = .ok (.iadd, 1) := by decide +kernel
theorem dX13_aside_120 : decode cX13_aside 120 = .ok (.iload_n 3, 1) := by decide +kernel
theorem dX13_aside_121 : decode cX13_aside 121 = .ok (.iadd, 1) := by decide +kernel
theorem dX13_aside_122 : decode cX13_aside 122 = .ok (.aload_n 0, 1) := by decide +kernel
theorem dX13_aside_123 : decode cX13_aside 123 = .ok (.getfield 230, 3) := by decide +kernel
theorem dX13_aside_126 : decode cX13_aside 126 = .ok (.bipush 12, 2) := by decide +kernel
theorem dX13_aside_128 : decode cX13_aside 128 = .ok (.iload_n 1, 1) := by decide +kernel
theorem dX13_aside_129 : decode cX13_aside 129 = .ok (.imul, 1) := by decide +kernel
theorem dX13_aside_130 : decode cX13_aside 130 = .ok (.iload_n 3, 1) := by decide +kernel
theorem dX13_aside_131 : decode cX13_aside 131 = .ok (.iadd, 1) := by decide +kernel
theorem dX13_aside_132 : decode cX13_aside 132 = .ok (.iaload, 1) := by decide +kernel
theorem dX13_aside_133 : decode cX13_aside 133 = .ok (.iastore, 1) := by decide +kernel
theorem dX13_aside_134 : decode cX13_aside 134 = .ok (.aload_n 0, 1) := by decide +kernel
theorem dX13_aside_135 : decode cX13_aside 135 = .ok (.getfield 248, 3) := by decide +kernel
theorem dX13_aside_138 : decode cX13_aside 138 = .ok (.iload_n 2, 1) := by decide +kernel
theorem dX13_aside_139 : decode cX13_aside 139 = .ok (.bipush 17, 2) := by decide +kernel
theorem dX13_aside_141 : decode cX13_aside 141 = .ok (.iadd, 1) := by decide +kernel
theorem dX13_aside_142 : decode cX13_aside 142 = .ok (.iload_n 3, 1) := by decide +kernel
theorem dX13_aside_143 : decode cX13_aside 143 = .ok (.iadd, 1) := by decide +kernel
theorem dX13_aside_144 : decode cX13_aside 144 = .ok (.aload_n 0, 1) := by decide +kernel
theorem dX13_aside_145 : decode cX13_aside 145 = .ok (.getfield 236, 3) := by decide +kernel
theorem dX13_aside_148 : decode cX13_aside 148 = .ok (.bipush 12, 2) := by decide +kernel
theorem dX13_aside_150 : decode cX13_aside 150 = .ok (.iload_n 1, 1) := by decide +kernel
theorem dX13_aside_151 : decode cX13_aside 151 = .ok (.imul, 1) := by decide +kernel
theorem dX13_aside_152 : decode cX13_aside 152 = .ok (.iload_n 3, 1) := by decide +kernel
theorem dX13_aside_153 : decode cX13_aside 153 = .ok (.iadd, 1) := by decide +kernel
theorem dX13_aside_154 : decode cX13_aside 154 = .ok (.iaload, 1) := by decide +kernel
theorem dX13_aside_155 : decode cX13_aside 155 = .ok (.iastore, 1) := by decide +kernel
theorem dX13_aside_156 : decode cX13_aside 156 = .ok (.aload_n 0, 1) := by decide +kernel
theorem dX13_aside_157 : decode cX13_aside 157 = .ok (.getfield 248, 3) := by decide +kernel
theorem dX13_aside_160 : decode cX13_aside 160 = .ok (.iload_n 2, 1) := by decide +kernel
theorem dX13_aside_161 : decode cX13_aside 161 = .ok (.bipush 29, 2) := by decide +kernel
theorem dX13_aside_163 : decode cX13_aside 163 = .ok (.iadd, 1) := by decide +kernel
theorem dX13_aside_164 : decode cX13_aside 164 = .ok (.iload_n 3, 1) := by decide +kernel
theorem dX13_aside_165 : decode cX13_aside 165 = .ok (.iadd, 1) := by decide +kernel
theorem dX13_aside_166 : decode cX13_aside 166 = .ok (.aload_n 0, 1) := by decide +kernel
theorem dX13_aside_167 : decode cX13_aside 167 = .ok (.getfield 239, 3) := by decide +kernel
theorem dX13_aside_170 : decode cX13_aside 170 = .ok (.bipush 12, 2) := by decide +kernel
theorem dX13_aside_172 : decode cX13_aside 172 = .ok (.iload_n 1, 1) := by decide +kernel
theorem dX13_aside_173 : decode cX13_aside 173 = .ok (.imul, 1) := by decide +kernel
theorem dX13_aside_174 : decode cX13_aside 174 = .ok (.iload_n 3, 1) := by decide +kernel
theorem dX13_aside_175 : decode cX13_aside 175 = .ok (.iadd, 1) := by decide +kernel
theorem dX13_aside_176 : decode cX13_aside 176 = .ok (.iaload, 1) := by decide +kernel
theorem dX13_aside_177 : decode cX13_aside 177 = .ok (.iastore, 1) := by decide +kernel
theorem dX13_aside_178 : decode cX13_aside 178 = .ok (.aload_n 0, 1) := by decide +kernel
theorem dX13_aside_179 : decode cX13_aside 179 = .ok (.getfield 248, 3) := by decide +kernel
theorem dX13_aside_182 : decode cX13_aside 182 = .ok (.iload_n 2, 1) := by decide +kernel
theorem dX13_aside_183 : decode cX13_aside 183 = .ok (.bipush 41, 2) := by decide +kernel
theorem dX13_aside_185 : decode cX13_aside 185 = .ok (.iadd, 1) := by decide +kernel
theorem dX13_aside_186 : decode cX13_aside 186 = .ok (.iload_n 3, 1) := by decide +kernel
theorem dX13_aside_187 : decode cX13_aside 187 = .ok (.iadd, 1) := by decide +kernel
theorem dX13_aside_188 : decode cX13_aside 188 = .ok (.aload_n 0, 1) := by decide +kernel
theorem dX13_aside_189 : decode cX13_aside 189 = .ok (.getfield 242, 3) := by decide +kernel
theorem dX13_aside_192 : decode cX13_aside 192 = .ok (.bipush 12, 2) := by decide +kernel
theorem dX13_aside_194 : decode cX13_aside 194 = .ok (.iload_n 1, 1) := by decide +kernel
theorem dX13_aside_195 : decode cX13_aside 195 = .ok (.imul, 1) := by decide +kernel
theorem dX13_aside_196 : decode cX13_aside 196 = .ok (.iload_n 3, 1) := by decide +kernel
theorem dX13_aside_197 : decode cX13_aside 197 = .ok (.iadd, 1) := by decide +kernel
theorem dX13_aside_198 : decode cX13_aside 198 = .ok (.iaload, 1) := by decide +kernel
theorem dX13_aside_199 : decode cX13_aside 199 = .ok (.iastore, 1) := by decide +kernel
theorem dX13_aside_200 : decode cX13_aside 200 = .ok (.iinc 3 1, 3) := by decide +kernel
theorem dX13_aside_203 : decode cX13_aside 203 = .ok (.goto (-96), 3) := by decide +kernel
theorem dX13_aside_206 : decode cX13_aside 206 = .ok (.return_, 1) := by decide +kernel
theorem dX13_again_0 : decode cX13_again 0 = .ok (.iconst 0, 1) := by decide +kernel
theorem dX13_again_1 : decode cX13_again 1 = .ok (.istore_n 2, 1) := by decide +kernel
theorem dX13_again_2 : decode cX13_again 2 = .ok (.iload_n 2, 1) := by decide +kernel
theorem dX13_again_3 : decode cX13_again 3 = .ok (.sipush 256, 3) := by decide +kernel
theorem dX13_again_6 : decode cX13_again 6 = .ok (.if_icmp .ge 27, 3) := by decide +kernel
theorem dX13_again_9 : decode cX13_again 9 = .ok (.aload_n 0, 1) := by decide +kernel
theorem dX13_again_10 : decode cX13_again 10 = .ok (.getfield 215, 3) := by decide +kernel
theorem dX13_again_13 : decode cX13_again 13 = .ok (.sipush 256, 3) := by decide +kernel
theorem dX13_again_16 : decode cX13_again 16 = .ok (.iload_n 1, 1) := by decide +kernel
theorem dX13_again_17 : decode cX13_again 17 = .ok (.imul, 1) := by decide +kernel
theorem dX13_again_18 : decode cX13_again 18 = .ok (.iload_n 2, 1) := by decide +kernel
theorem dX13_again_19 : decode cX13_again 19 = .ok (.iadd, 1) := by decide +kernel
theorem dX13_again_20 : decode cX13_again 20 = .ok (.aload_n 0, 1) := by decide +kernel
theorem dX13_again_21 : decode cX13_again 21 = .ok (.getfield 248, 3) := by decide +kernel
theorem dX13_again_24 : decode cX13_again 24 = .ok (.iload_n 2, 1) := by decide +kernel
theorem dX13_again_25 : decode cX13_again 25 = .ok (.iaload, 1) := by decide +kernel
theorem dX13_again_26 : decode cX13_again 26 = .ok (.iastore, 1) := by decide +kernel
theorem dX13_again_27 : decode cX13_again 27 = .ok (.iinc 2 1, 3) := by decide +kernel
theorem dX13_again_30 : decode cX13_again 30 = .ok (.goto (-28), 3) := by decide +kernel
theorem dX13_again_33 : decode cX13_again 33 = .ok (.sipush 256, 3) := by decide +kernel
theorem dX13_again_36 : decode cX13_again 36 = .ok (.istore_n 2, 1) := by decide +kernel
theorem dX13_again_37 : decode cX13_again 37 = .ok (.aload_n 0, 1) := by decide +kernel
theorem dX13_again_38 : decode cX13_again 38 = .ok (.getfield 218, 3) := by decide +kernel
theorem dX13_again_41 : decode cX13_again 41 = .ok (.iload_n 1, 1) := by decide +kernel
theorem dX13_again_42 : decode cX13_again 42 = .ok (.aload_n 0, 1) := by decide +kernel
theorem dX13_again_43 : decode cX13_again 43 = .ok (.getfield 248, 3) := by decide +kernel
theorem dX13_again_46 : decode cX13_again 46 = .ok (.iload_n 2, 1) := by decide +kernel
theorem dX13_again_47 : decode cX13_again 47 = .ok (.iaload, 1) := by decide +kernel
theorem dX13_again_48 : decode cX13_again 48 = .ok (.iastore, 1) := by decide +kernel
theorem dX13_again_49 : decode cX13_again 49 = .ok (.aload_n 0, 1) := by decide +kernel
theorem dX13_again_50 : decode cX13_again 50 = .ok (.getfield 221, 3) := by decide +kernel
theorem dX13_again_53 : decode cX13_again 53 = .ok (.iload_n 1, 1) := by decide +kernel
theorem dX13_again_54 : decode cX13_again 54 = .ok (.aload_n 0, 1) := by decide +kernel
theorem dX13_again_55 : decode cX13_again 55 = .ok (.getfield 248, 3) := by decide +kernel
theorem dX13_again_58 : decode cX13_again 58 = .ok (.iload_n 2, 1) := by decide +kernel
theorem dX13_again_59 : decode cX13_again 59 = .ok (.iconst 1, 1) := by decide +kernel
theorem dX13_again_60 : decode cX13_again 60 = .ok (.iadd, 1) := by decide +kernel
theorem dX13_again_61 : decode cX13_again 61 = .ok (.iaload, 1) := by decide +kernel
theorem dX13_again_62 : decode cX13_again 62 = .ok (.iastore, 1) := by decide +kernel
theorem dX13_again_63 : decode cX13_again 63 = .ok (.aload_n 0, 1) := by decide +kernel
theorem dX13_again_64 : decode cX13_again 64 = .ok (.getfield 224, 3) := by decide +kernel
theorem dX13_again_67 : decode cX13_again 67 = .ok (.iload_n 1, 1) := by decide +kernel
theorem dX13_again_68 : decode cX13_again 68 = .ok (.aload_n 0, 1) := by decide +kernel
theorem dX13_again_69 : decode cX13_again 69 = .ok (.getfield 248, 3) := by decide +kernel
theorem dX13_again_72 : decode cX13_again 72 = .ok (.iload_n 2, 1) := by decide +kernel
theorem dX13_again_73 : decode cX13_again 73 = .ok (.iconst 2, 1) := by decide +kernel
theorem dX13_again_74 : decode cX13_again 74 = .ok (.iadd, 1) := by decide +kernel
theorem dX13_again_75 : decode cX13_again 75 = .ok (.iaload, 1) := by decide +kernel
theorem dX13_again_76 : decode cX13_again 76 = .ok (.iastore, 1) := by decide +kernel
theorem dX13_again_77 : decode cX13_again 77 = .ok (.aload_n 0, 1) := by decide +kernel
theorem dX13_again_78 : decode cX13_again 78 = .ok (.getfield 227, 3) := by decide +kernel
theorem dX13_again_81 : decode cX13_again 81 = .ok (.iload_n 1, 1) := by decide +kernel
theorem dX13_again_82 : decode cX13_again 82 = .ok (.aload_n 0, 1) := by decide +kernel
theorem dX13_again_83 : decode cX13_again 83 = .ok (.getfield 248, 3) := by decide +kernel
theorem dX13_again_86 : decode cX13_again 86 = .ok (.iload_n 2, 1) := by decide +kernel
theorem dX13_again_87 : decode cX13_again 87 = .ok (.iconst 3, 1) := by decide +kernel
theorem dX13_again_88 : decode cX13_again 88 = .ok (.iadd, 1) := by decide +kernel
theorem dX13_again_89 : decode cX13_again 89 = .ok (.iaload, 1) := by decide +kernel
theorem dX13_again_90 : decode cX13_again 90 = .ok (.iastore, 1) := by decide +kernel
theorem dX13_again_91 : decode cX13_again 91 = .ok (.aload_n 0, 1) := by decide +kernel
theorem dX13_again_92 : decode cX13_again 92 = .ok (.getfield 233, 3) := by decide +kernel
theorem dX13_again_95 : decode cX13_again 95 = .ok (.iload_n 1, 1) := by decide +kernel
theorem dX13_again_96 : decode cX13_again 96 = .ok (.aload_n 0, 1) := by decide +kernel
theorem dX13_again_97 : decode cX13_again 97 = .ok (.getfield 248, 3) := by decide +kernel
theorem dX13_again_100 : decode cX13_again 100 = .ok (.iload_n 2, 1) := by decide +kernel
theorem dX13_again_101 : decode cX13_again 101 = .ok (.iconst 4, 1) := by decide +kernel
theorem dX13_again_102 : decode cX13_again 102 = .ok (.iadd, 1) := by decide +kernel
theorem dX13_again_103 : decode cX13_again 103 = .ok (.iaload, 1) := by decide +kernel
theorem dX13_again_104 : decode cX13_again 104 = .ok (.iastore, 1) := by decide +kernel
theorem dX13_again_105 : decode cX13_again 105 = .ok (.iconst 0, 1) := by decide +kernel
theorem dX13_again_106 : decode cX13_again 106 = .ok (.istore_n 3, 1) := by decide +kernel
theorem dX13_again_107 : decode cX13_again 107 = .ok (.iload_n 3, 1) := by decide +kernel
theorem dX13_again_108 : decode cX13_again 108 = .ok (.bipush 12, 2) := by decide +kernel
theorem dX13_again_110 : decode cX13_again 110 = .ok (.if_icmp .ge 96, 3) := by decide +kernel
theorem dX13_again_113 : decode cX13_again 113 = .ok (.aload_n 0, 1) := by decide +kernel
theorem dX13_again_114 : decode cX13_again 114 = .ok (.getfield 230, 3) := by decide +kernel
theorem dX13_again_117 : decode cX13_again 117 = .ok (.bipush 12, 2) := by decide +kernel
theorem dX13_again_119 : decode cX13_again 119 = .ok (.iload_n 1, 1) := by decide +kernel
theorem dX13_again_120 : decode cX13_again 120 = .ok (.imul, 1) := by decide +kernel
theorem dX13_again_121 : decode cX13_again 121 = .ok (.iload_n 3, 1) := by decide +kernel
theorem dX13_again_122 : decode cX13_again 122 = .ok (.iadd, 1) := by decide +kernel
theorem dX13_again_123 : decode cX13_again 123 = .ok (.aload_n 0, 1) := by decide +kernel
theorem dX13_again_124 : decode cX13_again 124 = .ok (.getfield 248, 3) := by decide +kernel
theorem dX13_again_127 : decode cX13_again 127 = .ok (.iload_n 2, 1) := by decide +kernel
theorem dX13_again_128 : decode cX13_again 128 = .ok (.iconst 5, 1) := by decide +kernel
theorem dX13_again_129 : decode cX13_again 129 = .ok (.iadd, 1) := by decide +kernel
theorem dX13_again_130 : decode cX13_again 130 = .ok (.iload_n 3, 1) := by decide +kernel
theorem dX13_again_131 : decode cX13_again 131 = .ok (.iadd, 1) := by decide +kernel
theorem dX13_again_132 : decode cX13_again 132 = .ok (.iaload, 1) := by decide +kernel
theorem dX13_again_133 : decode cX13_again 133 = .ok (.iastore, 1) := by decide +kernel
theorem dX13_again_134 : decode cX13_again 134 = .ok (.aload_n 0, 1) := by decide +kernel
theorem dX13_again_135 : decode cX13_again 135 = .ok (.getfield 236, 3) := by decide +kernel
theorem dX13_again_138 : decode cX13_again 138 = .ok (.bipush 12, 2) := by decide +kernel
theorem dX13_again_140 : decode cX13_again 140 = .ok (.iload_n 1, 1) := by decide +kernel
theorem dX13_again_141 : decode cX13_again 141 = .ok (.imul, 1) := by decide +kernel
theorem dX13_again_142 : decode cX13_again 142 = .ok (.iload_n 3, 1) := by decide +kernel
theorem dX13_again_143 : decode cX13_again 143 = .ok (.iadd, 1) := by decide +kernel
theorem dX13_again_144 : decode cX13_again 144 = .ok (.aload_n 0, 1) := by decide +kernel
theorem dX13_again_145 : decode cX13_again 145 = .ok (.getfield 248, 3) := by decide +kernel
theorem dX13_again_148 : decode cX13_again 148 = .ok (.iload_n 2, 1) := by decide +kernel
theorem dX13_again_149 : decode cX13_again 149 = .ok (.bipush 17, 2) := by decide +kernel
theorem dX13_again_151 : decode cX13_again 151 = .ok (.iadd, 1) := by decide +kernel
theorem dX13_again_152 : decode cX13_again 152 = .ok (.iload_n 3, 1) := by decide +kernel
theorem dX13_again_153 : decode cX13_again 153 = .ok (.iadd, 1) := by decide +kernel
theorem dX13_again_154 : decode cX13_again 154 = .ok (.iaload, 1) := by decide +kernel
theorem dX13_again_155 : decode cX13_again 155 = .ok (.iastore, 1) := by decide +kernel
theorem dX13_again_156 : decode cX13_again 156 = .ok (.aload_n 0, 1) := by decide +kernel
theorem dX13_again_157 : decode cX13_again 157 = .ok (.getfield 239, 3) := by decide +kernel
theorem dX13_again_160 : decode cX13_again 160 = .ok (.bipush 12, 2) := by decide +kernel
theorem dX13_again_162 : decode cX13_again 162 = .ok (.iload_n 1, 1) := by decide +kernel
theorem dX13_again_163 : decode cX13_again 163 = .ok (.imul, 1) := by decide +kernel
theorem dX13_again_164 : decode cX13_again 164 = .ok (.iload_n 3, 1) := by decide +kernel
theorem dX13_again_165 : decode cX13_again 165 = .ok (.iadd, 1) := by decide +kernel
theorem dX13_again_166 : decode cX13_again 166 = .ok (.aload_n 0, 1) := by decide +kernel
theorem dX13_again_167 : decode cX13_again 167 = .ok (.getfield 248, 3) := by decide +kernel
theorem dX13_again_170 : decode cX13_again 170 = .ok (.iload_n 2, 1) := by decide +kernel
theorem dX13_again_171 : decode cX13_again 171 = .ok (.bipush 29, 2) := by decide +kernel
theorem dX13_again_173 : decode cX13_again 173 = .ok (.iadd, 1) := by decide +kernel
theorem dX13_again_174 : decode cX13_again 174 = .ok (.iload_n 3, 1) := by decide +kernel
theorem dX13_again_175 : decode cX13_again 175 = .ok (.iadd, 1) := by decide +kernel
theorem dX13_again_176 : decode cX13_again 176 = .ok (.iaload, 1) := by decide +kernel
theorem dX13_again_177 : decode cX13_again 177 = .ok (.iastore, 1) := by decide +kernel
theorem dX13_again_178 : decode cX13_again 178 = .ok (.aload_n 0, 1) := by decide +kernel
theorem dX13_again_179 : decode cX13_again 179 = .ok (.getfield 242, 3) := by decide +kernel
theorem dX13_again_182 : decode cX13_again 182 = .ok (.bipush 12, 2) := by decide +kernel
theorem dX13_again_184 : decode cX13_again 184 = .ok (.iload_n 1, 1) := by decide +kernel
theorem dX13_again_185 : decode cX13_again 185 = .ok (.imul, 1) := by decide +kernel
theorem dX13_again_186 : decode cX13_again 186 = .ok (.iload_n 3, 1) := by decide +kernel
theorem dX13_again_187 : decode cX13_again 187 = .ok (.iadd, 1) := by decide +kernel
theorem dX13_again_188 : decode cX13_again 188 = .ok (.aload_n 0, 1) := by decide +kernel
theorem dX13_again_189 : decode cX13_again 189 = .ok (.getfield 248, 3) := by decide +kernel
theorem dX13_again_192 : decode cX13_again 192 = .ok (.iload_n 2, 1) := by decide +kernel
theorem dX13_again_193 : decode cX13_again 193 = .ok (.bipush 41, 2) := by decide +kernel
theorem dX13_again_195 : decode cX13_again 195 = .ok (.iadd, 1) := by decide +kernel
theorem dX13_again_196 : decode cX13_again 196 = .ok (.iload_n 3, 1) := by decide +kernel
theorem dX13_again_197 : decode cX13_again 197 = .ok (.iadd, 1) := by decide +kernel
theorem dX13_again_198 : decode cX13_again 198 = .ok (.iaload, 1) := by decide +kernel
theorem dX13_again_199 : decode cX13_again 199 = .ok (.iastore, 1) := by decide +kernel
theorem dX13_again_200 : decode cX13_again 200 = .ok (.iinc 3 1, 3) := by decide +kernel
theorem dX13_again_203 : decode cX13_again 203 = .ok (.goto (-96), 3) := by decide +kernel
theorem dX13_again_206 : decode cX13_again 206 = .ok (.return_, 1) := by decide +kernel
theorem dX13_load_0 : decode cX13_load 0 = .ok (.aload_n 0, 1) := by decide +kernel
theorem dX13_load_1 : decode cX13_load 1 = .ok (.aload_n 0, 1) := by decide +kernel
theorem dX13_load_2 : decode cX13_load 2 = .ok (.getfield 312, 3) := by decide +kernel
theorem dX13_load_5 : decode cX13_load 5 = .ok (.putfield 767, 3) := by decide +kernel
theorem dX13_load_8 : decode cX13_load 8 = .ok (.iconst 0, 1) := by decide +kernel
theorem dX13_load_9 : decode cX13_load 9 = .ok (.istore_n 1, 1) := by decide +kernel
theorem dX13_load_10 : decode cX13_load 10 = .ok (.iload_n 1, 1) := by decide +kernel
theorem dX13_load_11 : decode cX13_load 11 = .ok (.aload_n 0, 1) := by decide +kernel
theorem dX13_load_12 : decode cX13_load 12 = .ok (.getfield 312, 3) := by decide +kernel
theorem dX13_load_15 : decode cX13_load 15 = .ok (.if_icmp .ge 21, 3) := by decide +kernel
theorem dX13_load_18 : decode cX13_load 18 = .ok (.aload_n 0, 1) := by decide +kernel
theorem dX13_load_19 : decode cX13_load 19 = .ok (.getfield 245, 3) := by decide +kernel
theorem dX13_load_22 : decode cX13_load 22 = .ok (.iload_n 1, 1) := by decide +kernel
theorem dX13_load_23 : decode cX13_load 23 = .ok (.aload_n 0, 1) := by decide +kernel
theorem dX13_load_24 : decode cX13_load 24 = .ok (.getfield 9, 3) := by decide +kernel
theorem dX13_load_27 : decode cX13_load 27 = .ok (.iload_n 1, 1) := by decide +kernel
theorem dX13_load_28 : decode cX13_load 28 = .ok (.iaload, 1) := by decide +kernel
theorem dX13_load_29 : decode cX13_load 29 = .ok (.iastore, 1) := by decide +kernel
theorem dX13_load_30 : decode cX13_load 30 = .ok (.iinc 1 1, 3) := by decide +kernel
theorem dX13_load_33 : decode cX13_load 33 = .ok (.goto (-23), 3) := by decide +kernel
theorem dX13_load_36 : decode cX13_load 36 = .ok (.aload_n 0, 1) := by decide +kernel
theorem dX13_load_37 : decode cX13_load 37 = .ok (.iconst 0, 1) := by decide +kernel
theorem dX13_load_38 : decode cX13_load 38 = .ok (.putfield 312, 3) := by decide +kernel
theorem dX13_load_41 : decode cX13_load 41 = .ok (.aload_n 0, 1) := by decide +kernel
theorem dX13_load_42 : decode cX13_load 42 = .ok (.invokevirtual 861, 3) := by decide +kernel
theorem dX13_load_45 : decode cX13_load 45 = .ok (.ireturn, 1) := by decide +kernel
theorem dX13_keep_0 : decode cX13_keep 0 = .ok (.iload_n 1, 1) := by decide +kernel
theorem dX13_keep_1 : decode cX13_keep 1 = .ok (.ifCond .lt 11, 3) := by decide +kernel
theorem dX13_keep_4 : decode cX13_keep 4 = .ok (.iload_n 1, 1) := by decide +kernel
theorem dX13_keep_5 : decode cX13_keep 5 = .ok (.aload_n 0, 1) := by decide +kernel
theorem dX13_keep_6 : decode cX13_keep 6 = .ok (.getfield 761, 3) := by decide +kernel
theorem dX13_keep_9 : decode cX13_keep 9 = .ok (.if_icmp .lt 5, 3) := by decide +kernel
theorem dX13_keep_12 : decode cX13_keep 12 = .ok (.iconst (-1), 1) := by decide +kernel
theorem dX13_keep_13 : decode cX13_keep 13 = .ok (.ireturn, 1) := by decide +kernel
theorem dX13_keep_14 : decode cX13_keep 14 = .ok (.aload_n 0, 1) := by decide +kernel
theorem dX13_keep_15 : decode cX13_keep 15 = .ok (.aload_n 0, 1) := by decide +kernel
theorem dX13_keep_16 : decode cX13_keep 16 = .ok (.getfield 197, 3) := by decide +kernel
theorem dX13_keep_19 : decode cX13_keep 19 = .ok (.iload_n 1, 1) := by decide +kernel
theorem dX13_keep_20 : decode cX13_keep 20 = .ok (.iaload, 1) := by decide +kernel
theorem dX13_keep_21 : decode cX13_keep 21 = .ok (.putfield 767, 3) := by decide +kernel
theorem dX13_keep_24 : decode cX13_keep 24 = .ok (.iconst 0, 1) := by decide +kernel
theorem dX13_keep_25 : decode cX13_keep 25 = .ok (.istore_n 2, 1) := by decide +kernel
theorem dX13_keep_26 : decode cX13_keep 26 = .ok (.iload_n 2, 1) := by decide +kernel
theorem dX13_keep_27 : decode cX13_keep 27 = .ok (.aload_n 0, 1) := by decide +kernel
theorem dX13_keep_28 : decode cX13_keep 28 = .ok (.getfield 767, 3) := by decide +kernel
theorem dX13_keep_31 : decode cX13_keep 31 = .ok (.if_icmp .ge 27, 3) := by decide +kernel
theorem dX13_keep_34 : decode cX13_keep 34 = .ok (.aload_n 0, 1) := by decide +kernel
theorem dX13_keep_35 : decode cX13_keep 35 = .ok (.getfield 245, 3) := by decide +kernel
theorem dX13_keep_38 : decode cX13_keep 38 = .ok (.iload_n 2, 1) := by decide +kernel
theorem dX13_keep_39 : decode cX13_keep 39 = .ok (.aload_n 0, 1) := by decide +kernel
theorem dX13_keep_40 : decode cX13_keep 40 = .ok (.getfield 194, 3) := by decide +kernel
theorem dX13_keep_43 : decode cX13_keep 43 = .ok (.sipush 6000, 3) := by decide +kernel
theorem dX13_keep_46 : decode cX13_keep 46 = .ok (.iload_n 1, 1) := by decide +kernel
theorem dX13_keep_47 : decode cX13_keep 47 = .ok (.imul, 1) := by decide +kernel
theorem dX13_keep_48 : decode cX13_keep 48 = .ok (.iload_n 2, 1) := by decide +kernel
theorem dX13_keep_49 : decode cX13_keep 49 = .ok (.iadd, 1) := by decide +kernel
theorem dX13_keep_50 : decode cX13_keep 50 = .ok (.iaload, 1) := by decide +kernel
theorem dX13_keep_51 : decode cX13_keep 51 = .ok (.iastore, 1) := by decide +kernel
theorem dX13_keep_52 : decode cX13_keep 52 = .ok (.iinc 2 1, 3) := by decide +kernel
theorem dX13_keep_55 : decode cX13_keep 55 = .ok (.goto (-29), 3) := by decide +kernel
theorem dX13_keep_58 : decode cX13_keep 58 = .ok (.aload_n 0, 1) := by decide +kernel
theorem dX13_keep_59 : decode cX13_keep 59 = .ok (.invokevirtual 861, 3) := by decide +kernel
theorem dX13_keep_62 : decode cX13_keep 62 = .ok (.ireturn, 1) := by decide +kernel
theorem dX13_patch_0 : decode cX13_patch 0 = .ok (.iload_n 1, 1) := by decide +kernel
theorem dX13_patch_1 : decode cX13_patch 1 = .ok (.bipush 8, 2) := by decide +kernel
theorem dX13_patch_3 : decode cX13_patch 3 = .ok (.isub, 1) := by decide +kernel
theorem dX13_patch_4 : decode cX13_patch 4 = .ok (.istore 4, 2) := by decide +kernel
theorem dX13_patch_6 : decode cX13_patch 6 = .ok (.iload 4, 2) := by decide +kernel
theorem dX13_patch_8 : decode cX13_patch 8 = .ok (.ifCond .lt 27, 3) := by decide +kernel
theorem dX13_patch_11 : decode cX13_patch 11 = .ok (.iload 4, 2) := by decide +kernel
theorem dX13_patch_13 : decode cX13_patch 13 = .ok (.aload_n 0, 1) := by decide +kernel
theorem dX13_patch_14 : decode cX13_patch 14 = .ok (.getfield 833, 3) := by decide +kernel
theorem dX13_patch_17 : decode cX13_patch 17 = .ok (.if_icmp .ge 18, 3) := by decide +kernel
theorem dX13_patch_20 : decode cX13_patch 20 = .ok (.iload_n 2, 1) := by decide +kernel
theorem dX13_patch_21 : decode cX13_patch 21 = .ok (.ifCond .lt 14, 3) := by decide +kernel
theorem dX13_patch_24 : decode cX13_patch 24 = .ok (.iload_n 2, 1) := by decide +kernel
theorem dX13_patch_25 : decode cX13_patch 25 = .ok (.aload_n 0, 1) := by decide +kernel
theorem dX13_patch_26 : decode cX13_patch 26 = .ok (.getfield 212, 3) := by decide +kernel
theorem dX13_patch_29 : decode cX13_patch 29 = .ok (.iload 4, 2) := by decide +kernel
theorem dX13_patch_31 : decode cX13_patch 31 = .ok (.iaload, 1) := by decide +kernel
theorem dX13_patch_32 : decode cX13_patch 32 = .ok (.if_icmp .lt 5, 3) := by decide +kernel
theorem dX13_patch_35 : decode cX13_patch 35 = .ok (.iconst 0, 1) := by decide +kernel
theorem dX13_patch_36 : decode cX13_patch 36 = .ok (.ireturn, 1) := by decide +kernel
theorem dX13_patch_37 : decode cX13_patch 37 = .ok (.aload_n 0, 1) := by decide +kernel
theorem dX13_patch_38 : decode cX13_patch 38 = .ok (.aload_n 0, 1) := by decide +kernel
theorem dX13_patch_39 : decode cX13_patch 39 = .ok (.getfield 212, 3) := by decide +kernel
theorem dX13_patch_42 : decode cX13_patch 42 = .ok (.iload 4, 2) := by decide +kernel
theorem dX13_patch_44 : decode cX13_patch 44 = .ok (.iaload, 1) := by decide +kernel
theorem dX13_patch_45 : decode cX13_patch 45 = .ok (.putfield 767, 3) := by decide +kernel
theorem dX13_patch_48 : decode cX13_patch 48 = .ok (.iconst 0, 1) := by decide +kernel
theorem dX13_patch_49 : decode cX13_patch 49 = .ok (.istore 5, 2) := by decide +kernel
theorem dX13_patch_51 : decode cX13_patch 51 = .ok (.iload 5, 2) := by decide +kernel
theorem dX13_patch_53 : decode cX13_patch 53 = .ok (.aload_n 0, 1) := by decide +kernel
theorem dX13_patch_54 : decode cX13_patch 54 = .ok (.getfield 767, 3) := by decide +kernel
theorem dX13_patch_57 : decode cX13_patch 57 = .ok (.if_icmp .ge 30, 3) := by decide +kernel
theorem dX13_patch_60 : decode cX13_patch 60 = .ok (.aload_n 0, 1) := by decide +kernel
theorem dX13_patch_61 : decode cX13_patch 61 = .ok (.getfield 245, 3) := by decide +kernel
theorem dX13_patch_64 : decode cX13_patch 64 = .ok (.iload 5, 2) := by decide +kernel
theorem dX13_patch_66 : decode cX13_patch 66 = .ok (.aload_n 0, 1) := by decide +kernel
theorem dX13_patch_67 : decode cX13_patch 67 = .ok (.getfield 209, 3) := by decide +kernel
theorem dX13_patch_70 : decode cX13_patch 70 = .ok (.sipush 6000, 3) := by decide +kernel
theorem dX13_patch_73 : decode cX13_patch 73 = .ok (.iload 4, 2) := by decide +kernel
theorem dX13_patch_75 : decode cX13_patch 75 = .ok (.imul, 1) := by decide +kernel
theorem dX13_patch_76 : decode cX13_patch 76 = .ok (.iload 5, 2) := by decide +kernel
theorem dX13_patch_78 : decode cX13_patch 78 = .ok (.iadd, 1) := by decide +kernel
theorem dX13_patch_79 : decode cX13_patch 79 = .ok (.iaload, 1) := by decide +kernel
theorem dX13_patch_80 : decode cX13_patch 80 = .ok (.iastore, 1) := by decide +kernel
theorem dX13_patch_81 : decode cX13_patch 81 = .ok (.iinc 5 1, 3) := by decide +kernel
theorem dX13_patch_84 : decode cX13_patch 84 = .ok (.goto (-33), 3) := by decide +kernel
theorem dX13_patch_87 : decode cX13_patch 87 = .ok (.aload_n 0, 1) := by decide +kernel
theorem dX13_patch_88 : decode cX13_patch 88 = .ok (.getfield 245, 3) := by decide +kernel
theorem dX13_patch_91 : decode cX13_patch 91 = .ok (.iload_n 2, 1) := by decide +kernel
theorem dX13_patch_92 : decode cX13_patch 92 = .ok (.iload_n 3, 1) := by decide +kernel
theorem dX13_patch_93 : decode cX13_patch 93 = .ok (.sipush 255, 3) := by decide +kernel
theorem dX13_patch_96 : decode cX13_patch 96 = .ok (.iand, 1) := by decide +kernel
theorem dX13_patch_97 : decode cX13_patch 97 = .ok (.iastore, 1) := by decide +kernel
theorem dX13_patch_98 : decode cX13_patch 98 = .ok (.aload_n 0, 1) := by decide +kernel
theorem dX13_patch_99 : decode cX13_patch 99 = .ok (.iload 4, 2) := by decide +kernel
theorem dX13_patch_101 : decode cX13_patch 101 = .ok (.invokevirtual 840, 3) := by decide +kernel
theorem dX13_patch_104 : decode cX13_patch 104 = .ok (.aload_n 0, 1) := by decide +kernel
theorem dX13_patch_105 : decode cX13_patch 105 = .ok (.iload 4, 2) := by decide +kernel
theorem dX13_patch_107 : decode cX13_patch 107 = .ok (.invokevirtual 843, 3) := by decide +kernel
theorem dX13_patch_110 : decode cX13_patch 110 = .ok (.aload_n 0, 1) := by decide +kernel
theorem dX13_patch_111 : decode cX13_patch 111 = .ok (.getfield 764, 3) := by decide +kernel
theorem dX13_patch_114 : decode cX13_patch 114 = .ok (.iconst (-1), 1) := by decide +kernel
theorem dX13_patch_115 : decode cX13_patch 115 = .ok (.if_icmp .ne 7, 3) := by decide +kernel
theorem dX13_patch_118 : decode cX13_patch 118 = .ok (.iconst 1, 1) := by decide +kernel
theorem dX13_patch_119 : decode cX13_patch 119 = .ok (.goto 4, 3) := by decide +kernel
theorem dX13_patch_122 : decode cX13_patch 122 = .ok (.iconst 0, 1) := by decide +kernel
theorem dX13_patch_123 : decode cX13_patch 123 = .ok (.istore 5, 2) := by decide +kernel
theorem dX13_patch_125 : decode cX13_patch 125 = .ok (.iload 5, 2) := by decide +kernel
theorem dX13_patch_127 : decode cX13_patch 127 = .ok (.ifCond .eq 108, 3) := by decide +kernel
theorem dX13_patch_130 : decode cX13_patch 130 = .ok (.aload_n 0, 1) := by decide +kernel
theorem dX13_patch_131 : decode cX13_patch 131 = .ok (.getfield 215, 3) := by decide +kernel
theorem dX13_patch_134 : decode cX13_patch 134 = .ok (.sipush 256, 3) := by decide +kernel
theorem dX13_patch_137 : decode cX13_patch 137 = .ok (.iload 4, 2) := by decide +kernel
theorem dX13_patch_139 : decode cX13_patch 139 = .ok (.imul, 1) := by decide +kernel
theorem dX13_patch_140 : decode cX13_patch 140 = .ok (.aload_n 0, 1) := by decide +kernel
theorem dX13_patch_141 : decode cX13_patch 141 = .ok (.getfield 245, 3) := by decide +kernel
theorem dX13_patch_144 : decode cX13_patch 144 = .ok (.aload_n 0, 1) := by decide +kernel
theorem dX13_patch_145 : decode cX13_patch 145 = .ok (.getfield 215, 3) := by decide +kernel
theorem dX13_patch_148 : decode cX13_patch 148 = .ok (.sipush 256, 3) := by decide +kernel
theorem dX13_patch_151 : decode cX13_patch 151 = .ok (.iload 4, 2) := by decide +kernel
theorem dX13_patch_153 : decode cX13_patch 153 = .ok (.imul, 1) := by decide +kernel
theorem dX13_patch_154 : decode cX13_patch 154 = .ok (.aload_n 0, 1) := by decide +kernel
theorem dX13_patch_155 : decode cX13_patch 155 = .ok (.getfield 221, 3) := by decide +kernel
theorem dX13_patch_158 : decode cX13_patch 158 = .ok (.iload 4, 2) := by decide +kernel
theorem dX13_patch_160 : decode cX13_patch 160 = .ok (.iaload, 1) := by decide +kernel
theorem dX13_patch_161 : decode cX13_patch 161 = .ok (.iadd, 1) := by decide +kernel
theorem dX13_patch_162 : decode cX13_patch 162 = .ok (.iaload, 1) := by decide +kernel
theorem dX13_patch_163 : decode cX13_patch 163 = .ok (.iconst 1, 1) := by decide +kernel
theorem dX13_patch_164 : decode cX13_patch 164 = .ok (.iadd, 1) := by decide +kernel
theorem dX13_patch_165 : decode cX13_patch 165 = .ok (.iaload, 1) := by decide +kernel
theorem dX13_patch_166 : decode cX13_patch 166 = .ok (.iadd, 1) := by decide +kernel
theorem dX13_patch_167 : decode cX13_patch 167 = .ok (.iaload, 1) := by decide +kernel
theorem dX13_patch_168 : decode cX13_patch 168 = .ok (.istore 6, 2) := by decide +kernel
theorem dX13_patch_170 : decode cX13_patch 170 = .ok (.iconst 0, 1) := by decide +kernel
theorem dX13_patch_171 : decode cX13_patch 171 = .ok (.istore 7, 2) := by decide +kernel
theorem dX13_patch_173 : decode cX13_patch 173 = .ok (.iload 7, 2) := by decide +kernel
theorem dX13_patch_175 : decode cX13_patch 175 = .ok (.bipush 8, 2) := by decide +kernel
theorem dX13_patch_177 : decode cX13_patch 177 = .ok (.aload_n 0, 1) := by decide +kernel
theorem dX13_patch_178 : decode cX13_patch 178 = .ok (.getfield 833, 3) := by decide +kernel
theorem dX13_patch_181 : decode cX13_patch 181 = .ok (.iadd, 1) := by decide +kernel
theorem dX13_patch_182 : decode cX13_patch 182 = .ok (.if_icmp .ge 53, 3) := by decide +kernel
theorem dX13_patch_185 : decode cX13_patch 185 = .ok (.iload 5, 2) := by decide +kernel
theorem dX13_patch_187 : decode cX13_patch 187 = .ok (.ifCond .eq 48, 3) := by decide +kernel
theorem dX13_patch_190 : decode cX13_patch 190 = .ok (.iload 7, 2) := by decide +kernel
theorem dX13_patch_192 : decode cX13_patch 192 = .ok (.iload_n 1, 1) := by decide +kernel
theorem dX13_patch_193 : decode cX13_patch 193 = .ok (.if_icmp .eq 29, 3) := by decide +kernel
theorem dX13_patch_196 : decode cX13_patch 196 = .ok (.aload_n 0, 1) := by decide +kernel
theorem dX13_patch_197 : decode cX13_patch 197 = .ok (.iload 7, 2) := by decide +kernel
theorem dX13_patch_199 : decode cX13_patch 199 = .ok (.aload_n 0, 1) := by decide +kernel
theorem dX13_patch_200 : decode cX13_patch 200 = .ok (.getfield 245, 3) := by decide +kernel
theorem dX13_patch_203 : decode cX13_patch 203 = .ok (.iload 6, 2) := by decide +kernel
theorem dX13_patch_205 : decode cX13_patch 205 = .ok (.iconst 2, 1) := by decide +kernel
theorem dX13_patch_206 : decode cX13_patch 206 = .ok (.iadd, 1) := by decide +kernel
theorem dX13_patch_207 : decode cX13_patch 207 = .ok (.aload_n 0, 1) := by decide +kernel
theorem dX13_patch_208 : decode cX13_patch 208 = .ok (.getfield 245, 3) := by decide +kernel
theorem dX13_patch_211 : decode cX13_patch 211 = .ok (.iload 6, 2) := by decide +kernel
theorem dX13_patch_213 : decode cX13_patch 213 = .ok (.iconst 1, 1) := by decide +kernel
theorem dX13_patch_214 : decode cX13_patch 214 = .ok (.iadd, 1) := by decide +kernel
theorem dX13_patch_215 : decode cX13_patch 215 = .ok (.iaload, 1) := by decide +kernel
theorem dX13_patch_216 : decode cX13_patch 216 = .ok (.invokevirtual 836, 3) := by decide +kernel
theorem dX13_patch_219 : decode cX13_patch 219 = .ok (.ifCond .ne 7, 3) := by decide +kernel
theorem dX13_patch_222 : decode cX13_patch 222 = .ok (.iconst 1, 1) := by decide +kernel
theorem dX13_patch_223 : decode cX13_patch 223 = .ok (.goto 4, 3) := by decide +kernel
theorem dX13_patch_226 : decode cX13_patch 226 = .ok (.iconst 0, 1) := by decide +kernel
theorem dX13_patch_227 : decode cX13_patch 227 = .ok (.istore 5, 2) := by decide +kernel
theorem dX13_patch_229 : decode cX13_patch 229 = .ok (.iinc 7 1, 3) := by decide +kernel
theorem dX13_patch_232 : decode cX13_patch 232 = .ok (.goto (-59), 3) := by decide +kernel
theorem dX13_patch_235 : decode cX13_patch 235 = .ok (.iload 5, 2) := by decide +kernel
theorem dX13_patch_237 : decode cX13_patch 237 = .ok (.ifCond .ne 11, 3) := by decide +kernel
theorem dX13_patch_240 : decode cX13_patch 240 = .ok (.aload_n 0, 1) := by decide +kernel
theorem dX13_patch_241 : decode cX13_patch 241 = .ok (.iload 4, 2) := by decide +kernel
theorem dX13_patch_243 : decode cX13_patch 243 = .ok (.invokevirtual 846, 3) := by decide +kernel
theorem dX13_patch_246 : decode cX13_patch 246 = .ok (.iconst 0, 1) := by decide +kernel
theorem dX13_patch_247 : decode cX13_patch 247 = .ok (.ireturn, 1) := by decide +kernel
theorem dX13_patch_248 : decode cX13_patch 248 = .ok (.aload_n 0, 1) := by decide +kernel
theorem dX13_patch_249 : decode cX13_patch 249 = .ok (.iload 4, 2) := by decide +kernel
theorem dX13_patch_251 : decode cX13_patch 251 = .ok (.invokevirtual 852, 3) := by decide +kernel
theorem dX13_patch_254 : decode cX13_patch 254 = .ok (.pop, 1) := by decide +kernel
theorem dX13_patch_255 : decode cX13_patch 255 = .ok (.aload_n 0, 1) := by decide +kernel
theorem dX13_patch_256 : decode cX13_patch 256 = .ok (.iconst 0, 1) := by decide +kernel
theorem dX13_patch_257 : decode cX13_patch 257 = .ok (.putfield 855, 3) := by decide +kernel
theorem dX13_patch_260 : decode cX13_patch 260 = .ok (.aload_n 0, 1) := by decide +kernel
theorem dX13_patch_261 : decode cX13_patch 261 = .ok (.iconst 0, 1) := by decide +kernel
theorem dX13_patch_262 : decode cX13_patch 262 = .ok (.putfield 858, 3) := by decide +kernel
theorem dX13_patch_265 : decode cX13_patch 265 = .ok (.iconst 1, 1) := by decide +kernel
theorem dX13_patch_266 : decode cX13_patch 266 = .ok (.ireturn, 1) := by decide +kernel
theorem dX13_classAtText_0 : decode cX13_classAtText 0 = .ok (.sipush 6000, 3) := by decide +kernel
theorem dX13_classAtText_3 : decode cX13_classAtText 3 = .ok (.iload_n 1, 1) := by decide +kernel
theorem dX13_classAtText_4 : decode cX13_classAtText 4 = .ok (.imul, 1) := by decide +kernel
theorem dX13_classAtText_5 : decode cX13_classAtText 5 = .ok (.aload_n 0, 1) := by decide +kernel
theorem dX13_classAtText_6 : decode cX13_classAtText 6 = .ok (.getfield 215, 3) := by decide +kernel
theorem dX13_classAtText_9 : decode cX13_classAtText 9 = .ok (.sipush 256, 3) := by decide +kernel
theorem dX13_classAtText_12 : decode cX13_classAtText 12 = .ok (.iload_n 1, 1) := by decide +kernel
theorem dX13_classAtText_13 : decode cX13_classAtText 13 = .ok (.imul, 1) := by decide +kernel
theorem dX13_classAtText_14 : decode cX13_classAtText 14 = .ok (.iload_n 2, 1) := by decide +kernel
theorem dX13_classAtText_15 : decode cX13_classAtText 15 = .ok (.iadd, 1) := by decide +kernel
theorem dX13_classAtText_16 : decode cX13_classAtText 16 = .ok (.iaload, 1) := by decide +kernel
theorem dX13_classAtText_17 : decode cX13_classAtText 17 = .ok (.iadd, 1) := by decide +kernel
theorem dX13_classAtText_18 : decode cX13_classAtText 18 = .ok (.istore_n 3, 1) := by decide +kernel
theorem dX13_classAtText_19 : decode cX13_classAtText 19 = .ok (.aload_n 0, 1) := by decide +kernel
theorem dX13_classAtText_20 : decode cX13_classAtText 20 = .ok (.aload_n 0, 1) := by decide +kernel
theorem dX13_classAtText_21 : decode cX13_classAtText 21 = .ok (.getfield 209, 3) := by decide +kernel
theorem dX13_classAtText_24 : decode cX13_classAtText 24 = .ok (.iload_n 3, 1) := by decide +kernel
theorem dX13_classAtText_25 : decode cX13_classAtText 25 = .ok (.iconst 2, 1) := by decide +kernel
theorem dX13_classAtText_26 : decode cX13_classAtText 26 = .ok (.iadd, 1) := by decide +kernel
theorem dX13_classAtText_27 : decode cX13_classAtText 27 = .ok (.aload_n 0, 1) := by decide +kernel
theorem dX13_classAtText_28 : decode cX13_classAtText 28 = .ok (.getfield 209, 3) := by decide +kernel
theorem dX13_classAtText_31 : decode cX13_classAtText 31 = .ok (.iload_n 3, 1) := by decide +kernel
theorem dX13_classAtText_32 : decode cX13_classAtText 32 = .ok (.iconst 1, 1) := by decide +kernel
theorem dX13_classAtText_33 : decode cX13_classAtText 33 = .ok (.iadd, 1) := by decide +kernel
theorem dX13_classAtText_34 : decode cX13_classAtText 34 = .ok (.iaload, 1) := by decide +kernel
theorem dX13_classAtText_35 : decode cX13_classAtText 35 = .ok (.invokevirtual 849, 3) := by decide +kernel
theorem dX13_classAtText_38 : decode cX13_classAtText 38 = .ok (.ireturn, 1) := by decide +kernel
theorem dX13_superOf_0 : decode cX13_superOf 0 = .ok (.iload_n 1, 1) := by decide +kernel
theorem dX13_superOf_1 : decode cX13_superOf 1 = .ok (.bipush 8, 2) := by decide +kernel
theorem dX13_superOf_3 : decode cX13_superOf 3 = .ok (.if_icmp .ge 22, 3) := by decide +kernel
theorem dX13_superOf_6 : decode cX13_superOf 6 = .ok (.iload_n 1, 1) := by decide +kernel
theorem dX13_superOf_7 : decode cX13_superOf 7 = .ok (.ifCond .ne 7, 3) := by decide +kernel
theorem dX13_superOf_10 : decode cX13_superOf 10 = .ok (.iconst (-1), 1) := by decide +kernel
theorem dX13_superOf_11 : decode cX13_superOf 11 = .ok (.goto 13, 3) := by decide +kernel
theorem dX13_superOf_14 : decode cX13_superOf 14 = .ok (.iload_n 1, 1) := by decide +kernel
theorem dX13_superOf_15 : decode cX13_superOf 15 = .ok (.iconst 1, 1) := by decide +kernel
theorem dX13_superOf_16 : decode cX13_superOf 16 = .ok (.if_icmp .ne 7, 3) := by decide +kernel
theorem dX13_superOf_19 : decode cX13_superOf 19 = .ok (.iconst 0, 1) := by decide +kernel
theorem dX13_superOf_20 : decode cX13_superOf 20 = .ok (.goto 4, 3) := by decide +kernel
theorem dX13_superOf_23 : decode cX13_superOf 23 = .ok (.iconst 1, 1) := by decide +kernel
theorem dX13_superOf_24 : decode cX13_superOf 24 = .ok (.ireturn, 1) := by decide +kernel
theorem dX13_superOf_25 : decode cX13_superOf 25 = .ok (.aload_n 0, 1) := by decide +kernel
theorem dX13_superOf_26 : decode cX13_superOf 26 = .ok (.iload_n 1, 1) := by decide +kernel
theorem dX13_superOf_27 : decode cX13_superOf 27 = .ok (.bipush 8, 2) := by decide +kernel
theorem dX13_superOf_29 : decode cX13_superOf 29 = .ok (.isub, 1) := by decide +kernel
theorem dX13_superOf_30 : decode cX13_superOf 30 = .ok (.aload_n 0, 1) := by decide +kernel
theorem dX13_superOf_31 : decode cX13_superOf 31 = .ok (.iload_n 1, 1) := by decide +kernel
theorem dX13_superOf_32 : decode cX13_superOf 32 = .ok (.bipush 8, 2) := by decide +kernel
theorem dX13_superOf_34 : decode cX13_superOf 34 = .ok (.isub, 1) := by decide +kernel
theorem dX13_superOf_35 : decode cX13_superOf 35 = .ok (.aload_n 0, 1) := by decide +kernel
theorem dX13_superOf_36 : decode cX13_superOf 36 = .ok (.getfield 224, 3) := by decide +kernel
theorem dX13_superOf_39 : decode cX13_superOf 39 = .ok (.iload_n 1, 1) := by decide +kernel
theorem dX13_superOf_40 : decode cX13_superOf 40 = .ok (.bipush 8, 2) := by decide +kernel
theorem dX13_superOf_42 : decode cX13_superOf 42 = .ok (.isub, 1) := by decide +kernel
theorem dX13_superOf_43 : decode cX13_superOf 43 = .ok (.iaload, 1) := by decide +kernel
theorem dX13_superOf_44 : decode cX13_superOf 44 = .ok (.invokevirtual 867, 3) := by decide +kernel
theorem dX13_superOf_47 : decode cX13_superOf 47 = .ok (.invokevirtual 870, 3) := by decide +kernel
theorem dX13_superOf_50 : decode cX13_superOf 50 = .ok (.ireturn, 1) := by decide +kernel
theorem dX13_isUnder_0 : decode cX13_isUnder 0 = .ok (.iload_n 1, 1) := by decide +kernel
theorem dX13_isUnder_1 : decode cX13_isUnder 1 = .ok (.istore_n 3, 1) := by decide +kernel
theorem dX13_isUnder_2 : decode cX13_isUnder 2 = .ok (.iconst 0, 1) := by decide +kernel
theorem dX13_isUnder_3 : decode cX13_isUnder 3 = .ok (.istore 4, 2) := by decide +kernel
theorem dX13_isUnder_5 : decode cX13_isUnder 5 = .ok (.iload 4, 2) := by decide +kernel
theorem dX13_isUnder_7 : decode cX13_isUnder 7 = .ok (.bipush 16, 2) := by decide +kernel
theorem dX13_isUnder_9 : decode cX13_isUnder 9 = .ok (.if_icmp .gt 27, 3) := by decide +kernel
theorem dX13_isUnder_12 : decode cX13_isUnder 12 = .ok (.iload_n 3, 1) := by decide +kernel
theorem dX13_isUnder_13 : decode cX13_isUnder 13 = .ok (.iconst (-1), 1) := by decide +kernel
theorem dX13_isUnder_14 : decode cX13_isUnder 14 = .ok (.if_icmp .eq 22, 3) := by decide +kernel
theorem dX13_isUnder_17 : decode cX13_isUnder 17 = .ok (.iload_n 3, 1) := by decide +kernel
theorem dX13_isUnder_18 : decode cX13_isUnder 18 = .ok (.iload_n 2, 1) := by decide +kernel
theorem dX13_isUnder_19 : decode cX13_isUnder 19 = .ok (.if_icmp .ne 5, 3) := by decide +kernel
theorem dX13_isUnder_22 : decode cX13_isUnder 22 = .ok (.iconst 1, 1) := by decide +kernel
theorem dX13_isUnder_23 : decode cX13_isUnder 23 = .ok (.ireturn, 1) := by decide +kernel
theorem dX13_isUnder_24 : decode cX13_isUnder 24 = .ok (.aload_n 0, 1) := by decide +kernel
theorem dX13_isUnder_25 : decode cX13_isUnder 25 = .ok (.iload_n 3, 1) := by decide +kernel
theorem dX13_isUnder_26 : decode cX13_isUnder 26 = .ok (.invokevirtual 873, 3) := by decide +kernel
theorem dX13_isUnder_29 : decode cX13_isUnder 29 = .ok (.istore_n 3, 1) := by decide +kernel
theorem dX13_isUnder_30 : decode cX13_isUnder 30 = .ok (.iinc 4 1, 3) := by decide +kernel
theorem dX13_isUnder_33 : decode cX13_isUnder 33 = .ok (.goto (-28), 3) := by decide +kernel
theorem dX13_isUnder_36 : decode cX13_isUnder 36 = .ok (.iconst 0, 1) := by decide +kernel
theorem dX13_isUnder_37 : decode cX13_isUnder 37 = .ok (.ireturn, 1) := by decide +kernel
theorem dX13_nameNumber_0 : decode cX13_nameNumber 0 = .ok (.aload_n 0, 1) := by decide +kernel
theorem dX13_nameNumber_1 : decode cX13_nameNumber 1 = .ok (.aload_n 0, 1) := by decide +kernel
theorem dX13_nameNumber_2 : decode cX13_nameNumber 2 = .ok (.getfield 209, 3) := by decide +kernel
theorem dX13_nameNumber_5 : decode cX13_nameNumber 5 = .ok (.iload_n 1, 1) := by decide +kernel
theorem dX13_nameNumber_6 : decode cX13_nameNumber 6 = .ok (.iload_n 2, 1) := by decide +kernel
theorem dX13_nameNumber_7 : decode cX13_nameNumber 7 = .ok (.invokevirtual 849, 3) := by decide +kernel
theorem dX13_nameNumber_10 : decode cX13_nameNumber 10 = .ok (.istore_n 3, 1) := by decide +kernel
theorem dX13_nameNumber_11 : decode cX13_nameNumber 11 = .ok (.iload_n 3, 1) := by decide +kernel
theorem dX13_nameNumber_12 : decode cX13_nameNumber 12 = .ok (.iconst (-1), 1) := by decide +kernel
theorem dX13_nameNumber_13 : decode cX13_nameNumber 13 = .ok (.if_icmp .eq 5, 3) := by decide +kernel
theorem dX13_nameNumber_16 : decode cX13_nameNumber 16 = .ok (.iload_n 3, 1) := by decide +kernel
theorem dX13_nameNumber_17 : decode cX13_nameNumber 17 = .ok (.ireturn, 1) := by decide +kernel
theorem dX13_nameNumber_18 : decode cX13_nameNumber 18 = .ok (.iconst 0, 1) := by decide +kernel
theorem dX13_nameNumber_19 : decode cX13_nameNumber 19 = .ok (.istore 4, 2) := by decide +kernel
theorem dX13_nameNumber_21 : decode cX13_nameNumber 21 = .ok (.iload 4, 2) := by decide +kernel
theorem dX13_nameNumber_23 : decode cX13_nameNumber 23 = .ok (.aload_n 0, 1) := by decide +kernel
theorem dX13_nameNumber_24 : decode cX13_nameNumber 24 = .ok (.getfield 876, 3) := by decide +kernel
theorem dX13_nameNumber_27 : decode cX13_nameNumber 27 = .ok (.if_icmp .ge 92, 3) := by decide +kernel
theorem dX13_nameNumber_30 : decode cX13_nameNumber 30 = .ok (.aload_n 0, 1) := by decide +kernel
theorem dX13_nameNumber_31 : decode cX13_nameNumber 31 = .ok (.getfield 254, 3) := by decide +kernel
theorem dX13_nameNumber_34 : decode cX13_nameNumber 34 = .ok (.iload 4, 2) := by decide +kernel
theorem dX13_nameNumber_36 : decode cX13_nameNumber 36 = .ok (.iaload, 1) := by decide +kernel
theorem dX13_nameNumber_37 : decode cX13_nameNumber 37 = .ok (.iload_n 2, 1) := by decide +kernel
theorem dX13_nameNumber_38 : decode cX13_nameNumber 38 = .ok (.if_icmp .ne 7, 3) := by decide +kernel
theorem dX13_nameNumber_41 : decode cX13_nameNumber 41 = .ok (.iconst 1, 1) := by decide +kernel
theorem dX13_nameNumber_42 : decode cX13_nameNumber 42 = .ok (.goto 4, 3) := by decide +kernel
theorem dX13_nameNumber_45 : decode cX13_nameNumber 45 = .ok (.iconst 0, 1) := by decide +kernel
theorem dX13_nameNumber_46 : decode cX13_nameNumber 46 = .ok (.istore 5, 2) := by decide +kernel
theorem dX13_nameNumber_48 : decode cX13_nameNumber 48 = .ok (.iconst 0, 1) := by decide +kernel
theorem dX13_nameNumber_49 : decode cX13_nameNumber 49 = .ok (.istore 6, 2) := by decide +kernel
theorem dX13_nameNumber_51 : decode cX13_nameNumber 51 = .ok (.iload 6, 2) := by decide +kernel
theorem dX13_nameNumber_53 : decode cX13_nameNumber 53 = .ok (.iload_n 2, 1) := by decide +kernel
theorem dX13_nameNumber_54 : decode cX13_nameNumber 54 = .ok (.if_icmp .ge 48, 3) := by decide +kernel
theorem dX13_nameNumber_57 : decode cX13_nameNumber 57 = .ok (.iload 5, 2) := by decide +kernel
theorem dX13_nameNumber_59 : decode cX13_nameNumber 59 = .ok (.ifCond .eq 43, 3) := by decide +kernel
theorem dX13_nameNumber_62 : decode cX13_nameNumber 62 = .ok (.aload_n 0, 1) := by decide +kernel
theorem dX13_nameNumber_63 : decode cX13_nameNumber 63 = .ok (.getfield 209, 3) := by decide +kernel
theorem dX13_nameNumber_66 : decode cX13_nameNumber 66 = .ok (.aload_n 0, 1) := by decide +kernel
theorem dX13_nameNumber_67 : decode cX13_nameNumber 67 = .ok (.getfield 251, 3) := by decide +kernel
theorem dX13_nameNumber_70 : decode cX13_nameNumber 70 = .ok (.iload 4, 2) := by decide +kernel
theorem dX13_nameNumber_72 : decode cX13_nameNumber 72 = .ok (.iaload, 1) := by decide +kernel
theorem dX13_nameNumber_73 : decode cX13_nameNumber 73 = .ok (.iload 6, 2) := by decide +kernel
theorem dX13_nameNumber_75 : decode cX13_nameNumber 75 = .ok (.iadd, 1) := by decide +kernel
theorem dX13_nameNumber_76 : decode cX13_nameNumber 76 = .ok (.iaload, 1) := by decide +kernel
theorem dX13_nameNumber_77 : decode cX13_nameNumber 77 = .ok (.aload_n 0, 1) := by decide +kernel
theorem dX13_nameNumber_78 : decode cX13_nameNumber 78 = .ok (.getfield 209, 3) := by decide +kernel
theorem dX13_nameNumber_81 : decode cX13_nameNumber 81 = .ok (.iload_n 1, 1) := by decide +kernel
theorem dX13_nameNumber_82 : decode cX13_nameNumber 82 = .ok (.iload 6, 2) := by decide +kernel
theorem dX13_nameNumber_84 : decode cX13_nameNumber 84 = .ok (.iadd, 1) := by decide +kernel
theorem dX13_nameNumber_85 : decode cX13_nameNumber 85 = .ok (.iaload, 1) := by decide +kernel
theorem dX13_nameNumber_86 : decode cX13_nameNumber 86 = .ok (.if_icmp .ne 7, 3) := by decide +kernel
theorem dX13_nameNumber_89 : decode cX13_nameNumber 89 = .ok (.iconst 1, 1) := by decide +kernel
theorem dX13_nameNumber_90 : decode cX13_nameNumber 90 = .ok (.goto 4, 3) := by decide +kernel
theorem dX13_nameNumber_93 : decode cX13_nameNumber 93 = .ok (.iconst 0, 1) := by decide +kernel
theorem dX13_nameNumber_94 : decode cX13_nameNumber 94 = .ok (.istore 5, 2) := by decide +kernel
theorem dX13_nameNumber_96 : decode cX13_nameNumber 96 = .ok (.iinc 6 1, 3) := by decide +kernel
theorem dX13_nameNumber_99 : decode cX13_nameNumber 99 = .ok (.goto (-48), 3) := by decide +kernel
theorem dX13_nameNumber_102 : decode cX13_nameNumber 102 = .ok (.iload 5, 2) := by decide +kernel
theorem dX13_nameNumber_104 : decode cX13_nameNumber 104 = .ok (.ifCond .eq 9, 3) := by decide +kernel
theorem dX13_nameNumber_107 : decode cX13_nameNumber 107 = .ok (.bipush 16, 2) := by decide +kernel
theorem dX13_nameNumber_109 : decode cX13_nameNumber 109 = .ok (.iload 4, 2) := by decide +kernel
theorem dX13_nameNumber_111 : decode cX13_nameNumber 111 = .ok (.iadd, 1) := by decide +kernel
theorem dX13_nameNumber_112 : decode cX13_nameNumber 112 = .ok (.ireturn, 1) := by decide +kernel
theorem dX13_nameNumber_113 : decode cX13_nameNumber 113 = .ok (.iinc 4 1, 3) := by decide +kernel
theorem dX13_nameNumber_116 : decode cX13_nameNumber 116 = .ok (.goto (-95), 3) := by decide +kernel
theorem dX13_nameNumber_119 : decode cX13_nameNumber 119 = .ok (.aload_n 0, 1) := by decide +kernel
theorem dX13_nameNumber_120 : decode cX13_nameNumber 120 = .ok (.getfield 251, 3) := by decide +kernel
theorem dX13_nameNumber_123 : decode cX13_nameNumber 123 = .ok (.aload_n 0, 1) := by decide +kernel
theorem dX13_nameNumber_124 : decode cX13_nameNumber 124 = .ok (.getfield 876, 3) := by decide +kernel
theorem dX13_nameNumber_127 : decode cX13_nameNumber 127 = .ok (.iload_n 1, 1) := by decide +kernel
theorem dX13_nameNumber_128 : decode cX13_nameNumber 128 = .ok (.iastore, 1) := by decide +kernel
theorem dX13_nameNumber_129 : decode cX13_nameNumber 129 = .ok (.aload_n 0, 1) := by decide +kernel
theorem dX13_nameNumber_130 : decode cX13_nameNumber 130 = .ok (.getfield 254, 3) := by decide +kernel
theorem dX13_nameNumber_133 : decode cX13_nameNumber 133 = .ok (.aload_n 0, 1) := by decide +kernel
theorem dX13_nameNumber_134 : decode cX13_nameNumber 134 = .ok (.getfield 876, 3) := by decide +kernel
theorem dX13_nameNumber_137 : decode cX13_nameNumber 137 = .ok (.iload_n 2, 1) := by decide +kernel
theorem dX13_nameNumber_138 : decode cX13_nameNumber 138 = .ok (.iastore, 1) := by decide +kernel
theorem dX13_nameNumber_139 : decode cX13_nameNumber 139 = .ok (.aload_n 0, 1) := by decide +kernel
theorem dX13_nameNumber_140 : decode cX13_nameNumber 140 = .ok (.dup, 1) := by decide +kernel
theorem dX13_nameNumber_141 : decode cX13_nameNumber 141 = .ok (.getfield 876, 3) := by decide +kernel
theorem dX13_nameNumber_144 : decode cX13_nameNumber 144 = .ok (.iconst 1, 1) := by decide +kernel
theorem dX13_nameNumber_145 : decode cX13_nameNumber 145 = .ok (.iadd, 1) := by decide +kernel
theorem dX13_nameNumber_146 : decode cX13_nameNumber 146 = .ok (.putfield 876, 3) := by decide +kernel
theorem dX13_nameNumber_149 : decode cX13_nameNumber 149 = .ok (.bipush 16, 2) := by decide +kernel
theorem dX13_nameNumber_151 : decode cX13_nameNumber 151 = .ok (.aload_n 0, 1) := by decide +kernel
theorem dX13_nameNumber_152 : decode cX13_nameNumber 152 = .ok (.getfield 876, 3) := by decide +kernel
theorem dX13_nameNumber_155 : decode cX13_nameNumber 155 = .ok (.iadd, 1) := by decide +kernel
theorem dX13_nameNumber_156 : decode cX13_nameNumber 156 = .ok (.iconst 1, 1) := by decide +kernel
theorem dX13_nameNumber_157 : decode cX13_nameNumber 157 = .ok (.isub, 1) := by decide +kernel
theorem dX13_nameNumber_158 : decode cX13_nameNumber 158 = .ok (.ireturn, 1) := by decide +kernel
theorem dX13_typeAt_0 : decode cX13_typeAt 0 = .ok (.aload_n 0, 1) := by decide +kernel
theorem dX13_typeAt_1 : decode cX13_typeAt 1 = .ok (.getfield 209, 3) := by decide +kernel
theorem dX13_typeAt_4 : decode cX13_typeAt 4 = .ok (.iload_n 1, 1) := by decide +kernel
theorem dX13_typeAt_5 : decode cX13_typeAt 5 = .ok (.iaload, 1) := by decide +kernel
theorem dX13_typeAt_6 : decode cX13_typeAt 6 = .ok (.istore_n 2, 1) := by decide +kernel
theorem dX13_typeAt_7 : decode cX13_typeAt 7 = .ok (.aload_n 0, 1) := by decide +kernel
theorem dX13_typeAt_8 : decode cX13_typeAt 8 = .ok (.iload_n 1, 1) := by decide +kernel
theorem dX13_typeAt_9 : decode cX13_typeAt 9 = .ok (.iconst 1, 1) := by decide +kernel
theorem dX13_typeAt_10 : decode cX13_typeAt 10 = .ok (.iadd, 1) := by decide +kernel
theorem dX13_typeAt_11 : decode cX13_typeAt 11 = .ok (.putfield 879, 3) := by decide +kernel
theorem dX13_typeAt_14 : decode cX13_typeAt 14 = .ok (.iload_n 2, 1) := by decide +kernel
theorem dX13_typeAt_15 : decode cX13_typeAt 15 = .ok (.bipush 73, 2) := by decide +kernel
theorem dX13_typeAt_17 : decode cX13_typeAt 17 = .ok (.if_icmp .eq 9, 3) := by decide +kernel
theorem dX13_typeAt_20 : decode cX13_typeAt 20 = .ok (.iload_n 2, 1) := by decide +kernel
theorem dX13_typeAt_21 : decode cX13_typeAt 21 = .ok (.bipush 90, 2) := by decide +kernel
theorem dX13_typeAt_23 : decode cX13_typeAt 23 = .ok (.if_icmp .ne 5, 3) := by decide +kernel
theorem dX13_typeAt_26 : decode cX13_typeAt 26 = .ok (.iconst 1, 1) := by decide +kernel
theorem dX13_typeAt_27 : decode cX13_typeAt 27 = .ok (.ireturn, 1) := by decide +kernel
theorem dX13_typeAt_28 : decode cX13_typeAt 28 = .ok (.iload_n 2, 1) := by decide +kernel
theorem dX13_typeAt_29 : decode cX13_typeAt 29 = .ok (.bipush 86, 2) := by decide +kernel
theorem dX13_typeAt_31 : decode cX13_typeAt 31 = .ok (.if_icmp .ne 5, 3) := by decide +kernel
theorem dX13_typeAt_34 : decode cX13_typeAt 34 = .ok (.iconst 0, 1) := by decide +kernel
theorem dX13_typeAt_35 : decode cX13_typeAt 35 = .ok (.ireturn, 1) := by decide +kernel
theorem dX13_typeAt_36 : decode cX13_typeAt 36 = .ok (.iload_n 2, 1) := by decide +kernel
theorem dX13_typeAt_37 : decode cX13_typeAt 37 = .ok (.bipush 91, 2) := by decide +kernel
theorem dX13_typeAt_39 : decode cX13_typeAt 39 = .ok (.if_icmp .ne 9, 3) := by decide +kernel
theorem dX13_typeAt_42 : decode cX13_typeAt 42 = .ok (.iload_n 1, 1) := by decide +kernel
theorem dX13_typeAt_43 : decode cX13_typeAt 43 = .ok (.iconst 1, 1) := by decide +kernel
theorem dX13_typeAt_44 : decode cX13_typeAt 44 = .ok (.iadd, 1) := by decide +kernel
theorem dX13_typeAt_45 : decode cX13_typeAt 45 = .ok (.goto 4, 3) := by decide +kernel
theorem dX13_typeAt_48 : decode cX13_typeAt 48 = .ok (.iload_n 1, 1) := by decide +kernel
theorem dX13_typeAt_49 : decode cX13_typeAt 49 = .ok (.istore_n 3, 1) := by decide +kernel
theorem dX13_typeAt_50 : decode cX13_typeAt 50 = .ok (.aload_n 0, 1) := by decide +kernel
theorem dX13_typeAt_51 : decode cX13_typeAt 51 = .ok (.getfield 209, 3) := by decide +kernel
theorem dX13_typeAt_54 : decode cX13_typeAt 54 = .ok (.iload_n 3, 1) := by decide +kernel
theorem dX13_typeAt_55 : decode cX13_typeAt 55 = .ok (.iaload, 1) := by decide +kernel
theorem dX13_typeAt_56 : decode cX13_typeAt 56 = .ok (.bipush 73, 2) := by decide +kernel
theorem dX13_typeAt_58 : decode cX13_typeAt 58 = .ok (.if_icmp .ne 12, 3) := by decide +kernel
theorem dX13_typeAt_61 : decode cX13_typeAt 61 = .ok (.aload_n 0, 1) := by decide +kernel
theorem dX13_typeAt_62 : decode cX13_typeAt 62 = .ok (.iload_n 3, 1) := by decide +kernel
theorem dX13_typeAt_63 : decode cX13_typeAt 63 = .ok (.iconst 1, 1) := by decide +kernel
theorem dX13_typeAt_64 : decode cX13_typeAt 64 = .ok (.iadd, 1) := by decide +kernel
theorem dX13_typeAt_65 : decode cX13_typeAt 65 = .ok (.putfield 879, 3) := by decide +kernel
theorem dX13_typeAt_68 : decode cX13_typeAt 68 = .ok (.iconst 3, 1) := by decide +kernel
theorem dX13_typeAt_69 : decode cX13_typeAt 69 = .ok (.ireturn, 1) := by decide +kernel
theorem dX13_typeAt_70 : decode cX13_typeAt 70 = .ok (.iload_n 3, 1) := by decide +kernel
theorem dX13_typeAt_71 : decode cX13_typeAt 71 = .ok (.iconst 1, 1) := by decide +kernel
theorem dX13_typeAt_72 : decode cX13_typeAt 72 = .ok (.iadd, 1) := by decide +kernel
theorem dX13_typeAt_73 : decode cX13_typeAt 73 = .ok (.istore 4, 2) := by decide +kernel
theorem dX13_typeAt_75 : decode cX13_typeAt 75 = .ok (.aload_n 0, 1) := by decide +kernel
theorem dX13_typeAt_76 : decode cX13_typeAt 76 = .ok (.getfield 209, 3) := by decide +kernel
theorem dX13_typeAt_79 : decode cX13_typeAt 79 = .ok (.iload 4, 2) := by decide +kernel
theorem dX13_typeAt_81 : decode cX13_typeAt 81 = .ok (.iaload, 1) := by decide +kernel
theorem dX13_typeAt_82 : decode cX13_typeAt 82 = .ok (.bipush 59, 2) := by decide +kernel
theorem dX13_typeAt_84 : decode cX13_typeAt 84 = .ok (.if_icmp .eq 9, 3) := by decide +kernel
theorem dX13_typeAt_87 : decode cX13_typeAt 87 = .ok (.iinc 4 1, 3) := by decide +kernel
theorem dX13_typeAt_90 : decode cX13_typeAt 90 = .ok (.goto (-15), 3) := by decide +kernel
theorem dX13_typeAt_93 : decode cX13_typeAt 93 = .ok (.aload_n 0, 1) := by decide +kernel
theorem dX13_typeAt_94 : decode cX13_typeAt 94 = .ok (.iload 4, 2) := by decide +kernel
theorem dX13_typeAt_96 : decode cX13_typeAt 96 = .ok (.iconst 1, 1) := by decide +kernel
theorem dX13_typeAt_97 : decode cX13_typeAt 97 = .ok (.iadd, 1) := by decide +kernel
theorem dX13_typeAt_98 : decode cX13_typeAt 98 = .ok (.putfield 879, 3) := by decide +kernel
theorem dX13_typeAt_101 : decode cX13_typeAt 101 = .ok (.iconst 4, 1) := by decide +kernel
theorem dX13_typeAt_102 : decode cX13_typeAt 102 = .ok (.iconst 2, 1) := by decide +kernel
theorem dX13_typeAt_103 : decode cX13_typeAt 103 = .ok (.aload_n 0, 1) := by decide +kernel
theorem dX13_typeAt_104 : decode cX13_typeAt 104 = .ok (.iload_n 3, 1) := by decide +kernel
theorem dX13_typeAt_105 : decode cX13_typeAt 105 = .ok (.iconst 1, 1) := by decide +kernel
theorem dX13_typeAt_106 : decode cX13_typeAt 106 = .ok (.iadd, 1) := by decide +kernel
theorem dX13_typeAt_107 : decode cX13_typeAt 107 = .ok (.iload 4, 2) := by decide +kernel
theorem dX13_typeAt_109 : decode cX13_typeAt 109 = .ok (.iload_n 3, 1) := by decide +kernel
theorem dX13_typeAt_110 : decode cX13_typeAt 110 = .ok (.isub, 1) := by decide +kernel
theorem dX13_typeAt_111 : decode cX13_typeAt 111 = .ok (.iconst 1, 1) := by decide +kernel
theorem dX13_typeAt_112 : decode cX13_typeAt 112 = .ok (.isub, 1) := by decide +kernel
theorem dX13_typeAt_113 : decode cX13_typeAt 113 = .ok (.invokevirtual 882, 3) := by decide +kernel
theorem dX13_typeAt_116 : decode cX13_typeAt 116 = .ok (.imul, 1) := by decide +kernel
theorem dX13_typeAt_117 : decode cX13_typeAt 117 = .ok (.iadd, 1) := by decide +kernel
theorem dX13_typeAt_118 : decode cX13_typeAt 118 = .ok (.iload_n 2, 1) := by decide +kernel
theorem dX13_typeAt_119 : decode cX13_typeAt 119 = .ok (.bipush 91, 2) := by decide +kernel
theorem dX13_typeAt_121 : decode cX13_typeAt 121 = .ok (.if_icmp .ne 7, 3) := by decide +kernel
theorem dX13_typeAt_124 : decode cX13_typeAt 124 = .ok (.iconst 1, 1) := by decide +kernel
theorem dX13_typeAt_125 : decode cX13_typeAt 125 = .ok (.goto 4, 3) := by decide +kernel
theorem dX13_typeAt_128 : decode cX13_typeAt 128 = .ok (.iconst 0, 1) := by decide +kernel
theorem dX13_typeAt_129 : decode cX13_typeAt 129 = .ok (.iadd, 1) := by decide +kernel
theorem dX13_typeAt_130 : decode cX13_typeAt 130 = .ok (.ireturn, 1) := by decide +kernel
theorem dX13_typeOfClass_0 : decode cX13_typeOfClass 0 = .ok (.aload_n 0, 1) := by decide +kernel
theorem dX13_typeOfClass_1 : decode cX13_typeOfClass 1 = .ok (.iload_n 1, 1) := by decide +kernel
theorem dX13_typeOfClass_2 : decode cX13_typeOfClass 2 = .ok (.iload_n 2, 1) := by decide +kernel
theorem dX13_typeOfClass_3 : decode cX13_typeOfClass 3 = .ok (.invokevirtual 867, 3) := by decide +kernel
theorem dX13_typeOfClass_6 : decode cX13_typeOfClass 6 = .ok (.istore_n 3, 1) := by decide +kernel
theorem dX13_typeOfClass_7 : decode cX13_typeOfClass 7 = .ok (.sipush 6000, 3) := by decide +kernel
theorem dX13_typeOfClass_10 : decode cX13_typeOfClass 10 = .ok (.iload_n 1, 1) := by decide +kernel
theorem dX13_typeOfClass_11 : decode cX13_typeOfClass 11 = .ok (.imul, 1) := by decide +kernel
theorem dX13_typeOfClass_12 : decode cX13_typeOfClass 12 = .ok (.aload_n 0, 1) := by decide +kernel
theorem dX13_typeOfClass_13 : decode cX13_typeOfClass 13 = .ok (.getfield 215, 3) := by decide +kernel
theorem dX13_typeOfClass_16 : decode cX13_typeOfClass 16 = .ok (.sipush 256, 3) := by decide +kernel
theorem dX13_typeOfClass_19 : decode cX13_typeOfClass 19 = .ok (.iload_n 1, 1) := by decide +kernel
theorem dX13_typeOfClass_20 : decode cX13_typeOfClass 20 = .ok (.imul, 1) := by decide +kernel
theorem dX13_typeOfClass_21 : decode cX13_typeOfClass 21 = .ok (.iload_n 3, 1) := by decide +kernel
theorem dX13_typeOfClass_22 : decode cX13_typeOfClass 22 = .ok (.iadd, 1) := by decide +kernel
theorem dX13_typeOfClass_23 : decode cX13_typeOfClass 23 = .ok (.iaload, 1) := by decide +kernel
theorem dX13_typeOfClass_24 : decode cX13_typeOfClass 24 = .ok (.iadd, 1) := by decide +kernel
theorem dX13_typeOfClass_25 : decode cX13_typeOfClass 25 = .ok (.istore 4, 2) := by decide +kernel
theorem dX13_typeOfClass_27 : decode cX13_typeOfClass 27 = .ok (.aload_n 0, 1) := by decide +kernel
theorem dX13_typeOfClass_28 : decode cX13_typeOfClass 28 = .ok (.getfield 209, 3) := by decide +kernel
theorem dX13_typeOfClass_31 : decode cX13_typeOfClass 31 = .ok (.iload 4, 2) := by decide +kernel
theorem dX13_typeOfClass_33 : decode cX13_typeOfClass 33 = .ok (.iconst 2, 1) := by decide +kernel
theorem dX13_typeOfClass_34 : decode cX13_typeOfClass 34 = .ok (.iadd, 1) := by decide +kernel
theorem dX13_typeOfClass_35 : decode cX13_typeOfClass 35 = .ok (.iaload, 1) := by decide +kernel
theorem dX13_typeOfClass_36 : decode cX13_typeOfClass 36 = .ok (.bipush 91, 2) := by decide +kernel
theorem dX13_typeOfClass_38 : decode cX13_typeOfClass 38 = .ok (.if_icmp .ne 12, 3) := by decide +kernel
theorem dX13_typeOfClass_41 : decode cX13_typeOfClass 41 = .ok (.aload_n 0, 1) := by decide +kernel
theorem dX13_typeOfClass_42 : decode cX13_typeOfClass 42 = .ok (.iload 4, 2) := by decide +kernel
theorem dX13_typeOfClass_44 : decode cX13_typeOfClass 44 = .ok (.iconst 2, 1) := by decide +kernel
theorem dX13_typeOfClass_45 : decode cX13_typeOfClass 45 = .ok (.iadd, 1) := by decide +kernel
theorem dX13_typeOfClass_46 : decode cX13_typeOfClass 46 = .ok (.invokevirtual 885, 3) := by decide +kernel
theorem dX13_typeOfClass_49 : decode cX13_typeOfClass 49 = .ok (.ireturn, 1) := by decide +kernel
theorem dX13_typeOfClass_50 : decode cX13_typeOfClass 50 = .ok (.iconst 4, 1) := by decide +kernel
theorem dX13_typeOfClass_51 : decode cX13_typeOfClass 51 = .ok (.iconst 2, 1) := by decide +kernel
theorem dX13_typeOfClass_52 : decode cX13_typeOfClass 52 = .ok (.aload_n 0, 1) := by decide +kernel
theorem dX13_typeOfClass_53 : decode cX13_typeOfClass 53 = .ok (.iload 4, 2) := by decide +kernel
theorem dX13_typeOfClass_55 : decode cX13_typeOfClass 55 = .ok (.iconst 2, 1) := by decide +kernel
theorem dX13_typeOfClass_56 : decode cX13_typeOfClass 56 = .ok (.iadd, 1) := by decide +kernel
theorem dX13_typeOfClass_57 : decode cX13_typeOfClass 57 = .ok (.aload_n 0, 1) := by decide +kernel
theorem dX13_typeOfClass_58 : decode cX13_typeOfClass 58 = .ok (.getfield 209, 3) := by decide +kernel
theorem dX13_typeOfClass_61 : decode cX13_typeOfClass 61 = .ok (.iload 4, 2) := by decide +kernel
theorem dX13_typeOfClass_63 : decode cX13_typeOfClass 63 = .ok (.iconst 1, 1) := by decide +kernel
theorem dX13_typeOfClass_64 : decode cX13_typeOfClass 64 = .ok (.iadd, 1) := by decide +kernel
theorem dX13_typeOfClass_65 : decode cX13_typeOfClass 65 = .ok (.iaload, 1) := by decide +kernel
theorem dX13_typeOfClass_66 : decode cX13_typeOfClass 66 = .ok (.invokevirtual 882, 3) := by decide +kernel
theorem dX13_typeOfClass_69 : decode cX13_typeOfClass 69 = .ok (.imul, 1) := by decide +kernel
theorem dX13_typeOfClass_70 : decode cX13_typeOfClass 70 = .ok (.iadd, 1) := by decide +kernel
theorem dX13_typeOfClass_71 : decode cX13_typeOfClass 71 = .ok (.ireturn, 1) := by decide +kernel
theorem dX13_kindType_0 : decode cX13_kindType 0 = .ok (.aload_n 0, 1) := by decide +kernel
theorem dX13_kindType_1 : decode cX13_kindType 1 = .ok (.sipush 6000, 3) := by decide +kernel
theorem dX13_kindType_4 : decode cX13_kindType 4 = .ok (.iload_n 1, 1) := by decide +kernel
theorem dX13_kindType_5 : decode cX13_kindType 5 = .ok (.imul, 1) := by decide +kernel
theorem dX13_kindType_6 : decode cX13_kindType 6 = .ok (.aload_n 0, 1) := by decide +kernel
theorem dX13_kindType_7 : decode cX13_kindType 7 = .ok (.getfield 215, 3) := by decide +kernel
theorem dX13_kindType_10 : decode cX13_kindType 10 = .ok (.sipush 256, 3) := by decide +kernel
theorem dX13_kindType_13 : decode cX13_kindType 13 = .ok (.iload_n 1, 1) := by decide +kernel
theorem dX13_kindType_14 : decode cX13_kindType 14 = .ok (.imul, 1) := by decide +kernel
theorem dX13_kindType_15 : decode cX13_kindType 15 = .ok (.iload_n 2, 1) := by decide +kernel
theorem dX13_kindType_16 : decode cX13_kindType 16 = .ok (.iadd, 1) := by decide +kernel
theorem dX13_kindType_17 : decode cX13_kindType 17 = .ok (.iaload, 1) := by decide +kernel
theorem dX13_kindType_18 : decode cX13_kindType 18 = .ok (.iadd, 1) := by decide +kernel
theorem dX13_kindType_19 : decode cX13_kindType 19 = .ok (.iconst 2, 1) := by decide +kernel
theorem dX13_kindType_20 : decode cX13_kindType 20 = .ok (.iadd, 1) := by decide +kernel
theorem dX13_kindType_21 : decode cX13_kindType 21 = .ok (.invokevirtual 885, 3) := by decide +kernel
theorem dX13_kindType_24 : decode cX13_kindType 24 = .ok (.ireturn, 1) := by decide +kernel
theorem dX13_goes_0 : decode cX13_goes 0 = .ok (.iload_n 2, 1) := by decide +kernel
theorem dX13_goes_1 : decode cX13_goes 1 = .ok (.ifCond .eq 8, 3) := by decide +kernel
theorem dX13_goes_4 : decode cX13_goes 4 = .ok (.iload_n 1, 1) := by decide +kernel
theorem dX13_goes_5 : decode cX13_goes 5 = .ok (.iload_n 2, 1) := by decide +kernel
theorem dX13_goes_6 : decode cX13_goes 6 = .ok (.if_icmp .ne 5, 3) := by decide +kernel
theorem dX13_goes_9 : decode cX13_goes 9 = .ok (.iconst 1, 1) := by decide +kernel
theorem dX13_goes_10 : decode cX13_goes 10 = .ok (.ireturn, 1) := by decide +kernel
theorem dX13_goes_11 : decode cX13_goes 11 = .ok (.iload_n 1, 1) := by decide +kernel
theorem dX13_goes_12 : decode cX13_goes 12 = .ok (.ifCond .eq 18, 3) := by decide +kernel
theorem dX13_goes_15 : decode cX13_goes 15 = .ok (.iload_n 1, 1) := by decide +kernel
theorem dX13_goes_16 : decode cX13_goes 16 = .ok (.iconst 1, 1) := by decide +kernel
theorem dX13_goes_17 : decode cX13_goes 17 = .ok (.if_icmp .eq 13, 3) := by decide +kernel
theorem dX13_goes_20 : decode cX13_goes 20 = .ok (.iload_n 2, 1) := by decide +kernel
theorem dX13_goes_21 : decode cX13_goes 21 = .ok (.iconst 1, 1) := by decide +kernel
theorem dX13_goes_22 : decode cX13_goes 22 = .ok (.if_icmp .eq 8, 3) := by decide +kernel
theorem dX13_goes_25 : decode cX13_goes 25 = .ok (.iload_n 2, 1) := by decide +kernel
theorem dX13_goes_26 : decode cX13_goes 26 = .ok (.iconst 2, 1) := by decide +kernel
theorem dX13_goes_27 : decode cX13_goes 27 = .ok (.if_icmp .ne 5, 3) := by decide +kernel
theorem dX13_goes_30 : decode cX13_goes 30 = .ok (.iconst 0, 1) := by decide +kernel
theorem dX13_goes_31 : decode cX13_goes 31 = .ok (.ireturn, 1) := by decide +kernel
theorem dX13_goes_32 : decode cX13_goes 32 = .ok (.iload_n 1, 1) := by decide +kernel
theorem dX13_goes_33 : decode cX13_goes 33 = .ok (.iconst 2, 1) := by decide +kernel
theorem dX13_goes_34 : decode cX13_goes 34 = .ok (.if_icmp .ne 5, 3) := by decide +kernel
theorem dX13_goes_37 : decode cX13_goes 37 = .ok (.iconst 1, 1) := by decide +kernel
theorem dX13_goes_38 : decode cX13_goes 38 = .ok (.ireturn, 1) := by decide +kernel
theorem dX13_goes_39 : decode cX13_goes 39 = .ok (.iload_n 1, 1) := by decide +kernel
theorem dX13_goes_40 : decode cX13_goes 40 = .ok (.invokestatic 888, 3) := by decide +kernel
theorem dX13_goes_43 : decode cX13_goes 43 = .ok (.ifCond .eq 10, 3) := by decide +kernel
theorem dX13_goes_46 : decode cX13_goes 46 = .ok (.iload_n 2, 1) := by decide +kernel
theorem dX13_goes_47 : decode cX13_goes 47 = .ok (.iconst 4, 1) := by decide +kernel
theorem dX13_goes_48 : decode cX13_goes 48 = .ok (.if_icmp .ne 5, 3) := by decide +kernel
theorem dX13_goes_51 : decode cX13_goes 51 = .ok (.iconst 1, 1) := by decide +kernel
theorem dX13_goes_52 : decode cX13_goes 52 = .ok (.ireturn, 1) := by decide +kernel
theorem dX13_goes_53 : decode cX13_goes 53 = .ok (.iload_n 1, 1) := by decide +kernel
theorem dX13_goes_54 : decode cX13_goes 54 = .ok (.iconst 4, 1) := by decide +kernel
theorem dX13_goes_55 : decode cX13_goes 55 = .ok (.if_icmp .lt 17, 3) := by decide +kernel
theorem dX13_goes_58 : decode cX13_goes 58 = .ok (.iload_n 2, 1) := by decide +kernel
theorem dX13_goes_59 : decode cX13_goes 59 = .ok (.iconst 4, 1) := by decide +kernel
theorem dX13_goes_60 : decode cX13_goes 60 = .ok (.if_icmp .lt 12, 3) := by decide +kernel
theorem dX13_goes_63 : decode cX13_goes 63 = .ok (.iload_n 1, 1) := by decide +kernel
theorem dX13_goes_64 : decode cX13_goes 64 = .ok (.iconst 2, 1) := by decide +kernel
theorem dX13_goes_65 : decode cX13_goes 65 = .ok (.irem, 1) := by decide +kernel
theorem dX13_goes_66 : decode cX13_goes 66 = .ok (.iload_n 2, 1) := by decide +kernel
theorem dX13_goes_67 : decode cX13_goes 67 = .ok (.iconst 2, 1) := by decide +kernel
theorem dX13_goes_68 : decode cX13_goes 68 = .ok (.irem, 1) := by decide +kernel
theorem dX13_goes_69 : decode cX13_goes 69 = .ok (.if_icmp .eq 5, 3) := by decide +kernel
theorem dX13_goes_72 : decode cX13_goes 72 = .ok (.iconst 0, 1) := by decide +kernel
theorem dX13_goes_73 : decode cX13_goes 73 = .ok (.ireturn, 1) := by decide +kernel
theorem dX13_goes_74 : decode cX13_goes 74 = .ok (.iload_n 1, 1) := by decide +kernel
theorem dX13_goes_75 : decode cX13_goes 75 = .ok (.iconst 4, 1) := by decide +kernel
theorem dX13_goes_76 : decode cX13_goes 76 = .ok (.isub, 1) := by decide +kernel
theorem dX13_goes_77 : decode cX13_goes 77 = .ok (.iconst 2, 1) := by decide +kernel
theorem dX13_goes_78 : decode cX13_goes 78 = .ok (.idiv, 1) := by decide +kernel
theorem dX13_goes_79 : decode cX13_goes 79 = .ok (.istore_n 3, 1) := by decide +kernel
theorem dX13_goes_80 : decode cX13_goes 80 = .ok (.iload_n 2, 1) := by decide +kernel
theorem dX13_goes_81 : decode cX13_goes 81 = .ok (.iconst 4, 1) := by decide +kernel
theorem dX13_goes_82 : decode cX13_goes 82 = .ok (.isub, 1) := by decide +kernel
theorem dX13_goes_83 : decode cX13_goes 83 = .ok (.iconst 2, 1) := by decide +kernel
theorem dX13_goes_84 : decode cX13_goes 84 = .ok (.idiv, 1) := by decide +kernel
theorem dX13_goes_85 : decode cX13_goes 85 = .ok (.istore 4, 2) := by decide +kernel
theorem dX13_goes_87 : decode cX13_goes 87 = .ok (.iload_n 3, 1) := by decide +kernel
theorem dX13_goes_88 : decode cX13_goes 88 = .ok (.bipush 16, 2) := by decide +kernel
theorem dX13_goes_90 : decode cX13_goes 90 = .ok (.if_icmp .ge 24, 3) := by decide +kernel
theorem dX13_goes_93 : decode cX13_goes 93 = .ok (.iload 4, 2) := by decide +kernel
theorem dX13_goes_95 : decode cX13_goes 95 = .ok (.bipush 16, 2) := by decide +kernel
theorem dX13_goes_97 : decode cX13_goes 97 = .ok (.if_icmp .ge 17, 3) := by decide +kernel
theorem dX13_goes_100 : decode cX13_goes 100 = .ok (.aload_n 0, 1) := by decide +kernel
theorem dX13_goes_101 : decode cX13_goes 101 = .ok (.iload_n 3, 1) := by decide +kernel
theorem dX13_goes_102 : decode cX13_goes 102 = .ok (.iload 4, 2) := by decide +kernel
theorem dX13_goes_104 : decode cX13_goes 104 = .ok (.invokevirtual 891, 3) := by decide +kernel
theorem dX13_goes_107 : decode cX13_goes 107 = .ok (.ifCond .eq 7, 3) := by decide +kernel
theorem dX13_goes_110 : decode cX13_goes 110 = .ok (.iconst 1, 1) := by decide +kernel
theorem dX13_goes_111 : decode cX13_goes 111 = .ok (.goto 4, 3) := by decide +kernel
theorem dX13_goes_114 : decode cX13_goes 114 = .ok (.iconst 0, 1) := by decide +kernel
theorem dX13_goes_115 : decode cX13_goes 115 = .ok (.ireturn, 1) := by decide +kernel
theorem dX13_holder_0 : decode cX13_holder 0 = .ok (.iload_n 1, 1) := by decide +kernel
theorem dX13_holder_1 : decode cX13_holder 1 = .ok (.istore 5, 2) := by decide +kernel
theorem dX13_holder_3 : decode cX13_holder 3 = .ok (.iconst 0, 1) := by decide +kernel
theorem dX13_holder_4 : decode cX13_holder 4 = .ok (.istore 6, 2) := by decide +kernel
theorem dX13_holder_6 : decode cX13_holder 6 = .ok (.iload 6, 2) := by decide +kernel
theorem dX13_holder_8 : decode cX13_holder 8 = .ok (.bipush 16, 2) := by decide +kernel
theorem dX13_holder_10 : decode cX13_holder 10 = .ok (.if_icmp .gt 152, 3) := by decide +kernel
theorem dX13_holder_13 : decode cX13_holder 13 = .ok (.iload 5, 2) := by decide +kernel
theorem dX13_holder_15 : decode cX13_holder 15 = .ok (.iconst (-1), 1) := by decide +kernel
theorem dX13_holder_16 : decode cX13_holder 16 = .ok (.if_icmp .eq 146, 3) := by decide +kernel
theorem dX13_holder_19 : decode cX13_holder 19 = .ok (.iload 5, 2) := by decide +kernel
theorem dX13_holder_21 : decode cX13_holder 21 = .ok (.bipush 8, 2) := by decide +kernel
theorem dX13_holder_23 : decode cX13_holder 23 = .ok (.if_icmp .lt 125, 3) := by decide +kernel
theorem dX13_holder_26 : decode cX13_holder 26 = .ok (.iload 5, 2) := by decide +kernel
theorem dX13_holder_28 : decode cX13_holder 28 = .ok (.bipush 8, 2) := by decide +kernel
theorem dX13_holder_30 : decode cX13_holder 30 = .ok (.isub, 1) := by decide +kernel
theorem dX13_holder_31 : decode cX13_holder 31 = .ok (.istore 7, 2) := by decide +kernel
theorem dX13_holder_33 : decode cX13_holder 33 = .ok (.iload 4, 2) := by decide +kernel
theorem dX13_holder_35 : decode cX13_holder 35 = .ok (.ifCond .eq 13, 3) := by decide +kernel
theorem dX13_holder_38 : decode cX13_holder 38 = .ok (.aload_n 0, 1) := by decide +kernel
theorem dX13_holder_39 : decode cX13_holder 39 = .ok (.getfield 233, 3) := by decide +kernel
theorem dX13_holder_42 : decode cX13_holder 42 = .ok (.iload 7, 2) := by decide +kernel
theorem dX13_holder_44 : decode cX13_holder 44 = .ok (.iaload, 1) := by decide +kernel
theorem dX13_holder_45 : decode cX13_holder 45 = .ok (.goto 10, 3) := by decide +kernel
theorem dX13_holder_48 : decode cX13_holder 48 = .ok (.aload_n 0, 1) := by decide +kernel
theorem dX13_holder_49 : decode cX13_holder 49 = .ok (.getfield 227, 3) := by decide +kernel
theorem dX13_holder_52 : decode cX13_holder 52 = .ok (.iload 7, 2) := by decide +kernel
theorem dX13_holder_54 : decode cX13_holder 54 = .ok (.iaload, 1) := by decide +kernel
theorem dX13_holder_55 : decode cX13_holder 55 = .ok (.istore 8, 2) := by decide +kernel
theorem dX13_holder_57 : decode cX13_holder 57 = .ok (.iconst 0, 1) := by decide +kernel
theorem dX13_holder_58 : decode cX13_holder 58 = .ok (.istore 9, 2) := by decide +kernel
theorem dX13_holder_60 : decode cX13_holder 60 = .ok (.iload 9, 2) := by decide +kernel
theorem dX13_holder_62 : decode cX13_holder 62 = .ok (.iload 8, 2) := by decide +kernel
theorem dX13_holder_64 : decode cX13_holder 64 = .ok (.if_icmp .ge 84, 3) := by decide +kernel
theorem dX13_holder_67 : decode cX13_holder 67 = .ok (.iload 4, 2) := by decide +kernel
theorem dX13_holder_69 : decode cX13_holder 69 = .ok (.ifCond .eq 27, 3) := by decide +kernel
theorem dX13_holder_72 : decode cX13_holder 72 = .ok (.aload_n 0, 1) := by decide +kernel
theorem dX13_holder_73 : decode cX13_holder 73 = .ok (.iload 7, 2) := by decide +kernel
theorem dX13_holder_75 : decode cX13_holder 75 = .ok (.aload_n 0, 1) := by decide +kernel
theorem dX13_holder_76 : decode cX13_holder 76 = .ok (.getfield 236, 3) := by decide +kernel
theorem dX13_holder_79 : decode cX13_holder 79 = .ok (.bipush 12, 2) := by decide +kernel
theorem dX13_holder_81 : decode cX13_holder 81 = .ok (.iload 7, 2) := by decide +kernel
theorem dX13_holder_83 : decode cX13_holder 83 = .ok (.imul, 1) := by decide +kernel
theorem dX13_holder_84 : decode cX13_holder 84 = .ok (.iload 9, 2) := by decide +kernel
theorem dX13_holder_86 : decode cX13_holder 86 = .ok (.iadd, 1) := by decide +kernel
theorem dX13_holder_87 : decode cX13_holder 87 = .ok (.iaload, 1) := by decide +kernel
theorem dX13_holder_88 : decode cX13_holder 88 = .ok (.iconst 1, 1) := by decide +kernel
theorem dX13_holder_89 : decode cX13_holder 89 = .ok (.iadd, 1) := by decide +kernel
theorem dX13_holder_90 : decode cX13_holder 90 = .ok (.invokevirtual 864, 3) := by decide +kernel
theorem dX13_holder_93 : decode cX13_holder 93 = .ok (.goto 22, 3) := by decide +kernel
theorem dX13_holder_96 : decode cX13_holder 96 = .ok (.aload_n 0, 1) := by decide +kernel
theorem dX13_holder_97 : decode cX13_holder 97 = .ok (.iload 7, 2) := by decide +kernel
theorem dX13_holder_99 : decode cX13_holder 99 = .ok (.aload_n 0, 1) := by decide +kernel
theorem dX13_holder_100 : decode cX13_holder 100 = .ok (.getfield 230, 3) := by decide +kernel
theorem dX13_holder_103 : decode cX13_holder 103 = .ok (.bipush 12, 2) := by decide +kernel
theorem dX13_holder_105 : decode cX13_holder 105 = .ok (.iload 7, 2) := by decide +kernel
theorem dX13_holder_107 : decode cX13_holder 107 = .ok (.imul, 1) := by decide +kernel
theorem dX13_holder_108 : decode cX13_holder 108 = .ok (.iload 9, 2) := by decide +kernel
theorem dX13_holder_110 : decode cX13_holder 110 = .ok (.iadd, 1) := by decide +kernel
theorem dX13_holder_111 : decode cX13_holder 111 = .ok (.iaload, 1) := by decide +kernel
theorem dX13_holder_112 : decode cX13_holder 112 = .ok (.invokevirtual 864, 3) := by decide +kernel
theorem dX13_holder_115 : decode cX13_holder 115 = .ok (.istore 10, 2) := by decide +kernel
theorem dX13_holder_117 : decode cX13_holder 117 = .ok (.aload_n 0, 1) := by decide +kernel
theorem dX13_holder_118 : decode cX13_holder 118 = .ok (.iload 7, 2) := by decide +kernel
theorem dX13_holder_120 : decode cX13_holder 120 = .ok (.iload 10, 2) := by decide +kernel
theorem dX13_holder_122 : decode cX13_holder 122 = .ok (.iload_n 2, 1) := by decide +kernel
theorem dX13_holder_123 : decode cX13_holder 123 = .ok (.iload_n 3, 1) := by decide +kernel
theorem dX13_holder_124 : decode cX13_holder 124 = .ok (.invokevirtual 894, 3) := by decide +kernel
theorem dX13_holder_127 : decode cX13_holder 127 = .ok (.ifCond .ne 6, 3) := by decide +kernel
theorem dX13_holder_130 : decode cX13_holder 130 = .ok (.goto 12, 3) := by decide +kernel
theorem dX13_holder_133 : decode cX13_holder 133 = .ok (.aload_n 0, 1) := by decide +kernel
theorem dX13_holder_134 : decode cX13_holder 134 = .ok (.iload 9, 2) := by decide +kernel
theorem dX13_holder_136 : decode cX13_holder 136 = .ok (.putfield 898, 3) := by decide +kernel
theorem dX13_holder_139 : decode cX13_holder 139 = .ok (.iload 5, 2) := by decide +kernel
theorem dX13_holder_141 : decode cX13_holder 141 = .ok (.ireturn, 1) := by decide +kernel
theorem dX13_holder_142 : decode cX13_holder 142 = .ok (.iinc 9 1, 3) := by decide +kernel
theorem dX13_holder_145 : decode cX13_holder 145 = .ok (.goto (-85), 3) := by decide +kernel
theorem dX13_holder_148 : decode cX13_holder 148 = .ok (.aload_n 0, 1) := by decide +kernel
theorem dX13_holder_149 : decode cX13_holder 149 = .ok (.iload 5, 2) := by decide +kernel
theorem dX13_holder_151 : decode cX13_holder 151 = .ok (.invokevirtual 873, 3) := by decide +kernel
theorem dX13_holder_154 : decode cX13_holder 154 = .ok (.istore 5, 2) := by decide +kernel
theorem dX13_holder_156 : decode cX13_holder 156 = .ok (.iinc 6 1, 3) := by decide +kernel
theorem dX13_holder_159 : decode cX13_holder 159 = .ok (.goto (-153), 3) := by decide +kernel
theorem dX13_holder_162 : decode cX13_holder 162 = .ok (.iconst (-1), 1) := by decide +kernel
theorem dX13_holder_163 : decode cX13_holder 163 = .ok (.ireturn, 1) := by decide +kernel
theorem dX13_verify_0 : decode cX13_verify 0 = .ok (.aload_n 0, 1) := by decide +kernel
theorem dX13_verify_1 : decode cX13_verify 1 = .ok (.iconst 0, 1) := by decide +kernel
theorem dX13_verify_2 : decode cX13_verify 2 = .ok (.putfield 855, 3) := by decide +kernel
theorem dX13_verify_5 : decode cX13_verify 5 = .ok (.aload_n 0, 1) := by decide +kernel
theorem dX13_verify_6 : decode cX13_verify 6 = .ok (.iconst 0, 1) := by decide +kernel
theorem dX13_verify_7 : decode cX13_verify 7 = .ok (.putfield 901, 3) := by decide +kernel
theorem dX13_verify_10 : decode cX13_verify 10 = .ok (.aload_n 0, 1) := by decide +kernel
theorem dX13_verify_11 : decode cX13_verify 11 = .ok (.iconst 0, 1) := by decide +kernel
theorem dX13_verify_12 : decode cX13_verify 12 = .ok (.putfield 876, 3) := by decide +kernel
theorem dX13_verify_15 : decode cX13_verify 15 = .ok (.iconst 1, 1) := by decide +kernel
theorem dX13_verify_16 : decode cX13_verify 16 = .ok (.istore_n 1, 1) := by decide +kernel
theorem dX13_verify_17 : decode cX13_verify 17 = .ok (.bipush 8, 2) := by decide +kernel
theorem dX13_verify_19 : decode cX13_verify 19 = .ok (.istore_n 2, 1) := by decide +kernel
theorem dX13_verify_20 : decode cX13_verify 20 = .ok (.iload_n 2, 1) := by decide +kernel
theorem dX13_verify_21 : decode cX13_verify 21 = .ok (.bipush 8, 2) := by decide +kernel
theorem dX13_verify_23 : decode cX13_verify 23 = .ok (.aload_n 0, 1) := by decide +kernel
theorem dX13_verify_24 : decode cX13_verify 24 = .ok (.getfield 833, 3) := by decide +kernel
theorem dX13_verify_27 : decode cX13_verify 27 = .ok (.iadd, 1) := by decide +kernel
theorem dX13_verify_28 : decode cX13_verify 28 = .ok (.if_icmp .ge 19, 3) := by decide +kernel
theorem dX13_verify_31 : decode cX13_verify 31 = .ok (.iload_n 1, 1) := by decide +kernel
theorem dX13_verify_32 : decode cX13_verify 32 = .ok (.ifCond .eq 15, 3) := by decide +kernel
theorem dX13_verify_35 : decode cX13_verify 35 = .ok (.aload_n 0, 1) := by decide +kernel
theorem dX13_verify_36 : decode cX13_verify 36 = .ok (.iload_n 2, 1) := by decide +kernel
theorem dX13_verify_37 : decode cX13_verify 37 = .ok (.invokevirtual 904, 3) := by decide +kernel
theorem dX13_verify_40 : decode cX13_verify 40 = .ok (.istore_n 1, 1) := by decide +kernel
theorem dX13_verify_41 : decode cX13_verify 41 = .ok (.iinc 2 1, 3) := by decide +kernel
theorem dX13_verify_44 : decode cX13_verify 44 = .ok (.goto (-24), 3) := by decide +kernel
theorem dX13_verify_47 : decode cX13_verify 47 = .ok (.bipush 8, 2) := by decide +kernel
theorem dX13_verify_49 : decode cX13_verify 49 = .ok (.istore_n 2, 1) := by decide +kernel
theorem dX13_verify_50 : decode cX13_verify 50 = .ok (.iload_n 2, 1) := by decide +kernel
theorem dX13_verify_51 : decode cX13_verify 51 = .ok (.bipush 8, 2) := by decide +kernel
theorem dX13_verify_53 : decode cX13_verify 53 = .ok (.aload_n 0, 1) := by decide +kernel
theorem dX13_verify_54 : decode cX13_verify 54 = .ok (.getfield 833, 3) := by decide +kernel
theorem dX13_verify_57 : decode cX13_verify 57 = .ok (.iadd, 1) := by decide +kernel
theorem dX13_verify_58 : decode cX13_verify 58 = .ok (.if_icmp .ge 45, 3) := by decide +kernel
theorem dX13_verify_61 : decode cX13_verify 61 = .ok (.iload_n 1, 1) := by decide +kernel
theorem dX13_verify_62 : decode cX13_verify 62 = .ok (.ifCond .eq 41, 3) := by decide +kernel
theorem dX13_verify_65 : decode cX13_verify 65 = .ok (.iconst 0, 1) := by decide +kernel
theorem dX13_verify_66 : decode cX13_verify 66 = .ok (.istore_n 3, 1) := by decide +kernel
theorem dX13_verify_67 : decode cX13_verify 67 = .ok (.iload_n 3, 1) := by decide +kernel
theorem dX13_verify_68 : decode cX13_verify 68 = .ok (.aload_n 0, 1) := by decide +kernel
theorem dX13_verify_69 : decode cX13_verify 69 = .ok (.getfield 233, 3) := by decide +kernel
theorem dX13_verify_72 : decode cX13_verify 72 = .ok (.iload_n 2, 1) := by decide +kernel
theorem dX13_verify_73 : decode cX13_verify 73 = .ok (.bipush 8, 2) := by decide +kernel
theorem dX13_verify_75 : decode cX13_verify 75 = .ok (.isub, 1) := by decide +kernel
theorem dX13_verify_76 : decode cX13_verify 76 = .ok (.iaload, 1) := by decide +kernel
theorem dX13_verify_77 : decode cX13_verify 77 = .ok (.if_icmp .ge 20, 3) := by decide +kernel
theorem dX13_verify_80 : decode cX13_verify 80 = .ok (.iload_n 1, 1) := by decide +kernel
theorem dX13_verify_81 : decode cX13_verify 81 = .ok (.ifCond .eq 16, 3) := by decide +kernel
theorem dX13_verify_84 : decode cX13_verify 84 = .ok (.aload_n 0, 1) := by decide +kernel
theorem dX13_verify_85 : decode cX13_verify 85 = .ok (.iload_n 2, 1) := by decide +kernel
theorem dX13_verify_86 : decode cX13_verify 86 = .ok (.iload_n 3, 1) := by decide +kernel
theorem dX13_verify_87 : decode cX13_verify 87 = .ok (.invokevirtual 907, 3) := by decide +kernel
theorem dX13_verify_90 : decode cX13_verify 90 = .ok (.istore_n 1, 1) := by decide +kernel
theorem dX13_verify_91 : decode cX13_verify 91 = .ok (.iinc 3 1, 3) := by decide +kernel
theorem dX13_verify_94 : decode cX13_verify 94 = .ok (.goto (-27), 3) := by decide +kernel
theorem dX13_verify_97 : decode cX13_verify 97 = .ok (.iinc 2 1, 3) := by decide +kernel
theorem dX13_verify_100 : decode cX13_verify 100 = .ok (.goto (-50), 3) := by decide +kernel
theorem dX13_verify_103 : decode cX13_verify 103 = .ok (.aload_n 0, 1) := by decide +kernel
theorem dX13_verify_104 : decode cX13_verify 104 = .ok (.iload_n 1, 1) := by decide +kernel
theorem dX13_verify_105 : decode cX13_verify 105 = .ok (.putfield 855, 3) := by decide +kernel
theorem dX13_verify_108 : decode cX13_verify 108 = .ok (.aload_n 0, 1) := by decide +kernel
theorem dX13_verify_109 : decode cX13_verify 109 = .ok (.getfield 901, 3) := by decide +kernel
theorem dX13_verify_112 : decode cX13_verify 112 = .ok (.ireturn, 1) := by decide +kernel
theorem dX13_kindsAreThere_0 : decode cX13_kindsAreThere 0 = .ok (.iconst 1, 1) := by decide +kernel
theorem dX13_kindsAreThere_1 : decode cX13_kindsAreThere 1 = .ok (.istore_n 2, 1) := by decide +kernel
theorem dX13_kindsAreThere_2 : decode cX13_kindsAreThere 2 = .ok (.iconst 0, 1) := by decide +kernel
theorem dX13_kindsAreThere_3 : decode cX13_kindsAreThere 3 = .ok (.istore_n 3, 1) := by decide +kernel
theorem dX13_kindsAreThere_4 : decode cX13_kindsAreThere 4 = .ok (.iload_n 3, 1) := by decide +kernel
theorem dX13_kindsAreThere_5 : decode cX13_kindsAreThere 5 = .ok (.aload_n 0, 1) := by decide +kernel
theorem dX13_kindsAreThere_6 : decode cX13_kindsAreThere 6 = .ok (.getfield 227, 3) := by decide +kernel
theorem dX13_kindsAreThere_9 : decode cX13_kindsAreThere 9 = .ok (.iload_n 1, 1) := by decide +kernel
theorem dX13_kindsAreThere_10 : decode cX13_kindsAreThere 10 = .ok (.iaload, 1) := by decide +kernel
theorem dX13_kindsAreThere_11 : decode cX13_kindsAreThere 11 = .ok (.if_icmp .ge 29, 3) := by decide +kernel
theorem dX13_kindsAreThere_14 : decode cX13_kindsAreThere 14 = .ok (.iload_n 2, 1) := by decide +kernel
theorem dX13_kindsAreThere_15 : decode cX13_kindsAreThere 15 = .ok (.ifCond .eq 25, 3) := by decide +kernel
theorem dX13_kindsAreThere_18 : decode cX13_kindsAreThere 18 = .ok (.aload_n 0, 1) := by decide +kernel
theorem dX13_kindsAreThere_19 : decode cX13_kindsAreThere 19 = .ok (.iload_n 1, 1) := by decide +kernel
theorem dX13_kindsAreThere_20 : decode cX13_kindsAreThere 20 = .ok (.aload_n 0, 1) := by decide +kernel
theorem dX13_kindsAreThere_21 : decode cX13_kindsAreThere 21 = .ok (.iload_n 1, 1) := by decide +kernel
theorem dX13_kindsAreThere_22 : decode cX13_kindsAreThere 22 = .ok (.iload_n 3, 1) := by decide +kernel
theorem dX13_kindsAreThere_23 : decode cX13_kindsAreThere 23 = .ok (.iconst 0, 1) := by decide +kernel
theorem dX13_kindsAreThere_24 : decode cX13_kindsAreThere 24 = .ok (.invokevirtual 910, 3) := by decide +kernel
theorem dX13_kindsAreThere_27 : decode cX13_kindsAreThere 27 = .ok (.invokevirtual 913, 3) := by decide +kernel
theorem dX13_kindsAreThere_30 : decode cX13_kindsAreThere 30 = .ok (.invokestatic 916, 3) := by decide +kernel
theorem dX13_kindsAreThere_33 : decode cX13_kindsAreThere 33 = .ok (.istore_n 2, 1) := by decide +kernel
theorem dX13_kindsAreThere_34 : decode cX13_kindsAreThere 34 = .ok (.iinc 3 1, 3) := by decide +kernel
theorem dX13_kindsAreThere_37 : decode cX13_kindsAreThere 37 = .ok (.goto (-33), 3) := by decide +kernel
theorem dX13_kindsAreThere_40 : decode cX13_kindsAreThere 40 = .ok (.iconst 0, 1) := by decide +kernel
theorem dX13_kindsAreThere_41 : decode cX13_kindsAreThere 41 = .ok (.istore_n 3, 1) := by decide +kernel
theorem dX13_kindsAreThere_42 : decode cX13_kindsAreThere 42 = .ok (.iload_n 3, 1) := by decide +kernel
theorem dX13_kindsAreThere_43 : decode cX13_kindsAreThere 43 = .ok (.aload_n 0, 1) := by decide +kernel
theorem dX13_kindsAreThere_44 : decode cX13_kindsAreThere 44 = .ok (.getfield 233, 3) := by decide +kernel
theorem dX13_kindsAreThere_47 : decode cX13_kindsAreThere 47 = .ok (.iload_n 1, 1) := by decide +kernel
theorem dX13_kindsAreThere_48 : decode cX13_kindsAreThere 48 = .ok (.iaload, 1) := by decide +kernel
theorem dX13_kindsAreThere_49 : decode cX13_kindsAreThere 49 = .ok (.if_icmp .ge 100, 3) := by decide +kernel
theorem dX13_kindsAreThere_52 : decode cX13_kindsAreThere 52 = .ok (.iload_n 2, 1) := by decide +kernel
theorem dX13_kindsAreThere_53 : decode cX13_kindsAreThere 53 = .ok (.ifCond .eq 96, 3) := by decide +kernel
theorem dX13_kindsAreThere_56 : decode cX13_kindsAreThere 56 = .ok (.sipush 6000, 3) := by decide +kernel
theorem dX13_kindsAreThere_59 : decode cX13_kindsAreThere 59 = .ok (.iload_n 1, 1) := by decide +kernel
theorem dX13_kindsAreThere_60 : decode cX13_kindsAreThere 60 = .ok (.imul, 1) := by decide +kernel
theorem dX13_kindsAreThere_61 : decode cX13_kindsAreThere 61 = .ok (.aload_n 0, 1) := by decide +kernel
theorem dX13_kindsAreThere_62 : decode cX13_kindsAreThere 62 = .ok (.getfield 215, 3) := by decide +kernel
theorem dX13_kindsAreThere_65 : decode cX13_kindsAreThere 65 = .ok (.sipush 256, 3) := by decide +kernel
theorem dX13_kindsAreThere_68 : decode cX13_kindsAreThere 68 = .ok (.iload_n 1, 1) := by decide +kernel
theorem dX13_kindsAreThere_69 : decode cX13_kindsAreThere 69 = .ok (.imul, 1) := by decide +kernel
theorem dX13_kindsAreThere_70 : decode cX13_kindsAreThere 70 = .ok (.aload_n 0, 1) := by decide +kernel
theorem dX13_kindsAreThere_71 : decode cX13_kindsAreThere 71 = .ok (.iload_n 1, 1) := by decide +kernel
theorem dX13_kindsAreThere_72 : decode cX13_kindsAreThere 72 = .ok (.iload_n 3, 1) := by decide +kernel
theorem dX13_kindsAreThere_73 : decode cX13_kindsAreThere 73 = .ok (.iconst 1, 1) := by decide +kernel
theorem dX13_kindsAreThere_74 : decode cX13_kindsAreThere 74 = .ok (.invokevirtual 910, 3) := by decide +kernel
theorem dX13_kindsAreThere_77 : decode cX13_kindsAreThere 77 = .ok (.iadd, 1) := by decide +kernel
theorem dX13_kindsAreThere_78 : decode cX13_kindsAreThere 78 = .ok (.iaload, 1) := by decide +kernel
theorem dX13_kindsAreThere_79 : decode cX13_kindsAreThere 79 = .ok (.iadd, 1) := by decide +kernel
theorem dX13_kindsAreThere_80 : decode cX13_kindsAreThere 80 = .ok (.iconst 3, 1) := by decide +kernel
theorem dX13_kindsAreThere_81 : decode cX13_kindsAreThere 81 = .ok (.iadd, 1) := by decide +kernel
theorem dX13_kindsAreThere_82 : decode cX13_kindsAreThere 82 = .ok (.istore 4, 2) := by decide +kernel
theorem dX13_kindsAreThere_84 : decode cX13_kindsAreThere 84 = .ok (.aload_n 0, 1) := by decide +kernel
theorem dX13_kindsAreThere_85 : decode cX13_kindsAreThere 85 = .ok (.getfield 209, 3) := by decide +kernel
theorem dX13_kindsAreThere_88 : decode cX13_kindsAreThere 88 = .ok (.iload 4, 2) := by decide +kernel
theorem dX13_kindsAreThere_90 : decode cX13_kindsAreThere 90 = .ok (.iaload, 1) := by decide +kernel
theorem dX13_kindsAreThere_91 : decode cX13_kindsAreThere 91 = .ok (.bipush 41, 2) := by decide +kernel
theorem dX13_kindsAreThere_93 : decode cX13_kindsAreThere 93 = .ok (.if_icmp .eq 26, 3) := by decide +kernel
theorem dX13_kindsAreThere_96 : decode cX13_kindsAreThere 96 = .ok (.iload_n 2, 1) := by decide +kernel
theorem dX13_kindsAreThere_97 : decode cX13_kindsAreThere 97 = .ok (.ifCond .eq 22, 3) := by decide +kernel
theorem dX13_kindsAreThere_100 : decode cX13_kindsAreThere 100 = .ok (.aload_n 0, 1) := by decide +kernel
theorem dX13_kindsAreThere_101 : decode cX13_kindsAreThere 101 = .ok (.iload 4, 2) := by decide +kernel
theorem dX13_kindsAreThere_103 : decode cX13_kindsAreThere 103 = .ok (.invokevirtual 885, 3) := by decide +kernel
theorem dX13_kindsAreThere_106 : decode cX13_kindsAreThere 106 = .ok (.invokestatic 916, 3) := by decide +kernel
theorem dX13_kindsAreThere_109 : decode cX13_kindsAreThere 109 = .ok (.istore_n 2, 1) := by decide +kernel
theorem dX13_kindsAreThere_110 : decode cX13_kindsAreThere 110 = .ok (.aload_n 0, 1) := by decide +kernel
theorem dX13_kindsAreThere_111 : decode cX13_kindsAreThere 111 = .ok (.getfield 879, 3) := by decide +kernel
theorem dX13_kindsAreThere_114 : decode cX13_kindsAreThere 114 = .ok (.istore 4, 2) := by decide +kernel
theorem dX13_kindsAreThere_116 : decode cX13_kindsAreThere 116 = .ok (.goto (-32), 3) := by decide +kernel
theorem dX13_kindsAreThere_119 : decode cX13_kindsAreThere 119 = .ok (.iload_n 2, 1) := by decide +kernel
theorem dX13_kindsAreThere_120 : decode cX13_kindsAreThere 120 = .ok (.ifCond .eq 21, 3) := by decide +kernel
theorem dX13_kindsAreThere_123 : decode cX13_kindsAreThere 123 = .ok (.aload_n 0, 1) := by decide +kernel
theorem dX13_kindsAreThere_124 : decode cX13_kindsAreThere 124 = .ok (.iload 4, 2) := by decide +kernel
theorem dX13_kindsAreThere_126 : decode cX13_kindsAreThere 126 = .ok (.iconst 1, 1) := by decide +kernel
theorem dX13_kindsAreThere_127 : decode cX13_kindsAreThere 127 = .ok (.iadd, 1) := by decide +kernel
theorem dX13_kindsAreThere_128 : decode cX13_kindsAreThere 128 = .ok (.invokevirtual 885, 3) := by decide +kernel
theorem dX13_kindsAreThere_131 : decode cX13_kindsAreThere 131 = .ok (.invokestatic 916, 3) := by decide +kernel
theorem dX13_kindsAreThere_134 : decode cX13_kindsAreThere 134 = .ok (.ifCond .eq 7, 3) := by decide +kernel
theorem dX13_kindsAreThere_137 : decode cX13_kindsAreThere 137 = .ok (.iconst 1, 1) := by decide +kernel
theorem dX13_kindsAreThere_138 : decode cX13_kindsAreThere 138 = .ok (.goto 4, 3) := by decide +kernel
theorem dX13_kindsAreThere_141 : decode cX13_kindsAreThere 141 = .ok (.iconst 0, 1) := by decide +kernel
theorem dX13_kindsAreThere_142 : decode cX13_kindsAreThere 142 = .ok (.istore_n 2, 1) := by decide +kernel
theorem dX13_kindsAreThere_143 : decode cX13_kindsAreThere 143 = .ok (.iinc 3 1, 3) := by decide +kernel
theorem dX13_kindsAreThere_146 : decode cX13_kindsAreThere 146 = .ok (.goto (-104), 3) := by decide +kernel
theorem dX13_kindsAreThere_149 : decode cX13_kindsAreThere 149 = .ok (.iload_n 2, 1) := by decide +kernel
theorem dX13_kindsAreThere_150 : decode cX13_kindsAreThere 150 = .ok (.ireturn, 1) := by decide +kernel
theorem dX13_classFits_0 : decode cX13_classFits 0 = .ok (.iload_n 1, 1) := by decide +kernel
theorem dX13_classFits_1 : decode cX13_classFits 1 = .ok (.bipush 8, 2) := by decide +kernel
theorem dX13_classFits_3 : decode cX13_classFits 3 = .ok (.isub, 1) := by decide +kernel
theorem dX13_classFits_4 : decode cX13_classFits 4 = .ok (.istore_n 2, 1) := by decide +kernel
theorem dX13_classFits_5 : decode cX13_classFits 5 = .ok (.aload_n 0, 1) := by decide +kernel
theorem dX13_classFits_6 : decode cX13_classFits 6 = .ok (.iload_n 1, 1) := by decide +kernel
theorem dX13_classFits_7 : decode cX13_classFits 7 = .ok (.invokevirtual 873, 3) := by decide +kernel
theorem dX13_classFits_10 : decode cX13_classFits 10 = .ok (.iconst (-1), 1) := by decide +kernel
theorem dX13_classFits_11 : decode cX13_classFits 11 = .ok (.if_icmp .eq 11, 3) := by decide +kernel
theorem dX13_classFits_14 : decode cX13_classFits 14 = .ok (.aload_n 0, 1) := by decide +kernel
theorem dX13_classFits_15 : decode cX13_classFits 15 = .ok (.iload_n 2, 1) := by decide +kernel
theorem dX13_classFits_16 : decode cX13_classFits 16 = .ok (.invokevirtual 919, 3) := by decide +kernel
theorem dX13_classFits_19 : decode cX13_classFits 19 = .ok (.ifCond .ne 12, 3) := by decide +kernel
theorem dX13_classFits_22 : decode cX13_classFits 22 = .ok (.aload_n 0, 1) := by decide +kernel
theorem dX13_classFits_23 : decode cX13_classFits 23 = .ok (.iconst 3, 1) := by decide +kernel
theorem dX13_classFits_24 : decode cX13_classFits 24 = .ok (.iload_n 1, 1) := by decide +kernel
theorem dX13_classFits_25 : decode cX13_classFits 25 = .ok (.iconst (-1), 1) := by decide +kernel
theorem dX13_classFits_26 : decode cX13_classFits 26 = .ok (.iconst (-1), 1) := by decide +kernel
theorem dX13_classFits_27 : decode cX13_classFits 27 = .ok (.invokevirtual 922, 3) := by decide +kernel
theorem dX13_classFits_30 : decode cX13_classFits 30 = .ok (.ireturn, 1) := by decide +kernel
theorem dX13_classFits_31 : decode cX13_classFits 31 = .ok (.iload_n 1, 1) := by decide +kernel
theorem dX13_classFits_32 : decode cX13_classFits 32 = .ok (.istore_n 3, 1) := by decide +kernel
theorem dX13_classFits_33 : decode cX13_classFits 33 = .ok (.iconst 0, 1) := by decide +kernel
theorem dX13_classFits_34 : decode cX13_classFits 34 = .ok (.istore 4, 2) := by decide +kernel
theorem dX13_classFits_36 : decode cX13_classFits 36 = .ok (.iload 4, 2) := by decide +kernel
theorem dX13_classFits_38 : decode cX13_classFits 38 = .ok (.bipush 16, 2) := by decide +kernel
theorem dX13_classFits_40 : decode cX13_classFits 40 = .ok (.if_icmp .gt 20, 3) := by decide +kernel
theorem dX13_classFits_43 : decode cX13_classFits 43 = .ok (.iload_n 3, 1) := by decide +kernel
theorem dX13_classFits_44 : decode cX13_classFits 44 = .ok (.iconst (-1), 1) := by decide +kernel
theorem dX13_classFits_45 : decode cX13_classFits 45 = .ok (.if_icmp .eq 15, 3) := by decide +kernel
theorem dX13_classFits_48 : decode cX13_classFits 48 = .ok (.aload_n 0, 1) := by decide +kernel
theorem dX13_classFits_49 : decode cX13_classFits 49 = .ok (.iload_n 3, 1) := by decide +kernel
theorem dX13_classFits_50 : decode cX13_classFits 50 = .ok (.invokevirtual 873, 3) := by decide +kernel
theorem dX13_classFits_53 : decode cX13_classFits 53 = .ok (.istore_n 3, 1) := by decide +kernel
theorem dX13_classFits_54 : decode cX13_classFits 54 = .ok (.iinc 4 1, 3) := by decide +kernel
theorem dX13_classFits_57 : decode cX13_classFits 57 = .ok (.goto (-21), 3) := by decide +kernel
theorem dX13_classFits_60 : decode cX13_classFits 60 = .ok (.iload_n 3, 1) := by decide +kernel
theorem dX13_classFits_61 : decode cX13_classFits 61 = .ok (.iconst (-1), 1) := by decide +kernel
theorem dX13_classFits_62 : decode cX13_classFits 62 = .ok (.if_icmp .eq 12, 3) := by decide +kernel
theorem dX13_classFits_65 : decode cX13_classFits 65 = .ok (.aload_n 0, 1) := by decide +kernel
theorem dX13_classFits_66 : decode cX13_classFits 66 = .ok (.iconst 3, 1) := by decide +kernel
theorem dX13_classFits_67 : decode cX13_classFits 67 = .ok (.iload_n 1, 1) := by decide +kernel
theorem dX13_classFits_68 : decode cX13_classFits 68 = .ok (.iconst (-1), 1) := by decide +kernel
theorem dX13_classFits_69 : decode cX13_classFits 69 = .ok (.iconst (-1), 1) := by decide +kernel
theorem dX13_classFits_70 : decode cX13_classFits 70 = .ok (.invokevirtual 922, 3) := by decide +kernel
theorem dX13_classFits_73 : decode cX13_classFits 73 = .ok (.ireturn, 1) := by decide +kernel
theorem dX13_classFits_74 : decode cX13_classFits 74 = .ok (.iconst 0, 1) := by decide +kernel
theorem dX13_classFits_75 : decode cX13_classFits 75 = .ok (.istore 4, 2) := by decide +kernel
theorem dX13_classFits_77 : decode cX13_classFits 77 = .ok (.iload 4, 2) := by decide +kernel
theorem dX13_classFits_79 : decode cX13_classFits 79 = .ok (.iconst 2, 1) := by decide +kernel
theorem dX13_classFits_80 : decode cX13_classFits 80 = .ok (.if_icmp .ge 121, 3) := by decide +kernel
theorem dX13_classFits_83 : decode cX13_classFits 83 = .ok (.iload 4, 2) := by decide +kernel
theorem dX13_classFits_85 : decode cX13_classFits 85 = .ok (.iconst 1, 1) := by decide +kernel
theorem dX13_classFits_86 : decode cX13_classFits 86 = .ok (.if_icmp .ne 12, 3) := by decide +kernel
theorem dX13_classFits_89 : decode cX13_classFits 89 = .ok (.aload_n 0, 1) := by decide +kernel
theorem dX13_classFits_90 : decode cX13_classFits 90 = .ok (.getfield 233, 3) := by decide +kernel
theorem dX13_classFits_93 : decode cX13_classFits 93 = .ok (.iload_n 2, 1) := by decide +kernel
theorem dX13_classFits_94 : decode cX13_classFits 94 = .ok (.iaload, 1) := by decide +kernel
theorem dX13_classFits_95 : decode cX13_classFits 95 = .ok (.goto 9, 3) := by decide +kernel
theorem dX13_classFits_98 : decode cX13_classFits 98 = .ok (.aload_n 0, 1) := by decide +kernel
theorem dX13_classFits_99 : decode cX13_classFits 99 = .ok (.getfield 227, 3) := by decide +kernel
theorem dX13_classFits_102 : decode cX13_classFits 102 = .ok (.iload_n 2, 1) := by decide +kernel
theorem dX13_classFits_103 : decode cX13_classFits 103 = .ok (.iaload, 1) := by decide +kernel
theorem dX13_classFits_104 : decode cX13_classFits 104 = .ok (.istore 5, 2) := by decide +kernel
theorem dX13_classFits_106 : decode cX13_classFits 106 = .ok (.iconst 0, 1) := by decide +kernel
theorem dX13_classFits_107 : decode cX13_classFits 107 = .ok (.istore 6, 2) := by decide +kernel
theorem dX13_classFits_109 : decode cX13_classFits 109 = .ok (.iload 6, 2) := by decide +kernel
theorem dX13_classFits_111 : decode cX13_classFits 111 = .ok (.iload 5, 2) := by decide +kernel
theorem dX13_classFits_113 : decode cX13_classFits 113 = .ok (.if_icmp .ge 82, 3) := by decide +kernel
theorem dX13_classFits_116 : decode cX13_classFits 116 = .ok (.iload 6, 2) := by decide +kernel
theorem dX13_classFits_118 : decode cX13_classFits 118 = .ok (.iconst 1, 1) := by decide +kernel
theorem dX13_classFits_119 : decode cX13_classFits 119 = .ok (.iadd, 1) := by decide +kernel
theorem dX13_classFits_120 : decode cX13_classFits 120 = .ok (.istore 7, 2) := by decide +kernel
theorem dX13_classFits_122 : decode cX13_classFits 122 = .ok (.iload 7, 2) := by decide +kernel
theorem dX13_classFits_124 : decode cX13_classFits 124 = .ok (.iload 5, 2) := by decide +kernel
theorem dX13_classFits_126 : decode cX13_classFits 126 = .ok (.if_icmp .ge 63, 3) := by decide +kernel
theorem dX13_classFits_129 : decode cX13_classFits 129 = .ok (.aload_n 0, 1) := by decide +kernel
theorem dX13_classFits_130 : decode cX13_classFits 130 = .ok (.iload_n 2, 1) := by decide +kernel
theorem dX13_classFits_131 : decode cX13_classFits 131 = .ok (.aload_n 0, 1) := by decide +kernel
theorem dX13_classFits_132 : decode cX13_classFits 132 = .ok (.iload_n 2, 1) := by decide +kernel
theorem dX13_classFits_133 : decode cX13_classFits 133 = .ok (.iload 6, 2) := by decide +kernel
theorem dX13_classFits_135 : decode cX13_classFits 135 = .ok (.iload 4, 2) := by decide +kernel
theorem dX13_classFits_137 : decode cX13_classFits 137 = .ok (.iconst 1, 1) := by decide +kernel
theorem dX13_classFits_138 : decode cX13_classFits 138 = .ok (.if_icmp .ne 7, 3) := by decide +kernel
theorem dX13_classFits_141 : decode cX13_classFits 141 = .ok (.iconst 1, 1) := by decide +kernel
theorem dX13_classFits_142 : decode cX13_classFits 142 = .ok (.goto 4, 3) := by decide +kernel
theorem dX13_classFits_145 : decode cX13_classFits 145 = .ok (.iconst 0, 1) := by decide +kernel
theorem dX13_classFits_146 : decode cX13_classFits 146 = .ok (.invokevirtual 925, 3) := by decide +kernel
theorem dX13_classFits_149 : decode cX13_classFits 149 = .ok (.iload_n 2, 1) := by decide +kernel
theorem dX13_classFits_150 : decode cX13_classFits 150 = .ok (.aload_n 0, 1) := by decide +kernel
theorem dX13_classFits_151 : decode cX13_classFits 151 = .ok (.iload_n 2, 1) := by decide +kernel
theorem dX13_classFits_152 : decode cX13_classFits 152 = .ok (.iload 7, 2) := by decide +kernel
theorem dX13_classFits_154 : decode cX13_classFits 154 = .ok (.iload 4, 2) := by decide +kernel
theorem dX13_classFits_156 : decode cX13_classFits 156 = .ok (.iconst 1, 1) := by decide +kernel
theorem dX13_classFits_157 : decode cX13_classFits 157 = .ok (.if_icmp .ne 7, 3) := by decide +kernel
theorem dX13_classFits_160 : decode cX13_classFits 160 = .ok (.iconst 1, 1) := by decide +kernel
theorem dX13_classFits_161 : decode cX13_classFits 161 = .ok (.goto 4, 3) := by decide +kernel
theorem dX13_classFits_164 : decode cX13_classFits 164 = .ok (.iconst 0, 1) := by decide +kernel
theorem dX13_classFits_165 : decode cX13_classFits 165 = .ok (.invokevirtual 925, 3) := by decide +kernel
theorem dX13_classFits_168 : decode cX13_classFits 168 = .ok (.invokevirtual 894, 3) := by decide +kernel
theorem dX13_classFits_171 : decode cX13_classFits 171 = .ok (.ifCond .eq 12, 3) := by decide +kernel
theorem dX13_classFits_174 : decode cX13_classFits 174 = .ok (.aload_n 0, 1) := by decide +kernel
theorem dX13_classFits_175 : decode cX13_classFits 175 = .ok (.iconst 4, 1) := by decide +kernel
theorem dX13_classFits_176 : decode cX13_classFits 176 = .ok (.iload_n 1, 1) := by decide +kernel
theorem dX13_classFits_177 : decode cX13_classFits 177 = .ok (.iconst (-1), 1) := by decide +kernel
theorem dX13_classFits_178 : decode cX13_classFits 178 = .ok (.iconst (-1), 1) := by decide +kernel
theorem dX13_classFits_179 : decode cX13_classFits 179 = .ok (.invokevirtual 922, 3) := by decide +kernel
theorem dX13_classFits_182 : decode cX13_classFits 182 = .ok (.ireturn, 1) := by decide +kernel
theorem dX13_classFits_183 : decode cX13_classFits 183 = .ok (.iinc 7 1, 3) := by decide +kernel
theorem dX13_classFits_186 : decode cX13_classFits 186 = .ok (.goto (-64), 3) := by decide +kernel
theorem dX13_classFits_189 : decode cX13_classFits 189 = .ok (.iinc 6 1, 3) := by decide +kernel
theorem dX13_classFits_192 : decode cX13_classFits 192 = .ok (.goto (-83), 3) := by decide +kernel
theorem dX13_classFits_195 : decode cX13_classFits 195 = .ok (.iinc 4 1, 3) := by decide +kernel
theorem dX13_classFits_198 : decode cX13_classFits 198 = .ok (.goto (-121), 3) := by decide +kernel
theorem dX13_classFits_201 : decode cX13_classFits 201 = .ok (.iconst 0, 1) := by decide +kernel
theorem dX13_classFits_202 : decode cX13_classFits 202 = .ok (.istore 4, 2) := by decide +kernel
theorem dX13_classFits_204 : decode cX13_classFits 204 = .ok (.iload 4, 2) := by decide +kernel
theorem dX13_classFits_206 : decode cX13_classFits 206 = .ok (.aload_n 0, 1) := by decide +kernel
theorem dX13_classFits_207 : decode cX13_classFits 207 = .ok (.getfield 233, 3) := by decide +kernel
theorem dX13_classFits_210 : decode cX13_classFits 210 = .ok (.iload_n 2, 1) := by decide +kernel
theorem dX13_classFits_211 : decode cX13_classFits 211 = .ok (.iaload, 1) := by decide +kernel
theorem dX13_classFits_212 : decode cX13_classFits 212 = .ok (.if_icmp .ge 134, 3) := by decide +kernel
theorem dX13_classFits_215 : decode cX13_classFits 215 = .ok (.aload_n 0, 1) := by decide +kernel
theorem dX13_classFits_216 : decode cX13_classFits 216 = .ok (.aload_n 0, 1) := by decide +kernel
theorem dX13_classFits_217 : decode cX13_classFits 217 = .ok (.iload_n 1, 1) := by decide +kernel
theorem dX13_classFits_218 : decode cX13_classFits 218 = .ok (.invokevirtual 873, 3) := by decide +kernel
theorem dX13_classFits_221 : decode cX13_classFits 221 = .ok (.iload_n 2, 1) := by decide +kernel
theorem dX13_classFits_222 : decode cX13_classFits 222 = .ok (.aload_n 0, 1) := by decide +kernel
theorem dX13_classFits_223 : decode cX13_classFits 223 = .ok (.iload_n 2, 1) := by decide +kernel
